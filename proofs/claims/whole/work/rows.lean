section
-- ===== PART A: goes FIRST, ahead of the names: the tables' words, and 'selects' of the private methods out of them =====
/-- a private method of a class that the tables say can be made, by its rows of tables_1 -/
def lw_okq (q : MethodName × Nat) : Prop := (q.1.cls ≠ "java/lang/invoke/MethodHandle" ∧ q.1.cls ≠ "java/lang/invoke/VarHandle") ∧ Cond.instantiable q.1.cls q.2 ∈ tables_1 ∧ Cond.privateMethod q.1 ∈ tables_1 ∧ Cond.instanceMethod q.1 ∈ tables_1
theorem lw_p0 : lw_okq (⟨"TicketRealm", "hasRoom", "(II)Z"⟩, 12) := ⟨⟨by decide +kernel, by decide +kernel⟩, List.mem_of_getElem? (i := 14) (by decide +kernel), List.mem_of_getElem? (i := 152) (by decide +kernel), List.mem_of_getElem? (i := 153) (by decide +kernel)⟩
theorem lw_p1 : lw_okq (⟨"TicketRealm", "makeKey", "()I"⟩, 12) := ⟨⟨by decide +kernel, by decide +kernel⟩, List.mem_of_getElem? (i := 14) (by decide +kernel), List.mem_of_getElem? (i := 156) (by decide +kernel), List.mem_of_getElem? (i := 157) (by decide +kernel)⟩
theorem lw_p2 : lw_okq (⟨"TicketRealm", "userAt", "(I)LTicketRealm$User;"⟩, 12) := ⟨⟨by decide +kernel, by decide +kernel⟩, List.mem_of_getElem? (i := 14) (by decide +kernel), List.mem_of_getElem? (i := 213) (by decide +kernel), List.mem_of_getElem? (i := 214) (by decide +kernel)⟩
theorem lw_p3 : lw_okq (⟨"TicketRealm", "makeNonce", "()I"⟩, 12) := ⟨⟨by decide +kernel, by decide +kernel⟩, List.mem_of_getElem? (i := 14) (by decide +kernel), List.mem_of_getElem? (i := 223) (by decide +kernel), List.mem_of_getElem? (i := 224) (by decide +kernel)⟩
theorem lw_p4 : lw_okq (⟨"TicketRealm", "keep", "(LTicketRealm$Seal;)I"⟩, 12) := ⟨⟨by decide +kernel, by decide +kernel⟩, List.mem_of_getElem? (i := 14) (by decide +kernel), List.mem_of_getElem? (i := 255) (by decide +kernel), List.mem_of_getElem? (i := 256) (by decide +kernel)⟩
theorem lw_p5 : lw_okq (⟨"TicketRealm", "sealAt", "(I)LTicketRealm$Seal;"⟩, 12) := ⟨⟨by decide +kernel, by decide +kernel⟩, List.mem_of_getElem? (i := 14) (by decide +kernel), List.mem_of_getElem? (i := 326) (by decide +kernel), List.mem_of_getElem? (i := 327) (by decide +kernel)⟩
theorem lw_p6 : lw_okq (⟨"TicketRealm", "openPart", "(II)LTicketRealm$Part;"⟩, 12) := ⟨⟨by decide +kernel, by decide +kernel⟩, List.mem_of_getElem? (i := 14) (by decide +kernel), List.mem_of_getElem? (i := 330) (by decide +kernel), List.mem_of_getElem? (i := 331) (by decide +kernel)⟩
theorem lw_p7 : lw_okq (⟨"TicketRealm", "open", "(II)LTicketRealm$Seal;"⟩, 12) := ⟨⟨by decide +kernel, by decide +kernel⟩, List.mem_of_getElem? (i := 14) (by decide +kernel), List.mem_of_getElem? (i := 334) (by decide +kernel), List.mem_of_getElem? (i := 335) (by decide +kernel)⟩
theorem lw_p8 : lw_okq (⟨"TicketRealm", "isUserInBook", "(I)Z"⟩, 12) := ⟨⟨by decide +kernel, by decide +kernel⟩, List.mem_of_getElem? (i := 14) (by decide +kernel), List.mem_of_getElem? (i := 351) (by decide +kernel), List.mem_of_getElem? (i := 352) (by decide +kernel)⟩
theorem lw_p9 : lw_okq (⟨"TicketRealm", "isTargetInBook", "(I)Z"⟩, 12) := ⟨⟨by decide +kernel, by decide +kernel⟩, List.mem_of_getElem? (i := 14) (by decide +kernel), List.mem_of_getElem? (i := 355) (by decide +kernel), List.mem_of_getElem? (i := 356) (by decide +kernel)⟩
theorem lw_p10 : lw_okq (⟨"TicketRealm", "openProof", "(II)LTicketRealm$Proof;"⟩, 12) := ⟨⟨by decide +kernel, by decide +kernel⟩, List.mem_of_getElem? (i := 14) (by decide +kernel), List.mem_of_getElem? (i := 359) (by decide +kernel), List.mem_of_getElem? (i := 360) (by decide +kernel)⟩
theorem lw_p11 : lw_okq (⟨"TicketRealm", "near", "(II)Z"⟩, 12) := ⟨⟨by decide +kernel, by decide +kernel⟩, List.mem_of_getElem? (i := 14) (by decide +kernel), List.mem_of_getElem? (i := 363) (by decide +kernel), List.mem_of_getElem? (i := 364) (by decide +kernel)⟩
theorem lw_p12 : lw_okq (⟨"TicketRealm", "firstEnd", "(III)I"⟩, 12) := ⟨⟨by decide +kernel, by decide +kernel⟩, List.mem_of_getElem? (i := 14) (by decide +kernel), List.mem_of_getElem? (i := 370) (by decide +kernel), List.mem_of_getElem? (i := 371) (by decide +kernel)⟩
theorem lw_p13 : lw_okq (⟨"TicketRealm", "makeTicketAndPart", "(IIIIII)I"⟩, 12) := ⟨⟨by decide +kernel, by decide +kernel⟩, List.mem_of_getElem? (i := 14) (by decide +kernel), List.mem_of_getElem? (i := 374) (by decide +kernel), List.mem_of_getElem? (i := 375) (by decide +kernel)⟩
theorem lw_p14 : lw_okq (⟨"TicketRealm", "openTicket", "(II)LTicketRealm$Ticket;"⟩, 12) := ⟨⟨by decide +kernel, by decide +kernel⟩, List.mem_of_getElem? (i := 14) (by decide +kernel), List.mem_of_getElem? (i := 432) (by decide +kernel), List.mem_of_getElem? (i := 433) (by decide +kernel)⟩
theorem lw_p15 : lw_okq (⟨"TicketRealm", "openClaim", "(II)LTicketRealm$Claim;"⟩, 12) := ⟨⟨by decide +kernel, by decide +kernel⟩, List.mem_of_getElem? (i := 14) (by decide +kernel), List.mem_of_getElem? (i := 436) (by decide +kernel), List.mem_of_getElem? (i := 437) (by decide +kernel)⟩
def lw_privs_1 : List (MethodName × Nat) := [(⟨"TicketRealm", "hasRoom", "(II)Z"⟩, 12), (⟨"TicketRealm", "makeKey", "()I"⟩, 12), (⟨"TicketRealm", "userAt", "(I)LTicketRealm$User;"⟩, 12), (⟨"TicketRealm", "makeNonce", "()I"⟩, 12), (⟨"TicketRealm", "keep", "(LTicketRealm$Seal;)I"⟩, 12), (⟨"TicketRealm", "sealAt", "(I)LTicketRealm$Seal;"⟩, 12), (⟨"TicketRealm", "openPart", "(II)LTicketRealm$Part;"⟩, 12), (⟨"TicketRealm", "open", "(II)LTicketRealm$Seal;"⟩, 12), (⟨"TicketRealm", "isUserInBook", "(I)Z"⟩, 12), (⟨"TicketRealm", "isTargetInBook", "(I)Z"⟩, 12), (⟨"TicketRealm", "openProof", "(II)LTicketRealm$Proof;"⟩, 12), (⟨"TicketRealm", "near", "(II)Z"⟩, 12), (⟨"TicketRealm", "firstEnd", "(III)I"⟩, 12), (⟨"TicketRealm", "makeTicketAndPart", "(IIIIII)I"⟩, 12), (⟨"TicketRealm", "openTicket", "(II)LTicketRealm$Ticket;"⟩, 12), (⟨"TicketRealm", "openClaim", "(II)LTicketRealm$Claim;"⟩, 12)]
theorem lw_r1 : ∀ q ∈ lw_privs_1, lw_okq q := List.forall_mem_cons.mpr ⟨lw_p0, List.forall_mem_cons.mpr ⟨lw_p1, List.forall_mem_cons.mpr ⟨lw_p2, List.forall_mem_cons.mpr ⟨lw_p3, List.forall_mem_cons.mpr ⟨lw_p4, List.forall_mem_cons.mpr ⟨lw_p5, List.forall_mem_cons.mpr ⟨lw_p6, List.forall_mem_cons.mpr ⟨lw_p7, List.forall_mem_cons.mpr ⟨lw_p8, List.forall_mem_cons.mpr ⟨lw_p9, List.forall_mem_cons.mpr ⟨lw_p10, List.forall_mem_cons.mpr ⟨lw_p11, List.forall_mem_cons.mpr ⟨lw_p12, List.forall_mem_cons.mpr ⟨lw_p13, List.forall_mem_cons.mpr ⟨lw_p14, List.forall_mem_cons.mpr ⟨lw_p15, fun _ h => absurd h List.not_mem_nil⟩⟩⟩⟩⟩⟩⟩⟩⟩⟩⟩⟩⟩⟩⟩⟩
theorem lw_p16 : lw_okq (⟨"TicketRealm", "isStolen", "(I)Z"⟩, 12) := ⟨⟨by decide +kernel, by decide +kernel⟩, List.mem_of_getElem? (i := 14) (by decide +kernel), List.mem_of_getElem? (i := 484) (by decide +kernel), List.mem_of_getElem? (i := 485) (by decide +kernel)⟩
theorem lw_p17 : lw_okq (⟨"TicketRealm", "openNonce", "(I)I"⟩, 12) := ⟨⟨by decide +kernel, by decide +kernel⟩, List.mem_of_getElem? (i := 14) (by decide +kernel), List.mem_of_getElem? (i := 555) (by decide +kernel), List.mem_of_getElem? (i := 556) (by decide +kernel)⟩
theorem lw_p18 : lw_okq (⟨"TicketRealm", "heldTicket", "(II)I"⟩, 12) := ⟨⟨by decide +kernel, by decide +kernel⟩, List.mem_of_getElem? (i := 14) (by decide +kernel), List.mem_of_getElem? (i := 559) (by decide +kernel), List.mem_of_getElem? (i := 560) (by decide +kernel)⟩
theorem lw_p19 : lw_okq (⟨"TicketRealmModel", "booked", "(I)Z"⟩, 30) := ⟨⟨by decide +kernel, by decide +kernel⟩, List.mem_of_getElem? (i := 566) (by decide +kernel), List.mem_of_getElem? (i := 674) (by decide +kernel), List.mem_of_getElem? (i := 675) (by decide +kernel)⟩
theorem lw_p20 : lw_okq (⟨"TicketRealmModel", "copyBook", "(II)I"⟩, 30) := ⟨⟨by decide +kernel, by decide +kernel⟩, List.mem_of_getElem? (i := 566) (by decide +kernel), List.mem_of_getElem? (i := 690) (by decide +kernel), List.mem_of_getElem? (i := 691) (by decide +kernel)⟩
theorem lw_p21 : lw_okq (⟨"TicketRealmModel", "user", "(I)Z"⟩, 30) := ⟨⟨by decide +kernel, by decide +kernel⟩, List.mem_of_getElem? (i := 566) (by decide +kernel), List.mem_of_getElem? (i := 706) (by decide +kernel), List.mem_of_getElem? (i := 707) (by decide +kernel)⟩
theorem lw_p22 : lw_okq (⟨"TicketRealmModel", "request", "(III)V"⟩, 30) := ⟨⟨by decide +kernel, by decide +kernel⟩, List.mem_of_getElem? (i := 566) (by decide +kernel), List.mem_of_getElem? (i := 710) (by decide +kernel), List.mem_of_getElem? (i := 711) (by decide +kernel)⟩
theorem lw_p23 : lw_okq (⟨"TicketRealmModel", "makeProof", "(III)I"⟩, 30) := ⟨⟨by decide +kernel, by decide +kernel⟩, List.mem_of_getElem? (i := 566) (by decide +kernel), List.mem_of_getElem? (i := 714) (by decide +kernel), List.mem_of_getElem? (i := 715) (by decide +kernel)⟩
theorem lw_p24 : lw_okq (⟨"TicketRealmModel", "make", "(IIII)I"⟩, 30) := ⟨⟨by decide +kernel, by decide +kernel⟩, List.mem_of_getElem? (i := 566) (by decide +kernel), List.mem_of_getElem? (i := 718) (by decide +kernel), List.mem_of_getElem? (i := 719) (by decide +kernel)⟩
theorem lw_p25 : lw_okq (⟨"TicketRealmModel", "makeClaim", "(IIII)I"⟩, 30) := ⟨⟨by decide +kernel, by decide +kernel⟩, List.mem_of_getElem? (i := 566) (by decide +kernel), List.mem_of_getElem? (i := 726) (by decide +kernel), List.mem_of_getElem? (i := 727) (by decide +kernel)⟩
theorem lw_p26 : lw_okq (⟨"TicketRealmModel", "opens", "(III)Z"⟩, 30) := ⟨⟨by decide +kernel, by decide +kernel⟩, List.mem_of_getElem? (i := 566) (by decide +kernel), List.mem_of_getElem? (i := 734) (by decide +kernel), List.mem_of_getElem? (i := 735) (by decide +kernel)⟩
theorem lw_p27 : lw_okq (⟨"TicketRealmModel", "near", "(II)Z"⟩, 30) := ⟨⟨by decide +kernel, by decide +kernel⟩, List.mem_of_getElem? (i := 566) (by decide +kernel), List.mem_of_getElem? (i := 746) (by decide +kernel), List.mem_of_getElem? (i := 747) (by decide +kernel)⟩
theorem lw_p28 : lw_okq (⟨"TicketRealmModel", "bothSeals", "(IIIIII)I"⟩, 30) := ⟨⟨by decide +kernel, by decide +kernel⟩, List.mem_of_getElem? (i := 566) (by decide +kernel), List.mem_of_getElem? (i := 753) (by decide +kernel), List.mem_of_getElem? (i := 754) (by decide +kernel)⟩
theorem lw_p29 : lw_okq (⟨"TicketRealmModel", "makeTicket", "(IIIIII)I"⟩, 30) := ⟨⟨by decide +kernel, by decide +kernel⟩, List.mem_of_getElem? (i := 566) (by decide +kernel), List.mem_of_getElem? (i := 757) (by decide +kernel), List.mem_of_getElem? (i := 758) (by decide +kernel)⟩
theorem lw_p30 : lw_okq (⟨"TicketRealmModel", "makePart", "(IIIII)I"⟩, 30) := ⟨⟨by decide +kernel, by decide +kernel⟩, List.mem_of_getElem? (i := 566) (by decide +kernel), List.mem_of_getElem? (i := 761) (by decide +kernel), List.mem_of_getElem? (i := 762) (by decide +kernel)⟩
theorem lw_p31 : lw_okq (⟨"TicketRealmModel", "forgetOld", "()V"⟩, 30) := ⟨⟨by decide +kernel, by decide +kernel⟩, List.mem_of_getElem? (i := 566) (by decide +kernel), List.mem_of_getElem? (i := 773) (by decide +kernel), List.mem_of_getElem? (i := 774) (by decide +kernel)⟩
def lw_privs_2 : List (MethodName × Nat) := [(⟨"TicketRealm", "isStolen", "(I)Z"⟩, 12), (⟨"TicketRealm", "openNonce", "(I)I"⟩, 12), (⟨"TicketRealm", "heldTicket", "(II)I"⟩, 12), (⟨"TicketRealmModel", "booked", "(I)Z"⟩, 30), (⟨"TicketRealmModel", "copyBook", "(II)I"⟩, 30), (⟨"TicketRealmModel", "user", "(I)Z"⟩, 30), (⟨"TicketRealmModel", "request", "(III)V"⟩, 30), (⟨"TicketRealmModel", "makeProof", "(III)I"⟩, 30), (⟨"TicketRealmModel", "make", "(IIII)I"⟩, 30), (⟨"TicketRealmModel", "makeClaim", "(IIII)I"⟩, 30), (⟨"TicketRealmModel", "opens", "(III)Z"⟩, 30), (⟨"TicketRealmModel", "near", "(II)Z"⟩, 30), (⟨"TicketRealmModel", "bothSeals", "(IIIIII)I"⟩, 30), (⟨"TicketRealmModel", "makeTicket", "(IIIIII)I"⟩, 30), (⟨"TicketRealmModel", "makePart", "(IIIII)I"⟩, 30), (⟨"TicketRealmModel", "forgetOld", "()V"⟩, 30)]
theorem lw_r2 : ∀ q ∈ lw_privs_2, lw_okq q := List.forall_mem_cons.mpr ⟨lw_p16, List.forall_mem_cons.mpr ⟨lw_p17, List.forall_mem_cons.mpr ⟨lw_p18, List.forall_mem_cons.mpr ⟨lw_p19, List.forall_mem_cons.mpr ⟨lw_p20, List.forall_mem_cons.mpr ⟨lw_p21, List.forall_mem_cons.mpr ⟨lw_p22, List.forall_mem_cons.mpr ⟨lw_p23, List.forall_mem_cons.mpr ⟨lw_p24, List.forall_mem_cons.mpr ⟨lw_p25, List.forall_mem_cons.mpr ⟨lw_p26, List.forall_mem_cons.mpr ⟨lw_p27, List.forall_mem_cons.mpr ⟨lw_p28, List.forall_mem_cons.mpr ⟨lw_p29, List.forall_mem_cons.mpr ⟨lw_p30, List.forall_mem_cons.mpr ⟨lw_p31, fun _ h => absurd h List.not_mem_nil⟩⟩⟩⟩⟩⟩⟩⟩⟩⟩⟩⟩⟩⟩⟩⟩
theorem lw_p32 : lw_okq (⟨"TicketRealmModel", "same", "(II)Z"⟩, 30) := ⟨⟨by decide +kernel, by decide +kernel⟩, List.mem_of_getElem? (i := 566) (by decide +kernel), List.mem_of_getElem? (i := 777) (by decide +kernel), List.mem_of_getElem? (i := 778) (by decide +kernel)⟩
theorem lw_p33 : lw_okq (⟨"TicketRealmModel", "isStolen", "(I)Z"⟩, 30) := ⟨⟨by decide +kernel, by decide +kernel⟩, List.mem_of_getElem? (i := 566) (by decide +kernel), List.mem_of_getElem? (i := 797) (by decide +kernel), List.mem_of_getElem? (i := 798) (by decide +kernel)⟩
def lw_privs_3 : List (MethodName × Nat) := [(⟨"TicketRealmModel", "same", "(II)Z"⟩, 30), (⟨"TicketRealmModel", "isStolen", "(I)Z"⟩, 30)]
theorem lw_r3 : ∀ q ∈ lw_privs_3, lw_okq q := List.forall_mem_cons.mpr ⟨lw_p32, List.forall_mem_cons.mpr ⟨lw_p33, fun _ h => absurd h List.not_mem_nil⟩⟩
def lw_privs : List (MethodName × Nat) := lw_privs_1 ++ (lw_privs_2 ++ (lw_privs_3))
def lw_tbl : List Cond := k2_sels lw_privs ++ tables_1
theorem lw_privs_ok : ∀ q ∈ lw_privs, lw_okq q := by
  show ∀ q ∈ lw_privs_1 ++ (lw_privs_2 ++ (lw_privs_3)), lw_okq q
  exact List.forall_mem_append.mpr ⟨lw_r1, List.forall_mem_append.mpr ⟨lw_r2, lw_r3⟩⟩
end
section
def RX0 : String := "TicketRealm$Book"
def TX0 : u_T := fun k => match k with
  | 0 => ("TicketRealm$Book", "keys", "[I", true)
  | 1 => ("TicketRealm$Book", "limits", "[I", true)
  | _ => ("TicketRealm$Book", "rights", "[[I", true)
def tyX0 : Nat → FieldType := fun k => match k with
  | 0 => .array .int
  | 1 => .array .int
  | _ => .array (.array .int)
theorem nmX0 : ∀ a, a < 3 → ∀ b, b < 3 → a ≠ b → (TX0 a).2.1 ≠ (TX0 b).2.1 := by decide +kernel
theorem tyX0_ok : ∀ k, k < 3 → parseFieldDescriptor (TX0 k).2.2.1 = some (tyX0 k) := by decide +kernel
abbrev cX0_init : ByteArray := prog_2_method_1_code
def yX0_init : MethodName := ⟨RX0, "<init>", "()V"⟩
abbrev cX0_holds : ByteArray := prog_2_method_2_code
def yX0_holds : MethodName := ⟨RX0, "holds", "(I)Z"⟩
abbrev cX0_size : ByteArray := prog_2_method_3_code
def yX0_size : MethodName := ⟨RX0, "size", "()I"⟩
abbrev cX0_enter : ByteArray := prog_2_method_4_code
def yX0_enter : MethodName := ⟨RX0, "enter", "(II)V"⟩
abbrev cX0_strike : ByteArray := prog_2_method_5_code
def yX0_strike : MethodName := ⟨RX0, "strike", "(I)V"⟩
abbrev cX0_permits : ByteArray := prog_2_method_6_code
def yX0_permits : MethodName := ⟨RX0, "permits", "(ILTicketRealm$Order;)Z"⟩
abbrev cX0_copyFrom : ByteArray := prog_2_method_7_code
def yX0_copyFrom : MethodName := ⟨RX0, "copyFrom", "(LTicketRealm$Book;)V"⟩
def RX1 : String := "TicketRealm$Claim"
def TX1 : u_T := fun k => match k with
  | 0 => ("TicketRealm$Seal", "key", "I", true)
  | 1 => ("TicketRealm$Claim", "client", "I", true)
  | 2 => ("TicketRealm$Claim", "time", "I", true)
  | 3 => ("TicketRealm$Claim", "serial", "I", true)
  | _ => ("TicketRealm$Claim", "order", "LTicketRealm$Order;", true)
def tyX1 : Nat → FieldType := fun k => match k with
  | 0 => .int
  | 1 => .int
  | 2 => .int
  | 3 => .int
  | _ => .object "TicketRealm$Order"
theorem nmX1 : ∀ a, a < 5 → ∀ b, b < 5 → a ≠ b → (TX1 a).2.1 ≠ (TX1 b).2.1 := by decide +kernel
theorem tyX1_ok : ∀ k, k < 5 → parseFieldDescriptor (TX1 k).2.2.1 = some (tyX1 k) := by decide +kernel
abbrev cX1_init : ByteArray := prog_3_method_1_code
def yX1_init : MethodName := ⟨RX1, "<init>", "(IIIILTicketRealm$Order;)V"⟩
abbrev cX1_kind : ByteArray := prog_3_method_2_code
def yX1_kind : MethodName := ⟨RX1, "kind", "()I"⟩
abbrev cX1_shownTime : ByteArray := prog_3_method_3_code
def yX1_shownTime : MethodName := ⟨RX1, "shownTime", "()I"⟩
abbrev cX1_sameAs : ByteArray := prog_3_method_4_code
def yX1_sameAs : MethodName := ⟨RX1, "sameAs", "(LTicketRealm$Claim;)Z"⟩
def RX2 : String := "TicketRealm$FileService"
def TX2 : u_T := fun k => match k with
  | 0 => ("TicketRealm$FileService", "files", "[I", true)
  | 1 => ("TicketRealm$FileService", "cache", "[LTicketRealm$Claim;", true)
  | 2 => ("TicketRealm$FileService", "cached", "I", false)
  | _ => ("TicketRealm$FileService", "latestAnswer", "I", false)
def tyX2 : Nat → FieldType := fun k => match k with
  | 0 => .array .int
  | 1 => .array (.object "TicketRealm$Claim")
  | 2 => .int
  | _ => .int
theorem nmX2 : ∀ a, a < 4 → ∀ b, b < 4 → a ≠ b → (TX2 a).2.1 ≠ (TX2 b).2.1 := by decide +kernel
theorem tyX2_ok : ∀ k, k < 4 → parseFieldDescriptor (TX2 k).2.2.1 = some (tyX2 k) := by decide +kernel
abbrev cX2_init : ByteArray := prog_4_method_1_code
def yX2_init : MethodName := ⟨RX2, "<init>", "()V"⟩
abbrev cX2_dropClaimsBefore : ByteArray := prog_4_method_2_code
def yX2_dropClaimsBefore : MethodName := ⟨RX2, "dropClaimsBefore", "(I)V"⟩
abbrev cX2_hasServed : ByteArray := prog_4_method_3_code
def yX2_hasServed : MethodName := ⟨RX2, "hasServed", "(LTicketRealm$Claim;)Z"⟩
abbrev cX2_cacheIsFull : ByteArray := prog_4_method_4_code
def yX2_cacheIsFull : MethodName := ⟨RX2, "cacheIsFull", "()Z"⟩
abbrev cX2_carryOut : ByteArray := prog_4_method_5_code
def yX2_carryOut : MethodName := ⟨RX2, "carryOut", "(LTicketRealm$Claim;)V"⟩
def RX3 : String := "TicketRealm$Order"
def TX3 : u_T := fun k => match k with
  | 0 => ("TicketRealm$Order", "operation", "I", true)
  | 1 => ("TicketRealm$Order", "file", "I", true)
  | _ => ("TicketRealm$Order", "value", "I", true)
def tyX3 : Nat → FieldType := fun k => match k with
  | 0 => .int
  | 1 => .int
  | _ => .int
theorem nmX3 : ∀ a, a < 3 → ∀ b, b < 3 → a ≠ b → (TX3 a).2.1 ≠ (TX3 b).2.1 := by decide +kernel
theorem tyX3_ok : ∀ k, k < 3 → parseFieldDescriptor (TX3 k).2.2.1 = some (tyX3 k) := by decide +kernel
abbrev cX3_init : ByteArray := prog_5_method_1_code
def yX3_init : MethodName := ⟨RX3, "<init>", "(III)V"⟩
abbrev cX3_sameAs : ByteArray := prog_5_method_2_code
def yX3_sameAs : MethodName := ⟨RX3, "sameAs", "(LTicketRealm$Order;)Z"⟩
def RX4 : String := "TicketRealm$Part"
def TX4 : u_T := fun k => match k with
  | 0 => ("TicketRealm$Seal", "key", "I", true)
  | 1 => ("TicketRealm$Part", "sessionKey", "I", true)
  | 2 => ("TicketRealm$Part", "nonce", "I", true)
  | 3 => ("TicketRealm$Part", "target", "I", true)
  | _ => ("TicketRealm$Part", "end", "I", true)
def tyX4 : Nat → FieldType := fun k => match k with
  | 0 => .int
  | 1 => .int
  | 2 => .int
  | 3 => .int
  | _ => .int
theorem nmX4 : ∀ a, a < 5 → ∀ b, b < 5 → a ≠ b → (TX4 a).2.1 ≠ (TX4 b).2.1 := by decide +kernel
theorem tyX4_ok : ∀ k, k < 5 → parseFieldDescriptor (TX4 k).2.2.1 = some (tyX4 k) := by decide +kernel
abbrev cX4_init : ByteArray := prog_6_method_1_code
def yX4_init : MethodName := ⟨RX4, "<init>", "(IIIII)V"⟩
abbrev cX4_kind : ByteArray := prog_6_method_2_code
def yX4_kind : MethodName := ⟨RX4, "kind", "()I"⟩
abbrev cX4_heldKey : ByteArray := prog_6_method_3_code
def yX4_heldKey : MethodName := ⟨RX4, "heldKey", "()I"⟩
abbrev cX4_shownEnd : ByteArray := prog_6_method_4_code
def yX4_shownEnd : MethodName := ⟨RX4, "shownEnd", "()I"⟩
def RX5 : String := "TicketRealm$Proof"
def TX5 : u_T := fun k => match k with
  | 0 => ("TicketRealm$Seal", "key", "I", true)
  | 1 => ("TicketRealm$Proof", "client", "I", true)
  | _ => ("TicketRealm$Proof", "time", "I", true)
def tyX5 : Nat → FieldType := fun k => match k with
  | 0 => .int
  | 1 => .int
  | _ => .int
theorem nmX5 : ∀ a, a < 3 → ∀ b, b < 3 → a ≠ b → (TX5 a).2.1 ≠ (TX5 b).2.1 := by decide +kernel
theorem tyX5_ok : ∀ k, k < 3 → parseFieldDescriptor (TX5 k).2.2.1 = some (tyX5 k) := by decide +kernel
abbrev cX5_init : ByteArray := prog_7_method_1_code
def yX5_init : MethodName := ⟨RX5, "<init>", "(III)V"⟩
abbrev cX5_kind : ByteArray := prog_7_method_2_code
def yX5_kind : MethodName := ⟨RX5, "kind", "()I"⟩
abbrev cX5_shownTime : ByteArray := prog_7_method_3_code
def yX5_shownTime : MethodName := ⟨RX5, "shownTime", "()I"⟩
def RX6 : String := "TicketRealm$Seal"
def TX6 : u_T := fun k => match k with
  | _ => ("", "", "", false)
def tyX6 : Nat → FieldType := fun k => match k with
  | _ => .int
theorem nmX6 : ∀ a, a < 0 → ∀ b, b < 0 → a ≠ b → (TX6 a).2.1 ≠ (TX6 b).2.1 := by decide +kernel
theorem tyX6_ok : ∀ k, k < 0 → parseFieldDescriptor (TX6 k).2.2.1 = some (tyX6 k) := by decide +kernel
abbrev cX6_init : ByteArray := prog_8_method_1_code
def yX6_init : MethodName := ⟨RX6, "<init>", "(I)V"⟩
abbrev cX6_heldKey : ByteArray := prog_8_method_3_code
def yX6_heldKey : MethodName := ⟨RX6, "heldKey", "()I"⟩
abbrev cX6_shownEnd : ByteArray := prog_8_method_4_code
def yX6_shownEnd : MethodName := ⟨RX6, "shownEnd", "()I"⟩
abbrev cX6_shownTime : ByteArray := prog_8_method_5_code
def yX6_shownTime : MethodName := ⟨RX6, "shownTime", "()I"⟩
def RX7 : String := "TicketRealm$Ticket"
def TX7 : u_T := fun k => match k with
  | 0 => ("TicketRealm$Seal", "key", "I", true)
  | 1 => ("TicketRealm$Ticket", "client", "I", true)
  | 2 => ("TicketRealm$Ticket", "sessionKey", "I", true)
  | 3 => ("TicketRealm$Ticket", "start", "I", true)
  | 4 => ("TicketRealm$Ticket", "end", "I", true)
  | _ => ("TicketRealm$Ticket", "last", "I", true)
def tyX7 : Nat → FieldType := fun k => match k with
  | 0 => .int
  | 1 => .int
  | 2 => .int
  | 3 => .int
  | 4 => .int
  | _ => .int
theorem nmX7 : ∀ a, a < 6 → ∀ b, b < 6 → a ≠ b → (TX7 a).2.1 ≠ (TX7 b).2.1 := by decide +kernel
theorem tyX7_ok : ∀ k, k < 6 → parseFieldDescriptor (TX7 k).2.2.1 = some (tyX7 k) := by decide +kernel
abbrev cX7_init : ByteArray := prog_9_method_1_code
def yX7_init : MethodName := ⟨RX7, "<init>", "(IIIIII)V"⟩
abbrev cX7_kind : ByteArray := prog_9_method_2_code
def yX7_kind : MethodName := ⟨RX7, "kind", "()I"⟩
abbrev cX7_heldKey : ByteArray := prog_9_method_3_code
def yX7_heldKey : MethodName := ⟨RX7, "heldKey", "()I"⟩
abbrev cX7_shownEnd : ByteArray := prog_9_method_4_code
def yX7_shownEnd : MethodName := ⟨RX7, "shownEnd", "()I"⟩
def RX8 : String := "TicketRealm$User"
def TX8 : u_T := fun k => match k with
  | 0 => ("TicketRealm$User", "requestNonce", "I", false)
  | 1 => ("TicketRealm$User", "requestTarget", "I", false)
  | 2 => ("TicketRealm$User", "requestKey", "I", false)
  | 3 => ("TicketRealm$User", "serialCount", "I", false)
  | 4 => ("TicketRealm$User", "tickets", "[I", true)
  | _ => ("TicketRealm$User", "sessionKeys", "[I", true)
def tyX8 : Nat → FieldType := fun k => match k with
  | 0 => .int
  | 1 => .int
  | 2 => .int
  | 3 => .int
  | 4 => .array .int
  | _ => .array .int
theorem nmX8 : ∀ a, a < 6 → ∀ b, b < 6 → a ≠ b → (TX8 a).2.1 ≠ (TX8 b).2.1 := by decide +kernel
theorem tyX8_ok : ∀ k, k < 6 → parseFieldDescriptor (TX8 k).2.2.1 = some (tyX8 k) := by decide +kernel
abbrev cX8_init : ByteArray := prog_10_method_1_code
def yX8_init : MethodName := ⟨RX8, "<init>", "()V"⟩
abbrev cX8_hasRequest : ByteArray := prog_10_method_2_code
def yX8_hasRequest : MethodName := ⟨RX8, "hasRequest", "()Z"⟩
abbrev cX8_hasCredential : ByteArray := prog_10_method_3_code
def yX8_hasCredential : MethodName := ⟨RX8, "hasCredential", "(I)Z"⟩
abbrev cX8_openRequest : ByteArray := prog_10_method_4_code
def yX8_openRequest : MethodName := ⟨RX8, "openRequest", "(III)V"⟩
abbrev cX8_closeRequest : ByteArray := prog_10_method_5_code
def yX8_closeRequest : MethodName := ⟨RX8, "closeRequest", "(II)V"⟩
abbrev cX8_makeSerial : ByteArray := prog_10_method_6_code
def yX8_makeSerial : MethodName := ⟨RX8, "makeSerial", "()I"⟩
def RX9 : String := "TicketRealm"
def TX9 : u_T := fun k => match k with
  | 0 => ("TicketRealm", "skew", "I", true)
  | 1 => ("TicketRealm", "clocks", "[I", true)
  | 2 => ("TicketRealm", "ownKeys", "[I", true)
  | 3 => ("TicketRealm", "book", "LTicketRealm$Book;", true)
  | 4 => ("TicketRealm", "savedBook", "LTicketRealm$Book;", true)
  | 5 => ("TicketRealm", "users", "[LTicketRealm$User;", true)
  | 6 => ("TicketRealm", "service", "LTicketRealm$FileService;", true)
  | 7 => ("TicketRealm", "seals", "[LTicketRealm$Seal;", true)
  | 8 => ("TicketRealm", "sealCount", "I", false)
  | 9 => ("TicketRealm", "stolen", "[Z", true)
  | 10 => ("TicketRealm", "keyCount", "I", false)
  | _ => ("TicketRealm", "nonceCount", "I", false)
def tyX9 : Nat → FieldType := fun k => match k with
  | 0 => .int
  | 1 => .array .int
  | 2 => .array .int
  | 3 => .object "TicketRealm$Book"
  | 4 => .object "TicketRealm$Book"
  | 5 => .array (.object "TicketRealm$User")
  | 6 => .object "TicketRealm$FileService"
  | 7 => .array (.object "TicketRealm$Seal")
  | 8 => .int
  | 9 => .array .boolean
  | 10 => .int
  | _ => .int
theorem nmX9 : ∀ a, a < 12 → ∀ b, b < 12 → a ≠ b → (TX9 a).2.1 ≠ (TX9 b).2.1 := by decide +kernel
theorem tyX9_ok : ∀ k, k < 12 → parseFieldDescriptor (TX9 k).2.2.1 = some (tyX9 k) := by decide +kernel
abbrev cX9_init : ByteArray := prog_1_method_1_code
def yX9_init : MethodName := ⟨RX9, "<init>", "(I)V"⟩
abbrev cX9_enrol : ByteArray := prog_1_method_2_code
def yX9_enrol : MethodName := ⟨RX9, "enrol", "(I)I"⟩
abbrev cX9_remove : ByteArray := prog_1_method_3_code
def yX9_remove : MethodName := ⟨RX9, "remove", "(I)Z"⟩
abbrev cX9_limit : ByteArray := prog_1_method_4_code
def yX9_limit : MethodName := ⟨RX9, "limit", "(II)Z"⟩
abbrev cX9_allow : ByteArray := prog_1_method_5_code
def yX9_allow : MethodName := ⟨RX9, "allow", "(III)Z"⟩
abbrev cX9_save : ByteArray := prog_1_method_6_code
def yX9_save : MethodName := ⟨RX9, "save", "()I"⟩
abbrev cX9_crash : ByteArray := prog_1_method_7_code
def yX9_crash : MethodName := ⟨RX9, "crash", "()I"⟩
abbrev cX9_tick : ByteArray := prog_1_method_8_code
def yX9_tick : MethodName := ⟨RX9, "tick", "(II)I"⟩
abbrev cX9_login : ByteArray := prog_1_method_9_code
def yX9_login : MethodName := ⟨RX9, "login", "(II)I"⟩
abbrev cX9_ask : ByteArray := prog_1_method_10_code
def yX9_ask : MethodName := ⟨RX9, "ask", "(II)I"⟩
abbrev cX9_receive : ByteArray := prog_1_method_11_code
def yX9_receive : MethodName := ⟨RX9, "receive", "(III)Z"⟩
abbrev cX9_order : ByteArray := prog_1_method_12_code
def yX9_order : MethodName := ⟨RX9, "order", "(IIII)I"⟩
abbrev cX9_issue : ByteArray := prog_1_method_13_code
def yX9_issue : MethodName := ⟨RX9, "issue", "(IIIII)I"⟩
abbrev cX9_grant : ByteArray := prog_1_method_14_code
def yX9_grant : MethodName := ⟨RX9, "grant", "(IIIII)I"⟩
abbrev cX9_serve : ByteArray := prog_1_method_15_code
def yX9_serve : MethodName := ⟨RX9, "serve", "(II)I"⟩
abbrev cX9_answer : ByteArray := prog_1_method_16_code
def yX9_answer : MethodName := ⟨RX9, "answer", "()I"⟩
abbrev cX9_steal : ByteArray := prog_1_method_17_code
def yX9_steal : MethodName := ⟨RX9, "steal", "(I)I"⟩
abbrev cX9_learn : ByteArray := prog_1_method_18_code
def yX9_learn : MethodName := ⟨RX9, "learn", "(I)I"⟩
abbrev cX9_forge : ByteArray := prog_1_method_19_code
def yX9_forge : MethodName := ⟨RX9, "forge", "(IIIII)I"⟩
abbrev cX9_seal : ByteArray := prog_1_method_20_code
def yX9_seal : MethodName := ⟨RX9, "seal", "(II)I"⟩
abbrev cX9_look : ByteArray := prog_1_method_21_code
def yX9_look : MethodName := ⟨RX9, "look", "(II)I"⟩
abbrev cX9_isPrincipal : ByteArray := prog_1_method_22_code
def yX9_isPrincipal : MethodName := ⟨RX9, "isPrincipal", "(I)Z"⟩
abbrev cX9_isUser : ByteArray := prog_1_method_23_code
def yX9_isUser : MethodName := ⟨RX9, "isUser", "(I)Z"⟩
abbrev cX9_isTarget : ByteArray := prog_1_method_24_code
def yX9_isTarget : MethodName := ⟨RX9, "isTarget", "(I)Z"⟩
abbrev cX9_isFile : ByteArray := prog_1_method_25_code
def yX9_isFile : MethodName := ⟨RX9, "isFile", "(I)Z"⟩
abbrev cX9_isUserInBook : ByteArray := prog_1_method_26_code
def yX9_isUserInBook : MethodName := ⟨RX9, "isUserInBook", "(I)Z"⟩
abbrev cX9_isTargetInBook : ByteArray := prog_1_method_27_code
def yX9_isTargetInBook : MethodName := ⟨RX9, "isTargetInBook", "(I)Z"⟩
abbrev cX9_isStolen : ByteArray := prog_1_method_28_code
def yX9_isStolen : MethodName := ⟨RX9, "isStolen", "(I)Z"⟩
abbrev cX9_userAt : ByteArray := prog_1_method_29_code
def yX9_userAt : MethodName := ⟨RX9, "userAt", "(I)LTicketRealm$User;"⟩
abbrev cX9_near : ByteArray := prog_1_method_30_code
def yX9_near : MethodName := ⟨RX9, "near", "(II)Z"⟩
abbrev cX9_hasRoom : ByteArray := prog_1_method_31_code
def yX9_hasRoom : MethodName := ⟨RX9, "hasRoom", "(II)Z"⟩
abbrev cX9_makeKey : ByteArray := prog_1_method_32_code
def yX9_makeKey : MethodName := ⟨RX9, "makeKey", "()I"⟩
abbrev cX9_makeNonce : ByteArray := prog_1_method_33_code
def yX9_makeNonce : MethodName := ⟨RX9, "makeNonce", "()I"⟩
abbrev cX9_keep : ByteArray := prog_1_method_34_code
def yX9_keep : MethodName := ⟨RX9, "keep", "(LTicketRealm$Seal;)I"⟩
abbrev cX9_sealAt : ByteArray := prog_1_method_35_code
def yX9_sealAt : MethodName := ⟨RX9, "sealAt", "(I)LTicketRealm$Seal;"⟩
abbrev cX9_open : ByteArray := prog_1_method_36_code
def yX9_open : MethodName := ⟨RX9, "open", "(II)LTicketRealm$Seal;"⟩
abbrev cX9_openProof : ByteArray := prog_1_method_37_code
def yX9_openProof : MethodName := ⟨RX9, "openProof", "(II)LTicketRealm$Proof;"⟩
abbrev cX9_openTicket : ByteArray := prog_1_method_38_code
def yX9_openTicket : MethodName := ⟨RX9, "openTicket", "(II)LTicketRealm$Ticket;"⟩
abbrev cX9_openPart : ByteArray := prog_1_method_39_code
def yX9_openPart : MethodName := ⟨RX9, "openPart", "(II)LTicketRealm$Part;"⟩
abbrev cX9_openClaim : ByteArray := prog_1_method_40_code
def yX9_openClaim : MethodName := ⟨RX9, "openClaim", "(II)LTicketRealm$Claim;"⟩
abbrev cX9_firstEnd : ByteArray := prog_1_method_41_code
def yX9_firstEnd : MethodName := ⟨RX9, "firstEnd", "(III)I"⟩
abbrev cX9_makeTicketAndPart : ByteArray := prog_1_method_42_code
def yX9_makeTicketAndPart : MethodName := ⟨RX9, "makeTicketAndPart", "(IIIIII)I"⟩
abbrev cX9_forgedSeal : ByteArray := prog_1_method_43_code
def yX9_forgedSeal : MethodName := ⟨RX9, "forgedSeal", "(IIIII)LTicketRealm$Seal;"⟩
abbrev cX9_openNonce : ByteArray := prog_1_method_44_code
def yX9_openNonce : MethodName := ⟨RX9, "openNonce", "(I)I"⟩
abbrev cX9_heldTicket : ByteArray := prog_1_method_45_code
def yX9_heldTicket : MethodName := ⟨RX9, "heldTicket", "(II)I"⟩
def RX10 : String := "TicketRealmModel"
def TX10 : u_T := fun k => match k with
  | 0 => ("TicketRealmModel", "skew", "I", true)
  | 1 => ("TicketRealmModel", "clocks", "[I", true)
  | 2 => ("TicketRealmModel", "keys", "I", false)
  | 3 => ("TicketRealmModel", "own", "[I", true)
  | 4 => ("TicketRealmModel", "stolen", "[Z", true)
  | 5 => ("TicketRealmModel", "bookKey", "[I", true)
  | 6 => ("TicketRealmModel", "limits", "[I", true)
  | 7 => ("TicketRealmModel", "rights", "[I", true)
  | 8 => ("TicketRealmModel", "seals", "I", false)
  | 9 => ("TicketRealmModel", "kind", "[I", true)
  | 10 => ("TicketRealmModel", "under", "[I", true)
  | 11 => ("TicketRealmModel", "client", "[I", true)
  | 12 => ("TicketRealmModel", "session", "[I", true)
  | 13 => ("TicketRealmModel", "first", "[I", true)
  | 14 => ("TicketRealmModel", "second", "[I", true)
  | 15 => ("TicketRealmModel", "third", "[I", true)
  | 16 => ("TicketRealmModel", "operation", "[I", true)
  | 17 => ("TicketRealmModel", "file", "[I", true)
  | 18 => ("TicketRealmModel", "amount", "[I", true)
  | 19 => ("TicketRealmModel", "nonces", "I", false)
  | 20 => ("TicketRealmModel", "requestNonce", "[I", true)
  | 21 => ("TicketRealmModel", "requestTarget", "[I", true)
  | 22 => ("TicketRealmModel", "requestKey", "[I", true)
  | 23 => ("TicketRealmModel", "ticketOf", "[I", true)
  | 24 => ("TicketRealmModel", "sessionOf", "[I", true)
  | 25 => ("TicketRealmModel", "serials", "[I", true)
  | 26 => ("TicketRealmModel", "files", "[I", true)
  | 27 => ("TicketRealmModel", "latest", "I", false)
  | 28 => ("TicketRealmModel", "cached", "I", false)
  | _ => ("TicketRealmModel", "cache", "[I", true)
def tyX10 : Nat → FieldType := fun k => match k with
  | 0 => .int
  | 1 => .array .int
  | 2 => .int
  | 3 => .array .int
  | 4 => .array .boolean
  | 5 => .array .int
  | 6 => .array .int
  | 7 => .array .int
  | 8 => .int
  | 9 => .array .int
  | 10 => .array .int
  | 11 => .array .int
  | 12 => .array .int
  | 13 => .array .int
  | 14 => .array .int
  | 15 => .array .int
  | 16 => .array .int
  | 17 => .array .int
  | 18 => .array .int
  | 19 => .int
  | 20 => .array .int
  | 21 => .array .int
  | 22 => .array .int
  | 23 => .array .int
  | 24 => .array .int
  | 25 => .array .int
  | 26 => .array .int
  | 27 => .int
  | 28 => .int
  | _ => .array .int
theorem nmX10 : ∀ a, a < 30 → ∀ b, b < 30 → a ≠ b → (TX10 a).2.1 ≠ (TX10 b).2.1 := by decide +kernel
theorem tyX10_ok : ∀ k, k < 30 → parseFieldDescriptor (TX10 k).2.2.1 = some (tyX10 k) := by decide +kernel
abbrev cX10_init : ByteArray := prog_12_method_1_code
def yX10_init : MethodName := ⟨RX10, "<init>", "(I)V"⟩
abbrev cX10_in : ByteArray := prog_12_method_2_code
def yX10_in : MethodName := ⟨RX10, "in", "(III)Z"⟩
abbrev cX10_booked : ByteArray := prog_12_method_3_code
def yX10_booked : MethodName := ⟨RX10, "booked", "(I)Z"⟩
abbrev cX10_user : ByteArray := prog_12_method_4_code
def yX10_user : MethodName := ⟨RX10, "user", "(I)Z"⟩
abbrev cX10_near : ByteArray := prog_12_method_5_code
def yX10_near : MethodName := ⟨RX10, "near", "(II)Z"⟩
abbrev cX10_enrol : ByteArray := prog_12_method_6_code
def yX10_enrol : MethodName := ⟨RX10, "enrol", "(I)I"⟩
abbrev cX10_remove : ByteArray := prog_12_method_7_code
def yX10_remove : MethodName := ⟨RX10, "remove", "(I)Z"⟩
abbrev cX10_limit : ByteArray := prog_12_method_8_code
def yX10_limit : MethodName := ⟨RX10, "limit", "(II)Z"⟩
abbrev cX10_allow : ByteArray := prog_12_method_9_code
def yX10_allow : MethodName := ⟨RX10, "allow", "(III)Z"⟩
abbrev cX10_copyBook : ByteArray := prog_12_method_10_code
def yX10_copyBook : MethodName := ⟨RX10, "copyBook", "(II)I"⟩
abbrev cX10_save : ByteArray := prog_12_method_11_code
def yX10_save : MethodName := ⟨RX10, "save", "()I"⟩
abbrev cX10_crash : ByteArray := prog_12_method_12_code
def yX10_crash : MethodName := ⟨RX10, "crash", "()I"⟩
abbrev cX10_tick : ByteArray := prog_12_method_13_code
def yX10_tick : MethodName := ⟨RX10, "tick", "(II)I"⟩
abbrev cX10_make : ByteArray := prog_12_method_14_code
def yX10_make : MethodName := ⟨RX10, "make", "(IIII)I"⟩
abbrev cX10_makeProof : ByteArray := prog_12_method_15_code
def yX10_makeProof : MethodName := ⟨RX10, "makeProof", "(III)I"⟩
abbrev cX10_makeTicket : ByteArray := prog_12_method_16_code
def yX10_makeTicket : MethodName := ⟨RX10, "makeTicket", "(IIIIII)I"⟩
abbrev cX10_makePart : ByteArray := prog_12_method_17_code
def yX10_makePart : MethodName := ⟨RX10, "makePart", "(IIIII)I"⟩
abbrev cX10_makeClaim : ByteArray := prog_12_method_18_code
def yX10_makeClaim : MethodName := ⟨RX10, "makeClaim", "(IIII)I"⟩
abbrev cX10_opens : ByteArray := prog_12_method_19_code
def yX10_opens : MethodName := ⟨RX10, "opens", "(III)Z"⟩
abbrev cX10_request : ByteArray := prog_12_method_20_code
def yX10_request : MethodName := ⟨RX10, "request", "(III)V"⟩
abbrev cX10_login : ByteArray := prog_12_method_21_code
def yX10_login : MethodName := ⟨RX10, "login", "(II)I"⟩
abbrev cX10_ask : ByteArray := prog_12_method_22_code
def yX10_ask : MethodName := ⟨RX10, "ask", "(II)I"⟩
abbrev cX10_receive : ByteArray := prog_12_method_23_code
def yX10_receive : MethodName := ⟨RX10, "receive", "(III)Z"⟩
abbrev cX10_order : ByteArray := prog_12_method_24_code
def yX10_order : MethodName := ⟨RX10, "order", "(IIII)I"⟩
abbrev cX10_least : ByteArray := prog_12_method_25_code
def yX10_least : MethodName := ⟨RX10, "least", "(II)I"⟩
abbrev cX10_bothSeals : ByteArray := prog_12_method_26_code
def yX10_bothSeals : MethodName := ⟨RX10, "bothSeals", "(IIIIII)I"⟩
abbrev cX10_issue : ByteArray := prog_12_method_27_code
def yX10_issue : MethodName := ⟨RX10, "issue", "(IIIII)I"⟩
abbrev cX10_grant : ByteArray := prog_12_method_28_code
def yX10_grant : MethodName := ⟨RX10, "grant", "(IIIII)I"⟩
abbrev cX10_forgetOld : ByteArray := prog_12_method_29_code
def yX10_forgetOld : MethodName := ⟨RX10, "forgetOld", "()V"⟩
abbrev cX10_same : ByteArray := prog_12_method_30_code
def yX10_same : MethodName := ⟨RX10, "same", "(II)Z"⟩
abbrev cX10_serve : ByteArray := prog_12_method_31_code
def yX10_serve : MethodName := ⟨RX10, "serve", "(II)I"⟩
abbrev cX10_answer : ByteArray := prog_12_method_32_code
def yX10_answer : MethodName := ⟨RX10, "answer", "()I"⟩
abbrev cX10_steal : ByteArray := prog_12_method_33_code
def yX10_steal : MethodName := ⟨RX10, "steal", "(I)I"⟩
abbrev cX10_learn : ByteArray := prog_12_method_34_code
def yX10_learn : MethodName := ⟨RX10, "learn", "(I)I"⟩
abbrev cX10_isStolen : ByteArray := prog_12_method_35_code
def yX10_isStolen : MethodName := ⟨RX10, "isStolen", "(I)Z"⟩
abbrev cX10_forge : ByteArray := prog_12_method_36_code
def yX10_forge : MethodName := ⟨RX10, "forge", "(IIIII)I"⟩
abbrev cX10_seal : ByteArray := prog_12_method_37_code
def yX10_seal : MethodName := ⟨RX10, "seal", "(II)I"⟩
abbrev cX10_look : ByteArray := prog_12_method_38_code
def yX10_look : MethodName := ⟨RX10, "look", "(II)I"⟩
def RJ9 : String := "java/lang/Math"
def TJ9 : u_T := fun k => match k with
  | _ => ("", "", "", false)
def tyJ9 : Nat → FieldType := fun k => match k with
  | _ => .int
theorem nmJ9 : ∀ a, a < 0 → ∀ b, b < 0 → a ≠ b → (TJ9 a).2.1 ≠ (TJ9 b).2.1 := by decide +kernel
theorem tyJ9_ok : ∀ k, k < 0 → parseFieldDescriptor (TJ9 k).2.2.1 = some (tyJ9 k) := by decide +kernel
abbrev cJ9_abs_067f4 : ByteArray := prog_13_method_61_code
def yJ9_abs_067f4 : MethodName := ⟨RJ9, "abs", "(J)J"⟩
abbrev cJ9_max_7cf53 : ByteArray := prog_13_method_65_code
def yJ9_max_7cf53 : MethodName := ⟨RJ9, "max", "(II)I"⟩
abbrev cJ9_min_7cf53 : ByteArray := prog_13_method_69_code
def yJ9_min_7cf53 : MethodName := ⟨RJ9, "min", "(II)I"⟩
def RL : String := "TicketRealmLaw"
abbrev cL_cell : ByteArray := method_2_code
def yL_cell : MethodName := ⟨RL, "cell", "([II)I"⟩
abbrev cL_law : ByteArray := code
def yL_law : MethodName := ⟨RL, "law", "([I)Z"⟩
end
section
theorem dX0_init_0 : decode cX0_init 0 = .ok (.aload_n 0, 1) := by decide +kernel
theorem dX0_init_1 : decode cX0_init 1 = .ok (.invokespecial 3, 3) := by decide +kernel
theorem dX0_init_4 : decode cX0_init 4 = .ok (.aload_n 0, 1) := by decide +kernel
theorem dX0_init_5 : decode cX0_init 5 = .ok (.bipush 6, 2) := by decide +kernel
theorem dX0_init_7 : decode cX0_init 7 = .ok (.newarray .int, 2) := by decide +kernel
theorem dX0_init_9 : decode cX0_init 9 = .ok (.putfield 9, 3) := by decide +kernel
theorem dX0_init_12 : decode cX0_init 12 = .ok (.aload_n 0, 1) := by decide +kernel
theorem dX0_init_13 : decode cX0_init 13 = .ok (.bipush 6, 2) := by decide +kernel
theorem dX0_init_15 : decode cX0_init 15 = .ok (.newarray .int, 2) := by decide +kernel
theorem dX0_init_17 : decode cX0_init 17 = .ok (.putfield 15, 3) := by decide +kernel
theorem dX0_init_20 : decode cX0_init 20 = .ok (.aload_n 0, 1) := by decide +kernel
theorem dX0_init_21 : decode cX0_init 21 = .ok (.bipush 6, 2) := by decide +kernel
theorem dX0_init_23 : decode cX0_init 23 = .ok (.iconst 3, 1) := by decide +kernel
theorem dX0_init_24 : decode cX0_init 24 = .ok (.multianewarray 18 2, 4) := by decide +kernel
theorem dX0_init_28 : decode cX0_init 28 = .ok (.putfield 20, 3) := by decide +kernel
theorem dX0_init_31 : decode cX0_init 31 = .ok (.iconst 0, 1) := by decide +kernel
theorem dX0_init_32 : decode cX0_init 32 = .ok (.istore_n 1, 1) := by decide +kernel
theorem dX0_init_33 : decode cX0_init 33 = .ok (.iload_n 1, 1) := by decide +kernel
theorem dX0_init_34 : decode cX0_init 34 = .ok (.bipush 6, 2) := by decide +kernel
theorem dX0_init_36 : decode cX0_init 36 = .ok (.if_icmp .ge 16, 3) := by decide +kernel
theorem dX0_init_39 : decode cX0_init 39 = .ok (.aload_n 0, 1) := by decide +kernel
theorem dX0_init_40 : decode cX0_init 40 = .ok (.getfield 9, 3) := by decide +kernel
theorem dX0_init_43 : decode cX0_init 43 = .ok (.iload_n 1, 1) := by decide +kernel
theorem dX0_init_44 : decode cX0_init 44 = .ok (.iconst (-1), 1) := by decide +kernel
theorem dX0_init_45 : decode cX0_init 45 = .ok (.iastore, 1) := by decide +kernel
theorem dX0_init_46 : decode cX0_init 46 = .ok (.iinc 1 1, 3) := by decide +kernel
theorem dX0_init_49 : decode cX0_init 49 = .ok (.goto (-16), 3) := by decide +kernel
theorem dX0_init_52 : decode cX0_init 52 = .ok (.return_, 1) := by decide +kernel
theorem dX0_holds_0 : decode cX0_holds 0 = .ok (.iload_n 1, 1) := by decide +kernel
theorem dX0_holds_1 : decode cX0_holds 1 = .ok (.invokestatic 23, 3) := by decide +kernel
theorem dX0_holds_4 : decode cX0_holds 4 = .ok (.ifCond .eq 17, 3) := by decide +kernel
theorem dX0_holds_7 : decode cX0_holds 7 = .ok (.aload_n 0, 1) := by decide +kernel
theorem dX0_holds_8 : decode cX0_holds 8 = .ok (.getfield 9, 3) := by decide +kernel
theorem dX0_holds_11 : decode cX0_holds 11 = .ok (.iload_n 1, 1) := by decide +kernel
theorem dX0_holds_12 : decode cX0_holds 12 = .ok (.iaload, 1) := by decide +kernel
theorem dX0_holds_13 : decode cX0_holds 13 = .ok (.iconst (-1), 1) := by decide +kernel
theorem dX0_holds_14 : decode cX0_holds 14 = .ok (.if_icmp .eq 7, 3) := by decide +kernel
theorem dX0_holds_17 : decode cX0_holds 17 = .ok (.iconst 1, 1) := by decide +kernel
theorem dX0_holds_18 : decode cX0_holds 18 = .ok (.goto 4, 3) := by decide +kernel
theorem dX0_holds_21 : decode cX0_holds 21 = .ok (.iconst 0, 1) := by decide +kernel
theorem dX0_holds_22 : decode cX0_holds 22 = .ok (.ireturn, 1) := by decide +kernel
theorem dX0_size_0 : decode cX0_size 0 = .ok (.iconst 0, 1) := by decide +kernel
theorem dX0_size_1 : decode cX0_size 1 = .ok (.istore_n 1, 1) := by decide +kernel
theorem dX0_size_2 : decode cX0_size 2 = .ok (.iconst 0, 1) := by decide +kernel
theorem dX0_size_3 : decode cX0_size 3 = .ok (.istore_n 2, 1) := by decide +kernel
theorem dX0_size_4 : decode cX0_size 4 = .ok (.iload_n 2, 1) := by decide +kernel
theorem dX0_size_5 : decode cX0_size 5 = .ok (.bipush 6, 2) := by decide +kernel
theorem dX0_size_7 : decode cX0_size 7 = .ok (.if_icmp .ge 20, 3) := by decide +kernel
theorem dX0_size_10 : decode cX0_size 10 = .ok (.aload_n 0, 1) := by decide +kernel
theorem dX0_size_11 : decode cX0_size 11 = .ok (.iload_n 2, 1) := by decide +kernel
theorem dX0_size_12 : decode cX0_size 12 = .ok (.invokevirtual 27, 3) := by decide +kernel
theorem dX0_size_15 : decode cX0_size 15 = .ok (.ifCond .eq 6, 3) := by decide +kernel
theorem dX0_size_18 : decode cX0_size 18 = .ok (.iinc 1 1, 3) := by decide +kernel
theorem dX0_size_21 : decode cX0_size 21 = .ok (.iinc 2 1, 3) := by decide +kernel
theorem dX0_size_24 : decode cX0_size 24 = .ok (.goto (-20), 3) := by decide +kernel
theorem dX0_size_27 : decode cX0_size 27 = .ok (.iload_n 1, 1) := by decide +kernel
theorem dX0_size_28 : decode cX0_size 28 = .ok (.ireturn, 1) := by decide +kernel
theorem dX0_enter_0 : decode cX0_enter 0 = .ok (.aload_n 0, 1) := by decide +kernel
theorem dX0_enter_1 : decode cX0_enter 1 = .ok (.iload_n 1, 1) := by decide +kernel
theorem dX0_enter_2 : decode cX0_enter 2 = .ok (.invokevirtual 27, 3) := by decide +kernel
theorem dX0_enter_5 : decode cX0_enter 5 = .ok (.ifCond .ne 33, 3) := by decide +kernel
theorem dX0_enter_8 : decode cX0_enter 8 = .ok (.aload_n 0, 1) := by decide +kernel
theorem dX0_enter_9 : decode cX0_enter 9 = .ok (.getfield 15, 3) := by decide +kernel
theorem dX0_enter_12 : decode cX0_enter 12 = .ok (.iload_n 1, 1) := by decide +kernel
theorem dX0_enter_13 : decode cX0_enter 13 = .ok (.bipush 20, 2) := by decide +kernel
theorem dX0_enter_15 : decode cX0_enter 15 = .ok (.iastore, 1) := by decide +kernel
theorem dX0_enter_16 : decode cX0_enter 16 = .ok (.iconst 0, 1) := by decide +kernel
theorem dX0_enter_17 : decode cX0_enter 17 = .ok (.istore_n 3, 1) := by decide +kernel
theorem dX0_enter_18 : decode cX0_enter 18 = .ok (.iload_n 3, 1) := by decide +kernel
theorem dX0_enter_19 : decode cX0_enter 19 = .ok (.iconst 3, 1) := by decide +kernel
theorem dX0_enter_20 : decode cX0_enter 20 = .ok (.if_icmp .ge 18, 3) := by decide +kernel
theorem dX0_enter_23 : decode cX0_enter 23 = .ok (.aload_n 0, 1) := by decide +kernel
theorem dX0_enter_24 : decode cX0_enter 24 = .ok (.getfield 20, 3) := by decide +kernel
theorem dX0_enter_27 : decode cX0_enter 27 = .ok (.iload_n 1, 1) := by decide +kernel
theorem dX0_enter_28 : decode cX0_enter 28 = .ok (.aaload, 1) := by decide +kernel
theorem dX0_enter_29 : decode cX0_enter 29 = .ok (.iload_n 3, 1) := by decide +kernel
theorem dX0_enter_30 : decode cX0_enter 30 = .ok (.iconst 0, 1) := by decide +kernel
theorem dX0_enter_31 : decode cX0_enter 31 = .ok (.iastore, 1) := by decide +kernel
theorem dX0_enter_32 : decode cX0_enter 32 = .ok (.iinc 3 1, 3) := by decide +kernel
theorem dX0_enter_35 : decode cX0_enter 35 = .ok (.goto (-17), 3) := by decide +kernel
theorem dX0_enter_38 : decode cX0_enter 38 = .ok (.aload_n 0, 1) := by decide +kernel
theorem dX0_enter_39 : decode cX0_enter 39 = .ok (.getfield 9, 3) := by decide +kernel
theorem dX0_enter_42 : decode cX0_enter 42 = .ok (.iload_n 1, 1) := by decide +kernel
theorem dX0_enter_43 : decode cX0_enter 43 = .ok (.iload_n 2, 1) := by decide +kernel
theorem dX0_enter_44 : decode cX0_enter 44 = .ok (.iastore, 1) := by decide +kernel
theorem dX0_enter_45 : decode cX0_enter 45 = .ok (.return_, 1) := by decide +kernel
theorem dX0_strike_0 : decode cX0_strike 0 = .ok (.aload_n 0, 1) := by decide +kernel
theorem dX0_strike_1 : decode cX0_strike 1 = .ok (.getfield 9, 3) := by decide +kernel
theorem dX0_strike_4 : decode cX0_strike 4 = .ok (.iload_n 1, 1) := by decide +kernel
theorem dX0_strike_5 : decode cX0_strike 5 = .ok (.iconst (-1), 1) := by decide +kernel
theorem dX0_strike_6 : decode cX0_strike 6 = .ok (.iastore, 1) := by decide +kernel
theorem dX0_strike_7 : decode cX0_strike 7 = .ok (.return_, 1) := by decide +kernel
theorem dX0_permits_0 : decode cX0_permits 0 = .ok (.aload_n 0, 1) := by decide +kernel
theorem dX0_permits_1 : decode cX0_permits 1 = .ok (.iload_n 1, 1) := by decide +kernel
theorem dX0_permits_2 : decode cX0_permits 2 = .ok (.invokevirtual 27, 3) := by decide +kernel
theorem dX0_permits_5 : decode cX0_permits 5 = .ok (.ifCond .eq 30, 3) := by decide +kernel
theorem dX0_permits_8 : decode cX0_permits 8 = .ok (.aload_n 0, 1) := by decide +kernel
theorem dX0_permits_9 : decode cX0_permits 9 = .ok (.getfield 20, 3) := by decide +kernel
theorem dX0_permits_12 : decode cX0_permits 12 = .ok (.iload_n 1, 1) := by decide +kernel
theorem dX0_permits_13 : decode cX0_permits 13 = .ok (.aaload, 1) := by decide +kernel
theorem dX0_permits_14 : decode cX0_permits 14 = .ok (.aload_n 2, 1) := by decide +kernel
theorem dX0_permits_15 : decode cX0_permits 15 = .ok (.getfield 30, 3) := by decide +kernel
theorem dX0_permits_18 : decode cX0_permits 18 = .ok (.iaload, 1) := by decide +kernel
theorem dX0_permits_19 : decode cX0_permits 19 = .ok (.aload_n 2, 1) := by decide +kernel
theorem dX0_permits_20 : decode cX0_permits 20 = .ok (.getfield 36, 3) := by decide +kernel
theorem dX0_permits_23 : decode cX0_permits 23 = .ok (.iand, 1) := by decide +kernel
theorem dX0_permits_24 : decode cX0_permits 24 = .ok (.aload_n 2, 1) := by decide +kernel
theorem dX0_permits_25 : decode cX0_permits 25 = .ok (.getfield 36, 3) := by decide +kernel
theorem dX0_permits_28 : decode cX0_permits 28 = .ok (.if_icmp .ne 7, 3) := by decide +kernel
theorem dX0_permits_31 : decode cX0_permits 31 = .ok (.iconst 1, 1) := by decide +kernel
theorem dX0_permits_32 : decode cX0_permits 32 = .ok (.goto 4, 3) := by decide +kernel
theorem dX0_permits_35 : decode cX0_permits 35 = .ok (.iconst 0, 1) := by decide +kernel
theorem dX0_permits_36 : decode cX0_permits 36 = .ok (.ireturn, 1) := by decide +kernel
theorem dX0_copyFrom_0 : decode cX0_copyFrom 0 = .ok (.iconst 0, 1) := by decide +kernel
theorem dX0_copyFrom_1 : decode cX0_copyFrom 1 = .ok (.istore_n 2, 1) := by decide +kernel
theorem dX0_copyFrom_2 : decode cX0_copyFrom 2 = .ok (.iload_n 2, 1) := by decide +kernel
theorem dX0_copyFrom_3 : decode cX0_copyFrom 3 = .ok (.bipush 6, 2) := by decide +kernel
theorem dX0_copyFrom_5 : decode cX0_copyFrom 5 = .ok (.if_icmp .ge 62, 3) := by decide +kernel
theorem dX0_copyFrom_8 : decode cX0_copyFrom 8 = .ok (.aload_n 0, 1) := by decide +kernel
theorem dX0_copyFrom_9 : decode cX0_copyFrom 9 = .ok (.getfield 9, 3) := by decide +kernel
theorem dX0_copyFrom_12 : decode cX0_copyFrom 12 = .ok (.iload_n 2, 1) := by decide +kernel
theorem dX0_copyFrom_13 : decode cX0_copyFrom 13 = .ok (.aload_n 1, 1) := by decide +kernel
theorem dX0_copyFrom_14 : decode cX0_copyFrom 14 = .ok (.getfield 9, 3) := by decide +kernel
theorem dX0_copyFrom_17 : decode cX0_copyFrom 17 = .ok (.iload_n 2, 1) := by decide +kernel
theorem dX0_copyFrom_18 : decode cX0_copyFrom 18 = .ok (.iaload, 1) := by decide +kernel
theorem dX0_copyFrom_19 : decode cX0_copyFrom 19 = .ok (.iastore, 1) := by decide +kernel
theorem dX0_copyFrom_20 : decode cX0_copyFrom 20 = .ok (.aload_n 0, 1) := by decide +kernel
theorem dX0_copyFrom_21 : decode cX0_copyFrom 21 = .ok (.getfield 15, 3) := by decide +kernel
theorem dX0_copyFrom_24 : decode cX0_copyFrom 24 = .ok (.iload_n 2, 1) := by decide +kernel
theorem dX0_copyFrom_25 : decode cX0_copyFrom 25 = .ok (.aload_n 1, 1) := by decide +kernel
theorem dX0_copyFrom_26 : decode cX0_copyFrom 26 = .ok (.getfield 15, 3) := by decide +kernel
theorem dX0_copyFrom_29 : decode cX0_copyFrom 29 = .ok (.iload_n 2, 1) := by decide +kernel
theorem dX0_copyFrom_30 : decode cX0_copyFrom 30 = .ok (.iaload, 1) := by decide +kernel
theorem dX0_copyFrom_31 : decode cX0_copyFrom 31 = .ok (.iastore, 1) := by decide +kernel
theorem dX0_copyFrom_32 : decode cX0_copyFrom 32 = .ok (.iconst 0, 1) := by decide +kernel
theorem dX0_copyFrom_33 : decode cX0_copyFrom 33 = .ok (.istore_n 3, 1) := by decide +kernel
theorem dX0_copyFrom_34 : decode cX0_copyFrom 34 = .ok (.iload_n 3, 1) := by decide +kernel
theorem dX0_copyFrom_35 : decode cX0_copyFrom 35 = .ok (.iconst 3, 1) := by decide +kernel
theorem dX0_copyFrom_36 : decode cX0_copyFrom 36 = .ok (.if_icmp .ge 25, 3) := by decide +kernel
theorem dX0_copyFrom_39 : decode cX0_copyFrom 39 = .ok (.aload_n 0, 1) := by decide +kernel
theorem dX0_copyFrom_40 : decode cX0_copyFrom 40 = .ok (.getfield 20, 3) := by decide +kernel
theorem dX0_copyFrom_43 : decode cX0_copyFrom 43 = .ok (.iload_n 2, 1) := by decide +kernel
theorem dX0_copyFrom_44 : decode cX0_copyFrom 44 = .ok (.aaload, 1) := by decide +kernel
theorem dX0_copyFrom_45 : decode cX0_copyFrom 45 = .ok (.iload_n 3, 1) := by decide +kernel
theorem dX0_copyFrom_46 : decode cX0_copyFrom 46 = .ok (.aload_n 1, 1) := by decide +kernel
theorem dX0_copyFrom_47 : decode cX0_copyFrom 47 = .ok (.getfield 20, 3) := by decide +kernel
theorem dX0_copyFrom_50 : decode cX0_copyFrom 50 = .ok (.iload_n 2, 1) := by decide +kernel
theorem dX0_copyFrom_51 : decode cX0_copyFrom 51 = .ok (.aaload, 1) := by decide +kernel
theorem dX0_copyFrom_52 : decode cX0_copyFrom 52 = .ok (.iload_n 3, 1) := by decide +kernel
theorem dX0_copyFrom_53 : decode cX0_copyFrom 53 = .ok (.iaload, 1) := by decide +kernel
theorem dX0_copyFrom_54 : decode cX0_copyFrom 54 = .ok (.iastore, 1) := by decide +kernel
theorem dX0_copyFrom_55 : decode cX0_copyFrom 55 = .ok (.iinc 3 1, 3) := by decide +kernel
theorem dX0_copyFrom_58 : decode cX0_copyFrom 58 = .ok (.goto (-24), 3) := by decide +kernel
theorem dX0_copyFrom_61 : decode cX0_copyFrom 61 = .ok (.iinc 2 1, 3) := by decide +kernel
theorem dX0_copyFrom_64 : decode cX0_copyFrom 64 = .ok (.goto (-62), 3) := by decide +kernel
theorem dX0_copyFrom_67 : decode cX0_copyFrom 67 = .ok (.return_, 1) := by decide +kernel
theorem dX1_init_0 : decode cX1_init 0 = .ok (.aload_n 0, 1) := by decide +kernel
theorem dX1_init_1 : decode cX1_init 1 = .ok (.iload_n 1, 1) := by decide +kernel
theorem dX1_init_2 : decode cX1_init 2 = .ok (.invokespecial 3, 3) := by decide +kernel
theorem dX1_init_5 : decode cX1_init 5 = .ok (.aload_n 0, 1) := by decide +kernel
theorem dX1_init_6 : decode cX1_init 6 = .ok (.iload_n 2, 1) := by decide +kernel
theorem dX1_init_7 : decode cX1_init 7 = .ok (.putfield 9, 3) := by decide +kernel
theorem dX1_init_10 : decode cX1_init 10 = .ok (.aload_n 0, 1) := by decide +kernel
theorem dX1_init_11 : decode cX1_init 11 = .ok (.iload_n 3, 1) := by decide +kernel
theorem dX1_init_12 : decode cX1_init 12 = .ok (.putfield 15, 3) := by decide +kernel
theorem dX1_init_15 : decode cX1_init 15 = .ok (.aload_n 0, 1) := by decide +kernel
theorem dX1_init_16 : decode cX1_init 16 = .ok (.iload 4, 2) := by decide +kernel
theorem dX1_init_18 : decode cX1_init 18 = .ok (.putfield 18, 3) := by decide +kernel
theorem dX1_init_21 : decode cX1_init 21 = .ok (.aload_n 0, 1) := by decide +kernel
theorem dX1_init_22 : decode cX1_init 22 = .ok (.aload 5, 2) := by decide +kernel
theorem dX1_init_24 : decode cX1_init 24 = .ok (.putfield 21, 3) := by decide +kernel
theorem dX1_init_27 : decode cX1_init 27 = .ok (.return_, 1) := by decide +kernel
theorem dX1_kind_0 : decode cX1_kind 0 = .ok (.iconst 4, 1) := by decide +kernel
theorem dX1_kind_1 : decode cX1_kind 1 = .ok (.ireturn, 1) := by decide +kernel
theorem dX1_shownTime_0 : decode cX1_shownTime 0 = .ok (.aload_n 0, 1) := by decide +kernel
theorem dX1_shownTime_1 : decode cX1_shownTime 1 = .ok (.getfield 15, 3) := by decide +kernel
theorem dX1_shownTime_4 : decode cX1_shownTime 4 = .ok (.ireturn, 1) := by decide +kernel
theorem dX1_sameAs_0 : decode cX1_sameAs 0 = .ok (.aload_n 0, 1) := by decide +kernel
theorem dX1_sameAs_1 : decode cX1_sameAs 1 = .ok (.getfield 25, 3) := by decide +kernel
theorem dX1_sameAs_4 : decode cX1_sameAs 4 = .ok (.aload_n 1, 1) := by decide +kernel
theorem dX1_sameAs_5 : decode cX1_sameAs 5 = .ok (.getfield 25, 3) := by decide +kernel
theorem dX1_sameAs_8 : decode cX1_sameAs 8 = .ok (.if_icmp .ne 54, 3) := by decide +kernel
theorem dX1_sameAs_11 : decode cX1_sameAs 11 = .ok (.aload_n 0, 1) := by decide +kernel
theorem dX1_sameAs_12 : decode cX1_sameAs 12 = .ok (.getfield 9, 3) := by decide +kernel
theorem dX1_sameAs_15 : decode cX1_sameAs 15 = .ok (.aload_n 1, 1) := by decide +kernel
theorem dX1_sameAs_16 : decode cX1_sameAs 16 = .ok (.getfield 9, 3) := by decide +kernel
theorem dX1_sameAs_19 : decode cX1_sameAs 19 = .ok (.if_icmp .ne 43, 3) := by decide +kernel
theorem dX1_sameAs_22 : decode cX1_sameAs 22 = .ok (.aload_n 0, 1) := by decide +kernel
theorem dX1_sameAs_23 : decode cX1_sameAs 23 = .ok (.getfield 15, 3) := by decide +kernel
theorem dX1_sameAs_26 : decode cX1_sameAs 26 = .ok (.aload_n 1, 1) := by decide +kernel
theorem dX1_sameAs_27 : decode cX1_sameAs 27 = .ok (.getfield 15, 3) := by decide +kernel
theorem dX1_sameAs_30 : decode cX1_sameAs 30 = .ok (.if_icmp .ne 32, 3) := by decide +kernel
theorem dX1_sameAs_33 : decode cX1_sameAs 33 = .ok (.aload_n 0, 1) := by decide +kernel
theorem dX1_sameAs_34 : decode cX1_sameAs 34 = .ok (.getfield 18, 3) := by decide +kernel
theorem dX1_sameAs_37 : decode cX1_sameAs 37 = .ok (.aload_n 1, 1) := by decide +kernel
theorem dX1_sameAs_38 : decode cX1_sameAs 38 = .ok (.getfield 18, 3) := by decide +kernel
theorem dX1_sameAs_41 : decode cX1_sameAs 41 = .ok (.if_icmp .ne 21, 3) := by decide +kernel
theorem dX1_sameAs_44 : decode cX1_sameAs 44 = .ok (.aload_n 0, 1) := by decide +kernel
theorem dX1_sameAs_45 : decode cX1_sameAs 45 = .ok (.getfield 21, 3) := by decide +kernel
theorem dX1_sameAs_48 : decode cX1_sameAs 48 = .ok (.aload_n 1, 1) := by decide +kernel
theorem dX1_sameAs_49 : decode cX1_sameAs 49 = .ok (.getfield 21, 3) := by decide +kernel
theorem dX1_sameAs_52 : decode cX1_sameAs 52 = .ok (.invokevirtual 28, 3) := by decide +kernel
theorem dX1_sameAs_55 : decode cX1_sameAs 55 = .ok (.ifCond .eq 7, 3) := by decide +kernel
theorem dX1_sameAs_58 : decode cX1_sameAs 58 = .ok (.iconst 1, 1) := by decide +kernel
theorem dX1_sameAs_59 : decode cX1_sameAs 59 = .ok (.goto 4, 3) := by decide +kernel
theorem dX1_sameAs_62 : decode cX1_sameAs 62 = .ok (.iconst 0, 1) := by decide +kernel
theorem dX1_sameAs_63 : decode cX1_sameAs 63 = .ok (.ireturn, 1) := by decide +kernel
theorem dX2_init_0 : decode cX2_init 0 = .ok (.aload_n 0, 1) := by decide +kernel
theorem dX2_init_1 : decode cX2_init 1 = .ok (.invokespecial 3, 3) := by decide +kernel
theorem dX2_init_4 : decode cX2_init 4 = .ok (.aload_n 0, 1) := by decide +kernel
theorem dX2_init_5 : decode cX2_init 5 = .ok (.iconst 3, 1) := by decide +kernel
theorem dX2_init_6 : decode cX2_init 6 = .ok (.newarray .int, 2) := by decide +kernel
theorem dX2_init_8 : decode cX2_init 8 = .ok (.putfield 9, 3) := by decide +kernel
theorem dX2_init_11 : decode cX2_init 11 = .ok (.aload_n 0, 1) := by decide +kernel
theorem dX2_init_12 : decode cX2_init 12 = .ok (.bipush 12, 2) := by decide +kernel
theorem dX2_init_14 : decode cX2_init 14 = .ok (.anewarray 15, 3) := by decide +kernel
theorem dX2_init_17 : decode cX2_init 17 = .ok (.putfield 17, 3) := by decide +kernel
theorem dX2_init_20 : decode cX2_init 20 = .ok (.aload_n 0, 1) := by decide +kernel
theorem dX2_init_21 : decode cX2_init 21 = .ok (.iconst 0, 1) := by decide +kernel
theorem dX2_init_22 : decode cX2_init 22 = .ok (.putfield 21, 3) := by decide +kernel
theorem dX2_init_25 : decode cX2_init 25 = .ok (.aload_n 0, 1) := by decide +kernel
theorem dX2_init_26 : decode cX2_init 26 = .ok (.iconst 0, 1) := by decide +kernel
theorem dX2_init_27 : decode cX2_init 27 = .ok (.putfield 25, 3) := by decide +kernel
theorem dX2_init_30 : decode cX2_init 30 = .ok (.return_, 1) := by decide +kernel
theorem dX2_dropClaimsBefore_0 : decode cX2_dropClaimsBefore 0 = .ok (.iconst 0, 1) := by decide +kernel
theorem dX2_dropClaimsBefore_1 : decode cX2_dropClaimsBefore 1 = .ok (.istore_n 2, 1) := by decide +kernel
theorem dX2_dropClaimsBefore_2 : decode cX2_dropClaimsBefore 2 = .ok (.iconst 0, 1) := by decide +kernel
theorem dX2_dropClaimsBefore_3 : decode cX2_dropClaimsBefore 3 = .ok (.istore_n 3, 1) := by decide +kernel
theorem dX2_dropClaimsBefore_4 : decode cX2_dropClaimsBefore 4 = .ok (.iload_n 3, 1) := by decide +kernel
theorem dX2_dropClaimsBefore_5 : decode cX2_dropClaimsBefore 5 = .ok (.aload_n 0, 1) := by decide +kernel
theorem dX2_dropClaimsBefore_6 : decode cX2_dropClaimsBefore 6 = .ok (.getfield 21, 3) := by decide +kernel
theorem dX2_dropClaimsBefore_9 : decode cX2_dropClaimsBefore 9 = .ok (.if_icmp .ge 37, 3) := by decide +kernel
theorem dX2_dropClaimsBefore_12 : decode cX2_dropClaimsBefore 12 = .ok (.aload_n 0, 1) := by decide +kernel
theorem dX2_dropClaimsBefore_13 : decode cX2_dropClaimsBefore 13 = .ok (.getfield 17, 3) := by decide +kernel
theorem dX2_dropClaimsBefore_16 : decode cX2_dropClaimsBefore 16 = .ok (.iload_n 3, 1) := by decide +kernel
theorem dX2_dropClaimsBefore_17 : decode cX2_dropClaimsBefore 17 = .ok (.aaload, 1) := by decide +kernel
theorem dX2_dropClaimsBefore_18 : decode cX2_dropClaimsBefore 18 = .ok (.getfield 28, 3) := by decide +kernel
theorem dX2_dropClaimsBefore_21 : decode cX2_dropClaimsBefore 21 = .ok (.iload_n 1, 1) := by decide +kernel
theorem dX2_dropClaimsBefore_22 : decode cX2_dropClaimsBefore 22 = .ok (.if_icmp .lt 18, 3) := by decide +kernel
theorem dX2_dropClaimsBefore_25 : decode cX2_dropClaimsBefore 25 = .ok (.aload_n 0, 1) := by decide +kernel
theorem dX2_dropClaimsBefore_26 : decode cX2_dropClaimsBefore 26 = .ok (.getfield 17, 3) := by decide +kernel
theorem dX2_dropClaimsBefore_29 : decode cX2_dropClaimsBefore 29 = .ok (.iload_n 2, 1) := by decide +kernel
theorem dX2_dropClaimsBefore_30 : decode cX2_dropClaimsBefore 30 = .ok (.aload_n 0, 1) := by decide +kernel
theorem dX2_dropClaimsBefore_31 : decode cX2_dropClaimsBefore 31 = .ok (.getfield 17, 3) := by decide +kernel
theorem dX2_dropClaimsBefore_34 : decode cX2_dropClaimsBefore 34 = .ok (.iload_n 3, 1) := by decide +kernel
theorem dX2_dropClaimsBefore_35 : decode cX2_dropClaimsBefore 35 = .ok (.aaload, 1) := by decide +kernel
theorem dX2_dropClaimsBefore_36 : decode cX2_dropClaimsBefore 36 = .ok (.aastore, 1) := by decide +kernel
theorem dX2_dropClaimsBefore_37 : decode cX2_dropClaimsBefore 37 = .ok (.iinc 2 1, 3) := by decide +kernel
theorem dX2_dropClaimsBefore_40 : decode cX2_dropClaimsBefore 40 = .ok (.iinc 3 1, 3) := by decide +kernel
theorem dX2_dropClaimsBefore_43 : decode cX2_dropClaimsBefore 43 = .ok (.goto (-39), 3) := by decide +kernel
theorem dX2_dropClaimsBefore_46 : decode cX2_dropClaimsBefore 46 = .ok (.aload_n 0, 1) := by decide +kernel
theorem dX2_dropClaimsBefore_47 : decode cX2_dropClaimsBefore 47 = .ok (.iload_n 2, 1) := by decide +kernel
theorem dX2_dropClaimsBefore_48 : decode cX2_dropClaimsBefore 48 = .ok (.putfield 21, 3) := by decide +kernel
theorem dX2_dropClaimsBefore_51 : decode cX2_dropClaimsBefore 51 = .ok (.return_, 1) := by decide +kernel
theorem dX2_hasServed_0 : decode cX2_hasServed 0 = .ok (.iconst 0, 1) := by decide +kernel
theorem dX2_hasServed_1 : decode cX2_hasServed 1 = .ok (.istore_n 2, 1) := by decide +kernel
theorem dX2_hasServed_2 : decode cX2_hasServed 2 = .ok (.iload_n 2, 1) := by decide +kernel
theorem dX2_hasServed_3 : decode cX2_hasServed 3 = .ok (.aload_n 0, 1) := by decide +kernel
theorem dX2_hasServed_4 : decode cX2_hasServed 4 = .ok (.getfield 21, 3) := by decide +kernel
theorem dX2_hasServed_7 : decode cX2_hasServed 7 = .ok (.if_icmp .ge 24, 3) := by decide +kernel
theorem dX2_hasServed_10 : decode cX2_hasServed 10 = .ok (.aload_n 0, 1) := by decide +kernel
theorem dX2_hasServed_11 : decode cX2_hasServed 11 = .ok (.getfield 17, 3) := by decide +kernel
theorem dX2_hasServed_14 : decode cX2_hasServed 14 = .ok (.iload_n 2, 1) := by decide +kernel
theorem dX2_hasServed_15 : decode cX2_hasServed 15 = .ok (.aaload, 1) := by decide +kernel
theorem dX2_hasServed_16 : decode cX2_hasServed 16 = .ok (.aload_n 1, 1) := by decide +kernel
theorem dX2_hasServed_17 : decode cX2_hasServed 17 = .ok (.invokevirtual 31, 3) := by decide +kernel
theorem dX2_hasServed_20 : decode cX2_hasServed 20 = .ok (.ifCond .eq 5, 3) := by decide +kernel
theorem dX2_hasServed_23 : decode cX2_hasServed 23 = .ok (.iconst 1, 1) := by decide +kernel
theorem dX2_hasServed_24 : decode cX2_hasServed 24 = .ok (.ireturn, 1) := by decide +kernel
theorem dX2_hasServed_25 : decode cX2_hasServed 25 = .ok (.iinc 2 1, 3) := by decide +kernel
theorem dX2_hasServed_28 : decode cX2_hasServed 28 = .ok (.goto (-26), 3) := by decide +kernel
theorem dX2_hasServed_31 : decode cX2_hasServed 31 = .ok (.iconst 0, 1) := by decide +kernel
theorem dX2_hasServed_32 : decode cX2_hasServed 32 = .ok (.ireturn, 1) := by decide +kernel
theorem dX2_cacheIsFull_0 : decode cX2_cacheIsFull 0 = .ok (.aload_n 0, 1) := by decide +kernel
theorem dX2_cacheIsFull_1 : decode cX2_cacheIsFull 1 = .ok (.getfield 21, 3) := by decide +kernel
theorem dX2_cacheIsFull_4 : decode cX2_cacheIsFull 4 = .ok (.bipush 12, 2) := by decide +kernel
theorem dX2_cacheIsFull_6 : decode cX2_cacheIsFull 6 = .ok (.if_icmp .lt 7, 3) := by decide +kernel
theorem dX2_cacheIsFull_9 : decode cX2_cacheIsFull 9 = .ok (.iconst 1, 1) := by decide +kernel
theorem dX2_cacheIsFull_10 : decode cX2_cacheIsFull 10 = .ok (.goto 4, 3) := by decide +kernel
theorem dX2_cacheIsFull_13 : decode cX2_cacheIsFull 13 = .ok (.iconst 0, 1) := by decide +kernel
theorem dX2_cacheIsFull_14 : decode cX2_cacheIsFull 14 = .ok (.ireturn, 1) := by decide +kernel
theorem dX2_carryOut_0 : decode cX2_carryOut 0 = .ok (.aload_n 0, 1) := by decide +kernel
theorem dX2_carryOut_1 : decode cX2_carryOut 1 = .ok (.getfield 17, 3) := by decide +kernel
theorem dX2_carryOut_4 : decode cX2_carryOut 4 = .ok (.aload_n 0, 1) := by decide +kernel
theorem dX2_carryOut_5 : decode cX2_carryOut 5 = .ok (.getfield 21, 3) := by decide +kernel
theorem dX2_carryOut_8 : decode cX2_carryOut 8 = .ok (.aload_n 1, 1) := by decide +kernel
theorem dX2_carryOut_9 : decode cX2_carryOut 9 = .ok (.aastore, 1) := by decide +kernel
theorem dX2_carryOut_10 : decode cX2_carryOut 10 = .ok (.aload_n 0, 1) := by decide +kernel
theorem dX2_carryOut_11 : decode cX2_carryOut 11 = .ok (.dup, 1) := by decide +kernel
theorem dX2_carryOut_12 : decode cX2_carryOut 12 = .ok (.getfield 21, 3) := by decide +kernel
theorem dX2_carryOut_15 : decode cX2_carryOut 15 = .ok (.iconst 1, 1) := by decide +kernel
theorem dX2_carryOut_16 : decode cX2_carryOut 16 = .ok (.iadd, 1) := by decide +kernel
theorem dX2_carryOut_17 : decode cX2_carryOut 17 = .ok (.putfield 21, 3) := by decide +kernel
theorem dX2_carryOut_20 : decode cX2_carryOut 20 = .ok (.aload_n 1, 1) := by decide +kernel
theorem dX2_carryOut_21 : decode cX2_carryOut 21 = .ok (.getfield 35, 3) := by decide +kernel
theorem dX2_carryOut_24 : decode cX2_carryOut 24 = .ok (.astore_n 2, 1) := by decide +kernel
theorem dX2_carryOut_25 : decode cX2_carryOut 25 = .ok (.aload_n 2, 1) := by decide +kernel
theorem dX2_carryOut_26 : decode cX2_carryOut 26 = .ok (.getfield 39, 3) := by decide +kernel
theorem dX2_carryOut_29 : decode cX2_carryOut 29 = .ok (.iconst 2, 1) := by decide +kernel
theorem dX2_carryOut_30 : decode cX2_carryOut 30 = .ok (.if_icmp .ne 19, 3) := by decide +kernel
theorem dX2_carryOut_33 : decode cX2_carryOut 33 = .ok (.aload_n 0, 1) := by decide +kernel
theorem dX2_carryOut_34 : decode cX2_carryOut 34 = .ok (.getfield 9, 3) := by decide +kernel
theorem dX2_carryOut_37 : decode cX2_carryOut 37 = .ok (.aload_n 2, 1) := by decide +kernel
theorem dX2_carryOut_38 : decode cX2_carryOut 38 = .ok (.getfield 44, 3) := by decide +kernel
theorem dX2_carryOut_41 : decode cX2_carryOut 41 = .ok (.aload_n 2, 1) := by decide +kernel
theorem dX2_carryOut_42 : decode cX2_carryOut 42 = .ok (.getfield 47, 3) := by decide +kernel
theorem dX2_carryOut_45 : decode cX2_carryOut 45 = .ok (.iastore, 1) := by decide +kernel
theorem dX2_carryOut_46 : decode cX2_carryOut 46 = .ok (.goto 27, 3) := by decide +kernel
theorem dX2_carryOut_49 : decode cX2_carryOut 49 = .ok (.aload_n 2, 1) := by decide +kernel
theorem dX2_carryOut_50 : decode cX2_carryOut 50 = .ok (.getfield 39, 3) := by decide +kernel
theorem dX2_carryOut_53 : decode cX2_carryOut 53 = .ok (.iconst 3, 1) := by decide +kernel
theorem dX2_carryOut_54 : decode cX2_carryOut 54 = .ok (.if_icmp .ne 19, 3) := by decide +kernel
theorem dX2_carryOut_57 : decode cX2_carryOut 57 = .ok (.aload_n 0, 1) := by decide +kernel
theorem dX2_carryOut_58 : decode cX2_carryOut 58 = .ok (.getfield 9, 3) := by decide +kernel
theorem dX2_carryOut_61 : decode cX2_carryOut 61 = .ok (.aload_n 2, 1) := by decide +kernel
theorem dX2_carryOut_62 : decode cX2_carryOut 62 = .ok (.getfield 44, 3) := by decide +kernel
theorem dX2_carryOut_65 : decode cX2_carryOut 65 = .ok (.dup2, 1) := by decide +kernel
theorem dX2_carryOut_66 : decode cX2_carryOut 66 = .ok (.iaload, 1) := by decide +kernel
theorem dX2_carryOut_67 : decode cX2_carryOut 67 = .ok (.aload_n 2, 1) := by decide +kernel
theorem dX2_carryOut_68 : decode cX2_carryOut 68 = .ok (.getfield 47, 3) := by decide +kernel
theorem dX2_carryOut_71 : decode cX2_carryOut 71 = .ok (.iadd, 1) := by decide +kernel
theorem dX2_carryOut_72 : decode cX2_carryOut 72 = .ok (.iastore, 1) := by decide +kernel
theorem dX2_carryOut_73 : decode cX2_carryOut 73 = .ok (.aload_n 0, 1) := by decide +kernel
theorem dX2_carryOut_74 : decode cX2_carryOut 74 = .ok (.aload_n 0, 1) := by decide +kernel
theorem dX2_carryOut_75 : decode cX2_carryOut 75 = .ok (.getfield 9, 3) := by decide +kernel
theorem dX2_carryOut_78 : decode cX2_carryOut 78 = .ok (.aload_n 2, 1) := by decide +kernel
theorem dX2_carryOut_79 : decode cX2_carryOut 79 = .ok (.getfield 44, 3) := by decide +kernel
theorem dX2_carryOut_82 : decode cX2_carryOut 82 = .ok (.iaload, 1) := by decide +kernel
theorem dX2_carryOut_83 : decode cX2_carryOut 83 = .ok (.putfield 25, 3) := by decide +kernel
theorem dX2_carryOut_86 : decode cX2_carryOut 86 = .ok (.return_, 1) := by decide +kernel
theorem dX3_init_0 : decode cX3_init 0 = .ok (.aload_n 0, 1) := by decide +kernel
theorem dX3_init_1 : decode cX3_init 1 = .ok (.invokespecial 1, 3) := by decide +kernel
theorem dX3_init_4 : decode cX3_init 4 = .ok (.aload_n 0, 1) := by decide +kernel
theorem dX3_init_5 : decode cX3_init 5 = .ok (.iload_n 1, 1) := by decide +kernel
theorem dX3_init_6 : decode cX3_init 6 = .ok (.putfield 7, 3) := by decide +kernel
theorem dX3_init_9 : decode cX3_init 9 = .ok (.aload_n 0, 1) := by decide +kernel
theorem dX3_init_10 : decode cX3_init 10 = .ok (.iload_n 2, 1) := by decide +kernel
theorem dX3_init_11 : decode cX3_init 11 = .ok (.putfield 13, 3) := by decide +kernel
theorem dX3_init_14 : decode cX3_init 14 = .ok (.aload_n 0, 1) := by decide +kernel
theorem dX3_init_15 : decode cX3_init 15 = .ok (.iload_n 3, 1) := by decide +kernel
theorem dX3_init_16 : decode cX3_init 16 = .ok (.putfield 16, 3) := by decide +kernel
theorem dX3_init_19 : decode cX3_init 19 = .ok (.return_, 1) := by decide +kernel
theorem dX3_sameAs_0 : decode cX3_sameAs 0 = .ok (.aload_n 0, 1) := by decide +kernel
theorem dX3_sameAs_1 : decode cX3_sameAs 1 = .ok (.getfield 7, 3) := by decide +kernel
theorem dX3_sameAs_4 : decode cX3_sameAs 4 = .ok (.aload_n 1, 1) := by decide +kernel
theorem dX3_sameAs_5 : decode cX3_sameAs 5 = .ok (.getfield 7, 3) := by decide +kernel
theorem dX3_sameAs_8 : decode cX3_sameAs 8 = .ok (.if_icmp .ne 29, 3) := by decide +kernel
theorem dX3_sameAs_11 : decode cX3_sameAs 11 = .ok (.aload_n 0, 1) := by decide +kernel
theorem dX3_sameAs_12 : decode cX3_sameAs 12 = .ok (.getfield 13, 3) := by decide +kernel
theorem dX3_sameAs_15 : decode cX3_sameAs 15 = .ok (.aload_n 1, 1) := by decide +kernel
theorem dX3_sameAs_16 : decode cX3_sameAs 16 = .ok (.getfield 13, 3) := by decide +kernel
theorem dX3_sameAs_19 : decode cX3_sameAs 19 = .ok (.if_icmp .ne 18, 3) := by decide +kernel
theorem dX3_sameAs_22 : decode cX3_sameAs 22 = .ok (.aload_n 0, 1) := by decide +kernel
theorem dX3_sameAs_23 : decode cX3_sameAs 23 = .ok (.getfield 16, 3) := by decide +kernel
theorem dX3_sameAs_26 : decode cX3_sameAs 26 = .ok (.aload_n 1, 1) := by decide +kernel
theorem dX3_sameAs_27 : decode cX3_sameAs 27 = .ok (.getfield 16, 3) := by decide +kernel
theorem dX3_sameAs_30 : decode cX3_sameAs 30 = .ok (.if_icmp .ne 7, 3) := by decide +kernel
theorem dX3_sameAs_33 : decode cX3_sameAs 33 = .ok (.iconst 1, 1) := by decide +kernel
theorem dX3_sameAs_34 : decode cX3_sameAs 34 = .ok (.goto 4, 3) := by decide +kernel
theorem dX3_sameAs_37 : decode cX3_sameAs 37 = .ok (.iconst 0, 1) := by decide +kernel
theorem dX3_sameAs_38 : decode cX3_sameAs 38 = .ok (.ireturn, 1) := by decide +kernel
theorem dX4_init_0 : decode cX4_init 0 = .ok (.aload_n 0, 1) := by decide +kernel
theorem dX4_init_1 : decode cX4_init 1 = .ok (.iload_n 1, 1) := by decide +kernel
theorem dX4_init_2 : decode cX4_init 2 = .ok (.invokespecial 3, 3) := by decide +kernel
theorem dX4_init_5 : decode cX4_init 5 = .ok (.aload_n 0, 1) := by decide +kernel
theorem dX4_init_6 : decode cX4_init 6 = .ok (.iload_n 2, 1) := by decide +kernel
theorem dX4_init_7 : decode cX4_init 7 = .ok (.putfield 9, 3) := by decide +kernel
theorem dX4_init_10 : decode cX4_init 10 = .ok (.aload_n 0, 1) := by decide +kernel
theorem dX4_init_11 : decode cX4_init 11 = .ok (.iload_n 3, 1) := by decide +kernel
theorem dX4_init_12 : decode cX4_init 12 = .ok (.putfield 15, 3) := by decide +kernel
theorem dX4_init_15 : decode cX4_init 15 = .ok (.aload_n 0, 1) := by decide +kernel
theorem dX4_init_16 : decode cX4_init 16 = .ok (.iload 4, 2) := by decide +kernel
theorem dX4_init_18 : decode cX4_init 18 = .ok (.putfield 18, 3) := by decide +kernel
theorem dX4_init_21 : decode cX4_init 21 = .ok (.aload_n 0, 1) := by decide +kernel
theorem dX4_init_22 : decode cX4_init 22 = .ok (.iload 5, 2) := by decide +kernel
theorem dX4_init_24 : decode cX4_init 24 = .ok (.putfield 21, 3) := by decide +kernel
theorem dX4_init_27 : decode cX4_init 27 = .ok (.return_, 1) := by decide +kernel
theorem dX4_kind_0 : decode cX4_kind 0 = .ok (.iconst 3, 1) := by decide +kernel
theorem dX4_kind_1 : decode cX4_kind 1 = .ok (.ireturn, 1) := by decide +kernel
theorem dX4_heldKey_0 : decode cX4_heldKey 0 = .ok (.aload_n 0, 1) := by decide +kernel
theorem dX4_heldKey_1 : decode cX4_heldKey 1 = .ok (.getfield 9, 3) := by decide +kernel
theorem dX4_heldKey_4 : decode cX4_heldKey 4 = .ok (.ireturn, 1) := by decide +kernel
theorem dX4_shownEnd_0 : decode cX4_shownEnd 0 = .ok (.aload_n 0, 1) := by decide +kernel
theorem dX4_shownEnd_1 : decode cX4_shownEnd 1 = .ok (.getfield 21, 3) := by decide +kernel
theorem dX4_shownEnd_4 : decode cX4_shownEnd 4 = .ok (.ireturn, 1) := by decide +kernel
theorem dX5_init_0 : decode cX5_init 0 = .ok (.aload_n 0, 1) := by decide +kernel
theorem dX5_init_1 : decode cX5_init 1 = .ok (.iload_n 1, 1) := by decide +kernel
theorem dX5_init_2 : decode cX5_init 2 = .ok (.invokespecial 3, 3) := by decide +kernel
theorem dX5_init_5 : decode cX5_init 5 = .ok (.aload_n 0, 1) := by decide +kernel
theorem dX5_init_6 : decode cX5_init 6 = .ok (.iload_n 2, 1) := by decide +kernel
theorem dX5_init_7 : decode cX5_init 7 = .ok (.putfield 9, 3) := by decide +kernel
theorem dX5_init_10 : decode cX5_init 10 = .ok (.aload_n 0, 1) := by decide +kernel
theorem dX5_init_11 : decode cX5_init 11 = .ok (.iload_n 3, 1) := by decide +kernel
theorem dX5_init_12 : decode cX5_init 12 = .ok (.putfield 15, 3) := by decide +kernel
theorem dX5_init_15 : decode cX5_init 15 = .ok (.return_, 1) := by decide +kernel
theorem dX5_kind_0 : decode cX5_kind 0 = .ok (.iconst 1, 1) := by decide +kernel
theorem dX5_kind_1 : decode cX5_kind 1 = .ok (.ireturn, 1) := by decide +kernel
theorem dX5_shownTime_0 : decode cX5_shownTime 0 = .ok (.aload_n 0, 1) := by decide +kernel
theorem dX5_shownTime_1 : decode cX5_shownTime 1 = .ok (.getfield 15, 3) := by decide +kernel
theorem dX5_shownTime_4 : decode cX5_shownTime 4 = .ok (.ireturn, 1) := by decide +kernel
theorem dX6_init_0 : decode cX6_init 0 = .ok (.aload_n 0, 1) := by decide +kernel
theorem dX6_init_1 : decode cX6_init 1 = .ok (.invokespecial 3, 3) := by decide +kernel
theorem dX6_init_4 : decode cX6_init 4 = .ok (.aload_n 0, 1) := by decide +kernel
theorem dX6_init_5 : decode cX6_init 5 = .ok (.iload_n 1, 1) := by decide +kernel
theorem dX6_init_6 : decode cX6_init 6 = .ok (.putfield 9, 3) := by decide +kernel
theorem dX6_init_9 : decode cX6_init 9 = .ok (.return_, 1) := by decide +kernel
theorem dX6_heldKey_0 : decode cX6_heldKey 0 = .ok (.iconst (-1), 1) := by decide +kernel
theorem dX6_heldKey_1 : decode cX6_heldKey 1 = .ok (.ireturn, 1) := by decide +kernel
theorem dX6_shownEnd_0 : decode cX6_shownEnd 0 = .ok (.iconst 0, 1) := by decide +kernel
theorem dX6_shownEnd_1 : decode cX6_shownEnd 1 = .ok (.ireturn, 1) := by decide +kernel
theorem dX6_shownTime_0 : decode cX6_shownTime 0 = .ok (.iconst 0, 1) := by decide +kernel
theorem dX6_shownTime_1 : decode cX6_shownTime 1 = .ok (.ireturn, 1) := by decide +kernel
theorem dX7_init_0 : decode cX7_init 0 = .ok (.aload_n 0, 1) := by decide +kernel
theorem dX7_init_1 : decode cX7_init 1 = .ok (.iload_n 1, 1) := by decide +kernel
theorem dX7_init_2 : decode cX7_init 2 = .ok (.invokespecial 3, 3) := by decide +kernel
theorem dX7_init_5 : decode cX7_init 5 = .ok (.aload_n 0, 1) := by decide +kernel
theorem dX7_init_6 : decode cX7_init 6 = .ok (.iload_n 2, 1) := by decide +kernel
theorem dX7_init_7 : decode cX7_init 7 = .ok (.putfield 9, 3) := by decide +kernel
theorem dX7_init_10 : decode cX7_init 10 = .ok (.aload_n 0, 1) := by decide +kernel
theorem dX7_init_11 : decode cX7_init 11 = .ok (.iload_n 3, 1) := by decide +kernel
theorem dX7_init_12 : decode cX7_init 12 = .ok (.putfield 15, 3) := by decide +kernel
theorem dX7_init_15 : decode cX7_init 15 = .ok (.aload_n 0, 1) := by decide +kernel
theorem dX7_init_16 : decode cX7_init 16 = .ok (.iload 4, 2) := by decide +kernel
theorem dX7_init_18 : decode cX7_init 18 = .ok (.putfield 18, 3) := by decide +kernel
theorem dX7_init_21 : decode cX7_init 21 = .ok (.aload_n 0, 1) := by decide +kernel
theorem dX7_init_22 : decode cX7_init 22 = .ok (.iload 5, 2) := by decide +kernel
theorem dX7_init_24 : decode cX7_init 24 = .ok (.putfield 21, 3) := by decide +kernel
theorem dX7_init_27 : decode cX7_init 27 = .ok (.aload_n 0, 1) := by decide +kernel
theorem dX7_init_28 : decode cX7_init 28 = .ok (.iload 6, 2) := by decide +kernel
theorem dX7_init_30 : decode cX7_init 30 = .ok (.putfield 24, 3) := by decide +kernel
theorem dX7_init_33 : decode cX7_init 33 = .ok (.return_, 1) := by decide +kernel
theorem dX7_kind_0 : decode cX7_kind 0 = .ok (.iconst 2, 1) := by decide +kernel
theorem dX7_kind_1 : decode cX7_kind 1 = .ok (.ireturn, 1) := by decide +kernel
theorem dX7_heldKey_0 : decode cX7_heldKey 0 = .ok (.aload_n 0, 1) := by decide +kernel
theorem dX7_heldKey_1 : decode cX7_heldKey 1 = .ok (.getfield 15, 3) := by decide +kernel
theorem dX7_heldKey_4 : decode cX7_heldKey 4 = .ok (.ireturn, 1) := by decide +kernel
theorem dX7_shownEnd_0 : decode cX7_shownEnd 0 = .ok (.aload_n 0, 1) := by decide +kernel
theorem dX7_shownEnd_1 : decode cX7_shownEnd 1 = .ok (.getfield 21, 3) := by decide +kernel
theorem dX7_shownEnd_4 : decode cX7_shownEnd 4 = .ok (.ireturn, 1) := by decide +kernel
theorem dX8_init_0 : decode cX8_init 0 = .ok (.aload_n 0, 1) := by decide +kernel
theorem dX8_init_1 : decode cX8_init 1 = .ok (.invokespecial 3, 3) := by decide +kernel
theorem dX8_init_4 : decode cX8_init 4 = .ok (.aload_n 0, 1) := by decide +kernel
theorem dX8_init_5 : decode cX8_init 5 = .ok (.iconst 0, 1) := by decide +kernel
theorem dX8_init_6 : decode cX8_init 6 = .ok (.putfield 9, 3) := by decide +kernel
theorem dX8_init_9 : decode cX8_init 9 = .ok (.aload_n 0, 1) := by decide +kernel
theorem dX8_init_10 : decode cX8_init 10 = .ok (.iconst 0, 1) := by decide +kernel
theorem dX8_init_11 : decode cX8_init 11 = .ok (.putfield 15, 3) := by decide +kernel
theorem dX8_init_14 : decode cX8_init 14 = .ok (.aload_n 0, 1) := by decide +kernel
theorem dX8_init_15 : decode cX8_init 15 = .ok (.iconst (-1), 1) := by decide +kernel
theorem dX8_init_16 : decode cX8_init 16 = .ok (.putfield 18, 3) := by decide +kernel
theorem dX8_init_19 : decode cX8_init 19 = .ok (.aload_n 0, 1) := by decide +kernel
theorem dX8_init_20 : decode cX8_init 20 = .ok (.iconst 0, 1) := by decide +kernel
theorem dX8_init_21 : decode cX8_init 21 = .ok (.putfield 21, 3) := by decide +kernel
theorem dX8_init_24 : decode cX8_init 24 = .ok (.aload_n 0, 1) := by decide +kernel
theorem dX8_init_25 : decode cX8_init 25 = .ok (.iconst 2, 1) := by decide +kernel
theorem dX8_init_26 : decode cX8_init 26 = .ok (.newarray .int, 2) := by decide +kernel
theorem dX8_init_28 : decode cX8_init 28 = .ok (.putfield 24, 3) := by decide +kernel
theorem dX8_init_31 : decode cX8_init 31 = .ok (.aload_n 0, 1) := by decide +kernel
theorem dX8_init_32 : decode cX8_init 32 = .ok (.iconst 2, 1) := by decide +kernel
theorem dX8_init_33 : decode cX8_init 33 = .ok (.newarray .int, 2) := by decide +kernel
theorem dX8_init_35 : decode cX8_init 35 = .ok (.putfield 28, 3) := by decide +kernel
theorem dX8_init_38 : decode cX8_init 38 = .ok (.iconst 0, 1) := by decide +kernel
theorem dX8_init_39 : decode cX8_init 39 = .ok (.istore_n 1, 1) := by decide +kernel
theorem dX8_init_40 : decode cX8_init 40 = .ok (.iload_n 1, 1) := by decide +kernel
theorem dX8_init_41 : decode cX8_init 41 = .ok (.iconst 2, 1) := by decide +kernel
theorem dX8_init_42 : decode cX8_init 42 = .ok (.if_icmp .ge 23, 3) := by decide +kernel
theorem dX8_init_45 : decode cX8_init 45 = .ok (.aload_n 0, 1) := by decide +kernel
theorem dX8_init_46 : decode cX8_init 46 = .ok (.getfield 24, 3) := by decide +kernel
theorem dX8_init_49 : decode cX8_init 49 = .ok (.iload_n 1, 1) := by decide +kernel
theorem dX8_init_50 : decode cX8_init 50 = .ok (.iconst (-1), 1) := by decide +kernel
theorem dX8_init_51 : decode cX8_init 51 = .ok (.iastore, 1) := by decide +kernel
theorem dX8_init_52 : decode cX8_init 52 = .ok (.aload_n 0, 1) := by decide +kernel
theorem dX8_init_53 : decode cX8_init 53 = .ok (.getfield 28, 3) := by decide +kernel
theorem dX8_init_56 : decode cX8_init 56 = .ok (.iload_n 1, 1) := by decide +kernel
theorem dX8_init_57 : decode cX8_init 57 = .ok (.iconst (-1), 1) := by decide +kernel
theorem dX8_init_58 : decode cX8_init 58 = .ok (.iastore, 1) := by decide +kernel
theorem dX8_init_59 : decode cX8_init 59 = .ok (.iinc 1 1, 3) := by decide +kernel
theorem dX8_init_62 : decode cX8_init 62 = .ok (.goto (-22), 3) := by decide +kernel
theorem dX8_init_65 : decode cX8_init 65 = .ok (.return_, 1) := by decide +kernel
theorem dX8_hasRequest_0 : decode cX8_hasRequest 0 = .ok (.aload_n 0, 1) := by decide +kernel
theorem dX8_hasRequest_1 : decode cX8_hasRequest 1 = .ok (.getfield 9, 3) := by decide +kernel
theorem dX8_hasRequest_4 : decode cX8_hasRequest 4 = .ok (.ifCond .eq 7, 3) := by decide +kernel
theorem dX8_hasRequest_7 : decode cX8_hasRequest 7 = .ok (.iconst 1, 1) := by decide +kernel
theorem dX8_hasRequest_8 : decode cX8_hasRequest 8 = .ok (.goto 4, 3) := by decide +kernel
theorem dX8_hasRequest_11 : decode cX8_hasRequest 11 = .ok (.iconst 0, 1) := by decide +kernel
theorem dX8_hasRequest_12 : decode cX8_hasRequest 12 = .ok (.ireturn, 1) := by decide +kernel
theorem dX8_hasCredential_0 : decode cX8_hasCredential 0 = .ok (.aload_n 0, 1) := by decide +kernel
theorem dX8_hasCredential_1 : decode cX8_hasCredential 1 = .ok (.getfield 24, 3) := by decide +kernel
theorem dX8_hasCredential_4 : decode cX8_hasCredential 4 = .ok (.iload_n 1, 1) := by decide +kernel
theorem dX8_hasCredential_5 : decode cX8_hasCredential 5 = .ok (.iaload, 1) := by decide +kernel
theorem dX8_hasCredential_6 : decode cX8_hasCredential 6 = .ok (.iconst (-1), 1) := by decide +kernel
theorem dX8_hasCredential_7 : decode cX8_hasCredential 7 = .ok (.if_icmp .eq 7, 3) := by decide +kernel
theorem dX8_hasCredential_10 : decode cX8_hasCredential 10 = .ok (.iconst 1, 1) := by decide +kernel
theorem dX8_hasCredential_11 : decode cX8_hasCredential 11 = .ok (.goto 4, 3) := by decide +kernel
theorem dX8_hasCredential_14 : decode cX8_hasCredential 14 = .ok (.iconst 0, 1) := by decide +kernel
theorem dX8_hasCredential_15 : decode cX8_hasCredential 15 = .ok (.ireturn, 1) := by decide +kernel
theorem dX8_openRequest_0 : decode cX8_openRequest 0 = .ok (.aload_n 0, 1) := by decide +kernel
theorem dX8_openRequest_1 : decode cX8_openRequest 1 = .ok (.iload_n 1, 1) := by decide +kernel
theorem dX8_openRequest_2 : decode cX8_openRequest 2 = .ok (.putfield 9, 3) := by decide +kernel
theorem dX8_openRequest_5 : decode cX8_openRequest 5 = .ok (.aload_n 0, 1) := by decide +kernel
theorem dX8_openRequest_6 : decode cX8_openRequest 6 = .ok (.iload_n 2, 1) := by decide +kernel
theorem dX8_openRequest_7 : decode cX8_openRequest 7 = .ok (.putfield 15, 3) := by decide +kernel
theorem dX8_openRequest_10 : decode cX8_openRequest 10 = .ok (.aload_n 0, 1) := by decide +kernel
theorem dX8_openRequest_11 : decode cX8_openRequest 11 = .ok (.iload_n 3, 1) := by decide +kernel
theorem dX8_openRequest_12 : decode cX8_openRequest 12 = .ok (.putfield 18, 3) := by decide +kernel
theorem dX8_openRequest_15 : decode cX8_openRequest 15 = .ok (.return_, 1) := by decide +kernel
theorem dX8_closeRequest_0 : decode cX8_closeRequest 0 = .ok (.aload_n 0, 1) := by decide +kernel
theorem dX8_closeRequest_1 : decode cX8_closeRequest 1 = .ok (.getfield 24, 3) := by decide +kernel
theorem dX8_closeRequest_4 : decode cX8_closeRequest 4 = .ok (.aload_n 0, 1) := by decide +kernel
theorem dX8_closeRequest_5 : decode cX8_closeRequest 5 = .ok (.getfield 15, 3) := by decide +kernel
theorem dX8_closeRequest_8 : decode cX8_closeRequest 8 = .ok (.iload_n 1, 1) := by decide +kernel
theorem dX8_closeRequest_9 : decode cX8_closeRequest 9 = .ok (.iastore, 1) := by decide +kernel
theorem dX8_closeRequest_10 : decode cX8_closeRequest 10 = .ok (.aload_n 0, 1) := by decide +kernel
theorem dX8_closeRequest_11 : decode cX8_closeRequest 11 = .ok (.getfield 28, 3) := by decide +kernel
theorem dX8_closeRequest_14 : decode cX8_closeRequest 14 = .ok (.aload_n 0, 1) := by decide +kernel
theorem dX8_closeRequest_15 : decode cX8_closeRequest 15 = .ok (.getfield 15, 3) := by decide +kernel
theorem dX8_closeRequest_18 : decode cX8_closeRequest 18 = .ok (.iload_n 2, 1) := by decide +kernel
theorem dX8_closeRequest_19 : decode cX8_closeRequest 19 = .ok (.iastore, 1) := by decide +kernel
theorem dX8_closeRequest_20 : decode cX8_closeRequest 20 = .ok (.aload_n 0, 1) := by decide +kernel
theorem dX8_closeRequest_21 : decode cX8_closeRequest 21 = .ok (.iconst 0, 1) := by decide +kernel
theorem dX8_closeRequest_22 : decode cX8_closeRequest 22 = .ok (.putfield 9, 3) := by decide +kernel
theorem dX8_closeRequest_25 : decode cX8_closeRequest 25 = .ok (.return_, 1) := by decide +kernel
theorem dX8_makeSerial_0 : decode cX8_makeSerial 0 = .ok (.aload_n 0, 1) := by decide +kernel
theorem dX8_makeSerial_1 : decode cX8_makeSerial 1 = .ok (.dup, 1) := by decide +kernel
theorem dX8_makeSerial_2 : decode cX8_makeSerial 2 = .ok (.getfield 21, 3) := by decide +kernel
theorem dX8_makeSerial_5 : decode cX8_makeSerial 5 = .ok (.iconst 1, 1) := by decide +kernel
theorem dX8_makeSerial_6 : decode cX8_makeSerial 6 = .ok (.iadd, 1) := by decide +kernel
theorem dX8_makeSerial_7 : decode cX8_makeSerial 7 = .ok (.putfield 21, 3) := by decide +kernel
theorem dX8_makeSerial_10 : decode cX8_makeSerial 10 = .ok (.aload_n 0, 1) := by decide +kernel
theorem dX8_makeSerial_11 : decode cX8_makeSerial 11 = .ok (.getfield 21, 3) := by decide +kernel
theorem dX8_makeSerial_14 : decode cX8_makeSerial 14 = .ok (.ireturn, 1) := by decide +kernel
theorem dJ9_abs_067f4_0 : decode cJ9_abs_067f4 0 = .ok (.lload_n 0, 1) := by decide +kernel
theorem dJ9_abs_067f4_1 : decode cJ9_abs_067f4 1 = .ok (.lconst 0, 1) := by decide +kernel
theorem dJ9_abs_067f4_2 : decode cJ9_abs_067f4 2 = .ok (.lcmp, 1) := by decide +kernel
theorem dJ9_abs_067f4_3 : decode cJ9_abs_067f4 3 = .ok (.ifCond .ge 8, 3) := by decide +kernel
theorem dJ9_abs_067f4_6 : decode cJ9_abs_067f4 6 = .ok (.lload_n 0, 1) := by decide +kernel
theorem dJ9_abs_067f4_7 : decode cJ9_abs_067f4 7 = .ok (.lneg, 1) := by decide +kernel
theorem dJ9_abs_067f4_8 : decode cJ9_abs_067f4 8 = .ok (.goto 4, 3) := by decide +kernel
theorem dJ9_abs_067f4_11 : decode cJ9_abs_067f4 11 = .ok (.lload_n 0, 1) := by decide +kernel
theorem dJ9_abs_067f4_12 : decode cJ9_abs_067f4 12 = .ok (.lreturn, 1) := by decide +kernel
theorem dJ9_max_7cf53_0 : decode cJ9_max_7cf53 0 = .ok (.iload_n 0, 1) := by decide +kernel
theorem dJ9_max_7cf53_1 : decode cJ9_max_7cf53 1 = .ok (.iload_n 1, 1) := by decide +kernel
theorem dJ9_max_7cf53_2 : decode cJ9_max_7cf53 2 = .ok (.if_icmp .lt 7, 3) := by decide +kernel
theorem dJ9_max_7cf53_5 : decode cJ9_max_7cf53 5 = .ok (.iload_n 0, 1) := by decide +kernel
theorem dJ9_max_7cf53_6 : decode cJ9_max_7cf53 6 = .ok (.goto 4, 3) := by decide +kernel
theorem dJ9_max_7cf53_9 : decode cJ9_max_7cf53 9 = .ok (.iload_n 1, 1) := by decide +kernel
theorem dJ9_max_7cf53_10 : decode cJ9_max_7cf53 10 = .ok (.ireturn, 1) := by decide +kernel
theorem dJ9_min_7cf53_0 : decode cJ9_min_7cf53 0 = .ok (.iload_n 0, 1) := by decide +kernel
theorem dJ9_min_7cf53_1 : decode cJ9_min_7cf53 1 = .ok (.iload_n 1, 1) := by decide +kernel
theorem dJ9_min_7cf53_2 : decode cJ9_min_7cf53 2 = .ok (.if_icmp .gt 7, 3) := by decide +kernel
theorem dJ9_min_7cf53_5 : decode cJ9_min_7cf53 5 = .ok (.iload_n 0, 1) := by decide +kernel
theorem dJ9_min_7cf53_6 : decode cJ9_min_7cf53 6 = .ok (.goto 4, 3) := by decide +kernel
theorem dJ9_min_7cf53_9 : decode cJ9_min_7cf53 9 = .ok (.iload_n 1, 1) := by decide +kernel
theorem dJ9_min_7cf53_10 : decode cJ9_min_7cf53 10 = .ok (.ireturn, 1) := by decide +kernel
theorem dL_cell_0 : decode cL_cell 0 = .ok (.iload_n 1, 1) := by decide +kernel
theorem dL_cell_1 : decode cL_cell 1 = .ok (.aload_n 0, 1) := by decide +kernel
theorem dL_cell_2 : decode cL_cell 2 = .ok (.arraylength, 1) := by decide +kernel
theorem dL_cell_3 : decode cL_cell 3 = .ok (.if_icmp .ge 9, 3) := by decide +kernel
theorem dL_cell_6 : decode cL_cell 6 = .ok (.aload_n 0, 1) := by decide +kernel
theorem dL_cell_7 : decode cL_cell 7 = .ok (.iload_n 1, 1) := by decide +kernel
theorem dL_cell_8 : decode cL_cell 8 = .ok (.iaload, 1) := by decide +kernel
theorem dL_cell_9 : decode cL_cell 9 = .ok (.goto 4, 3) := by decide +kernel
theorem dL_cell_12 : decode cL_cell 12 = .ok (.iconst 0, 1) := by decide +kernel
theorem dL_cell_13 : decode cL_cell 13 = .ok (.ireturn, 1) := by decide +kernel
end
section
theorem dX9_init_0 : decode cX9_init 0 = .ok (.aload_n 0, 1) := by decide +kernel
theorem dX9_init_1 : decode cX9_init 1 = .ok (.invokespecial 1, 3) := by decide +kernel
theorem dX9_init_4 : decode cX9_init 4 = .ok (.aload_n 0, 1) := by decide +kernel
theorem dX9_init_5 : decode cX9_init 5 = .ok (.bipush 6, 2) := by decide +kernel
theorem dX9_init_7 : decode cX9_init 7 = .ok (.newarray .int, 2) := by decide +kernel
theorem dX9_init_9 : decode cX9_init 9 = .ok (.putfield 9, 3) := by decide +kernel
theorem dX9_init_12 : decode cX9_init 12 = .ok (.aload_n 0, 1) := by decide +kernel
theorem dX9_init_13 : decode cX9_init 13 = .ok (.bipush 6, 2) := by decide +kernel
theorem dX9_init_15 : decode cX9_init 15 = .ok (.newarray .int, 2) := by decide +kernel
theorem dX9_init_17 : decode cX9_init 17 = .ok (.putfield 13, 3) := by decide +kernel
theorem dX9_init_20 : decode cX9_init 20 = .ok (.aload_n 0, 1) := by decide +kernel
theorem dX9_init_21 : decode cX9_init 21 = .ok (.new 16, 3) := by decide +kernel
theorem dX9_init_24 : decode cX9_init 24 = .ok (.dup, 1) := by decide +kernel
theorem dX9_init_25 : decode cX9_init 25 = .ok (.invokespecial 18, 3) := by decide +kernel
theorem dX9_init_28 : decode cX9_init 28 = .ok (.putfield 19, 3) := by decide +kernel
theorem dX9_init_31 : decode cX9_init 31 = .ok (.aload_n 0, 1) := by decide +kernel
theorem dX9_init_32 : decode cX9_init 32 = .ok (.new 16, 3) := by decide +kernel
theorem dX9_init_35 : decode cX9_init 35 = .ok (.dup, 1) := by decide +kernel
theorem dX9_init_36 : decode cX9_init 36 = .ok (.invokespecial 18, 3) := by decide +kernel
theorem dX9_init_39 : decode cX9_init 39 = .ok (.putfield 23, 3) := by decide +kernel
theorem dX9_init_42 : decode cX9_init 42 = .ok (.aload_n 0, 1) := by decide +kernel
theorem dX9_init_43 : decode cX9_init 43 = .ok (.iconst 4, 1) := by decide +kernel
theorem dX9_init_44 : decode cX9_init 44 = .ok (.anewarray 26, 3) := by decide +kernel
theorem dX9_init_47 : decode cX9_init 47 = .ok (.putfield 28, 3) := by decide +kernel
theorem dX9_init_50 : decode cX9_init 50 = .ok (.aload_n 0, 1) := by decide +kernel
theorem dX9_init_51 : decode cX9_init 51 = .ok (.new 32, 3) := by decide +kernel
theorem dX9_init_54 : decode cX9_init 54 = .ok (.dup, 1) := by decide +kernel
theorem dX9_init_55 : decode cX9_init 55 = .ok (.invokespecial 34, 3) := by decide +kernel
theorem dX9_init_58 : decode cX9_init 58 = .ok (.putfield 35, 3) := by decide +kernel
theorem dX9_init_61 : decode cX9_init 61 = .ok (.aload_n 0, 1) := by decide +kernel
theorem dX9_init_62 : decode cX9_init 62 = .ok (.sipush 150, 3) := by decide +kernel
theorem dX9_init_65 : decode cX9_init 65 = .ok (.anewarray 39, 3) := by decide +kernel
theorem dX9_init_68 : decode cX9_init 68 = .ok (.putfield 41, 3) := by decide +kernel
theorem dX9_init_71 : decode cX9_init 71 = .ok (.aload_n 0, 1) := by decide +kernel
theorem dX9_init_72 : decode cX9_init 72 = .ok (.iconst 0, 1) := by decide +kernel
theorem dX9_init_73 : decode cX9_init 73 = .ok (.putfield 45, 3) := by decide +kernel
theorem dX9_init_76 : decode cX9_init 76 = .ok (.aload_n 0, 1) := by decide +kernel
theorem dX9_init_77 : decode cX9_init 77 = .ok (.sipush 200, 3) := by decide +kernel
theorem dX9_init_80 : decode cX9_init 80 = .ok (.newarray .boolean, 2) := by decide +kernel
theorem dX9_init_82 : decode cX9_init 82 = .ok (.putfield 49, 3) := by decide +kernel
theorem dX9_init_85 : decode cX9_init 85 = .ok (.aload_n 0, 1) := by decide +kernel
theorem dX9_init_86 : decode cX9_init 86 = .ok (.iconst 0, 1) := by decide +kernel
theorem dX9_init_87 : decode cX9_init 87 = .ok (.putfield 53, 3) := by decide +kernel
theorem dX9_init_90 : decode cX9_init 90 = .ok (.aload_n 0, 1) := by decide +kernel
theorem dX9_init_91 : decode cX9_init 91 = .ok (.iconst 0, 1) := by decide +kernel
theorem dX9_init_92 : decode cX9_init 92 = .ok (.putfield 56, 3) := by decide +kernel
theorem dX9_init_95 : decode cX9_init 95 = .ok (.aload_n 0, 1) := by decide +kernel
theorem dX9_init_96 : decode cX9_init 96 = .ok (.iconst 0, 1) := by decide +kernel
theorem dX9_init_97 : decode cX9_init 97 = .ok (.bipush 100, 2) := by decide +kernel
theorem dX9_init_99 : decode cX9_init 99 = .ok (.iload_n 1, 1) := by decide +kernel
theorem dX9_init_100 : decode cX9_init 100 = .ok (.invokestatic 59, 3) := by decide +kernel
theorem dX9_init_103 : decode cX9_init 103 = .ok (.invokestatic 65, 3) := by decide +kernel
theorem dX9_init_106 : decode cX9_init 106 = .ok (.putfield 68, 3) := by decide +kernel
theorem dX9_init_109 : decode cX9_init 109 = .ok (.iconst 0, 1) := by decide +kernel
theorem dX9_init_110 : decode cX9_init 110 = .ok (.istore_n 2, 1) := by decide +kernel
theorem dX9_init_111 : decode cX9_init 111 = .ok (.iload_n 2, 1) := by decide +kernel
theorem dX9_init_112 : decode cX9_init 112 = .ok (.bipush 6, 2) := by decide +kernel
theorem dX9_init_114 : decode cX9_init 114 = .ok (.if_icmp .ge 16, 3) := by decide +kernel
theorem dX9_init_117 : decode cX9_init 117 = .ok (.aload_n 0, 1) := by decide +kernel
theorem dX9_init_118 : decode cX9_init 118 = .ok (.getfield 13, 3) := by decide +kernel
theorem dX9_init_121 : decode cX9_init 121 = .ok (.iload_n 2, 1) := by decide +kernel
theorem dX9_init_122 : decode cX9_init 122 = .ok (.iconst (-1), 1) := by decide +kernel
theorem dX9_init_123 : decode cX9_init 123 = .ok (.iastore, 1) := by decide +kernel
theorem dX9_init_124 : decode cX9_init 124 = .ok (.iinc 2 1, 3) := by decide +kernel
theorem dX9_init_127 : decode cX9_init 127 = .ok (.goto (-16), 3) := by decide +kernel
theorem dX9_init_130 : decode cX9_init 130 = .ok (.iconst 0, 1) := by decide +kernel
theorem dX9_init_131 : decode cX9_init 131 = .ok (.istore_n 2, 1) := by decide +kernel
theorem dX9_init_132 : decode cX9_init 132 = .ok (.iload_n 2, 1) := by decide +kernel
theorem dX9_init_133 : decode cX9_init 133 = .ok (.aload_n 0, 1) := by decide +kernel
theorem dX9_init_134 : decode cX9_init 134 = .ok (.getfield 28, 3) := by decide +kernel
theorem dX9_init_137 : decode cX9_init 137 = .ok (.arraylength, 1) := by decide +kernel
theorem dX9_init_138 : decode cX9_init 138 = .ok (.if_icmp .ge 22, 3) := by decide +kernel
theorem dX9_init_141 : decode cX9_init 141 = .ok (.aload_n 0, 1) := by decide +kernel
theorem dX9_init_142 : decode cX9_init 142 = .ok (.getfield 28, 3) := by decide +kernel
theorem dX9_init_145 : decode cX9_init 145 = .ok (.iload_n 2, 1) := by decide +kernel
theorem dX9_init_146 : decode cX9_init 146 = .ok (.new 26, 3) := by decide +kernel
theorem dX9_init_149 : decode cX9_init 149 = .ok (.dup, 1) := by decide +kernel
theorem dX9_init_150 : decode cX9_init 150 = .ok (.invokespecial 71, 3) := by decide +kernel
theorem dX9_init_153 : decode cX9_init 153 = .ok (.aastore, 1) := by decide +kernel
theorem dX9_init_154 : decode cX9_init 154 = .ok (.iinc 2 1, 3) := by decide +kernel
theorem dX9_init_157 : decode cX9_init 157 = .ok (.goto (-25), 3) := by decide +kernel
theorem dX9_init_160 : decode cX9_init 160 = .ok (.return_, 1) := by decide +kernel
theorem dX9_enrol_0 : decode cX9_enrol 0 = .ok (.iload_n 1, 1) := by decide +kernel
theorem dX9_enrol_1 : decode cX9_enrol 1 = .ok (.invokestatic 72, 3) := by decide +kernel
theorem dX9_enrol_4 : decode cX9_enrol 4 = .ok (.ifCond .ne 5, 3) := by decide +kernel
theorem dX9_enrol_7 : decode cX9_enrol 7 = .ok (.iconst (-1), 1) := by decide +kernel
theorem dX9_enrol_8 : decode cX9_enrol 8 = .ok (.ireturn, 1) := by decide +kernel
theorem dX9_enrol_9 : decode cX9_enrol 9 = .ok (.aload_n 0, 1) := by decide +kernel
theorem dX9_enrol_10 : decode cX9_enrol 10 = .ok (.iconst 1, 1) := by decide +kernel
theorem dX9_enrol_11 : decode cX9_enrol 11 = .ok (.iconst 0, 1) := by decide +kernel
theorem dX9_enrol_12 : decode cX9_enrol 12 = .ok (.invokevirtual 76, 3) := by decide +kernel
theorem dX9_enrol_15 : decode cX9_enrol 15 = .ok (.ifCond .ne 6, 3) := by decide +kernel
theorem dX9_enrol_18 : decode cX9_enrol 18 = .ok (.bipush (-7), 2) := by decide +kernel
theorem dX9_enrol_20 : decode cX9_enrol 20 = .ok (.ireturn, 1) := by decide +kernel
theorem dX9_enrol_21 : decode cX9_enrol 21 = .ok (.aload_n 0, 1) := by decide +kernel
theorem dX9_enrol_22 : decode cX9_enrol 22 = .ok (.invokevirtual 80, 3) := by decide +kernel
theorem dX9_enrol_25 : decode cX9_enrol 25 = .ok (.istore_n 2, 1) := by decide +kernel
theorem dX9_enrol_26 : decode cX9_enrol 26 = .ok (.aload_n 0, 1) := by decide +kernel
theorem dX9_enrol_27 : decode cX9_enrol 27 = .ok (.getfield 13, 3) := by decide +kernel
theorem dX9_enrol_30 : decode cX9_enrol 30 = .ok (.iload_n 1, 1) := by decide +kernel
theorem dX9_enrol_31 : decode cX9_enrol 31 = .ok (.iload_n 2, 1) := by decide +kernel
theorem dX9_enrol_32 : decode cX9_enrol 32 = .ok (.iastore, 1) := by decide +kernel
theorem dX9_enrol_33 : decode cX9_enrol 33 = .ok (.aload_n 0, 1) := by decide +kernel
theorem dX9_enrol_34 : decode cX9_enrol 34 = .ok (.getfield 19, 3) := by decide +kernel
theorem dX9_enrol_37 : decode cX9_enrol 37 = .ok (.iload_n 1, 1) := by decide +kernel
theorem dX9_enrol_38 : decode cX9_enrol 38 = .ok (.iload_n 2, 1) := by decide +kernel
theorem dX9_enrol_39 : decode cX9_enrol 39 = .ok (.invokevirtual 84, 3) := by decide +kernel
theorem dX9_enrol_42 : decode cX9_enrol 42 = .ok (.iload_n 2, 1) := by decide +kernel
theorem dX9_enrol_43 : decode cX9_enrol 43 = .ok (.ireturn, 1) := by decide +kernel
theorem dX9_remove_0 : decode cX9_remove 0 = .ok (.aload_n 0, 1) := by decide +kernel
theorem dX9_remove_1 : decode cX9_remove 1 = .ok (.getfield 19, 3) := by decide +kernel
theorem dX9_remove_4 : decode cX9_remove 4 = .ok (.iload_n 1, 1) := by decide +kernel
theorem dX9_remove_5 : decode cX9_remove 5 = .ok (.invokevirtual 88, 3) := by decide +kernel
theorem dX9_remove_8 : decode cX9_remove 8 = .ok (.ifCond .ne 5, 3) := by decide +kernel
theorem dX9_remove_11 : decode cX9_remove 11 = .ok (.iconst 0, 1) := by decide +kernel
theorem dX9_remove_12 : decode cX9_remove 12 = .ok (.ireturn, 1) := by decide +kernel
theorem dX9_remove_13 : decode cX9_remove 13 = .ok (.aload_n 0, 1) := by decide +kernel
theorem dX9_remove_14 : decode cX9_remove 14 = .ok (.getfield 19, 3) := by decide +kernel
theorem dX9_remove_17 : decode cX9_remove 17 = .ok (.iload_n 1, 1) := by decide +kernel
theorem dX9_remove_18 : decode cX9_remove 18 = .ok (.invokevirtual 91, 3) := by decide +kernel
theorem dX9_remove_21 : decode cX9_remove 21 = .ok (.iconst 1, 1) := by decide +kernel
theorem dX9_remove_22 : decode cX9_remove 22 = .ok (.ireturn, 1) := by decide +kernel
theorem dX9_limit_0 : decode cX9_limit 0 = .ok (.aload_n 0, 1) := by decide +kernel
theorem dX9_limit_1 : decode cX9_limit 1 = .ok (.getfield 19, 3) := by decide +kernel
theorem dX9_limit_4 : decode cX9_limit 4 = .ok (.iload_n 1, 1) := by decide +kernel
theorem dX9_limit_5 : decode cX9_limit 5 = .ok (.invokevirtual 88, 3) := by decide +kernel
theorem dX9_limit_8 : decode cX9_limit 8 = .ok (.ifCond .eq 15, 3) := by decide +kernel
theorem dX9_limit_11 : decode cX9_limit 11 = .ok (.iload_n 2, 1) := by decide +kernel
theorem dX9_limit_12 : decode cX9_limit 12 = .ok (.iconst 1, 1) := by decide +kernel
theorem dX9_limit_13 : decode cX9_limit 13 = .ok (.if_icmp .lt 10, 3) := by decide +kernel
theorem dX9_limit_16 : decode cX9_limit 16 = .ok (.iload_n 2, 1) := by decide +kernel
theorem dX9_limit_17 : decode cX9_limit 17 = .ok (.sipush 1000, 3) := by decide +kernel
theorem dX9_limit_20 : decode cX9_limit 20 = .ok (.if_icmp .le 5, 3) := by decide +kernel
theorem dX9_limit_23 : decode cX9_limit 23 = .ok (.iconst 0, 1) := by decide +kernel
theorem dX9_limit_24 : decode cX9_limit 24 = .ok (.ireturn, 1) := by decide +kernel
theorem dX9_limit_25 : decode cX9_limit 25 = .ok (.aload_n 0, 1) := by decide +kernel
theorem dX9_limit_26 : decode cX9_limit 26 = .ok (.getfield 19, 3) := by decide +kernel
theorem dX9_limit_29 : decode cX9_limit 29 = .ok (.getfield 95, 3) := by decide +kernel
theorem dX9_limit_32 : decode cX9_limit 32 = .ok (.iload_n 1, 1) := by decide +kernel
theorem dX9_limit_33 : decode cX9_limit 33 = .ok (.iload_n 2, 1) := by decide +kernel
theorem dX9_limit_34 : decode cX9_limit 34 = .ok (.iastore, 1) := by decide +kernel
theorem dX9_limit_35 : decode cX9_limit 35 = .ok (.iconst 1, 1) := by decide +kernel
theorem dX9_limit_36 : decode cX9_limit 36 = .ok (.ireturn, 1) := by decide +kernel
theorem dX9_allow_0 : decode cX9_allow 0 = .ok (.aload_n 0, 1) := by decide +kernel
theorem dX9_allow_1 : decode cX9_allow 1 = .ok (.getfield 19, 3) := by decide +kernel
theorem dX9_allow_4 : decode cX9_allow 4 = .ok (.iload_n 1, 1) := by decide +kernel
theorem dX9_allow_5 : decode cX9_allow 5 = .ok (.invokevirtual 88, 3) := by decide +kernel
theorem dX9_allow_8 : decode cX9_allow 8 = .ok (.ifCond .eq 19, 3) := by decide +kernel
theorem dX9_allow_11 : decode cX9_allow 11 = .ok (.iload_n 2, 1) := by decide +kernel
theorem dX9_allow_12 : decode cX9_allow 12 = .ok (.invokestatic 98, 3) := by decide +kernel
theorem dX9_allow_15 : decode cX9_allow 15 = .ok (.ifCond .eq 12, 3) := by decide +kernel
theorem dX9_allow_18 : decode cX9_allow 18 = .ok (.iload_n 3, 1) := by decide +kernel
theorem dX9_allow_19 : decode cX9_allow 19 = .ok (.ifCond .lt 8, 3) := by decide +kernel
theorem dX9_allow_22 : decode cX9_allow 22 = .ok (.iload_n 3, 1) := by decide +kernel
theorem dX9_allow_23 : decode cX9_allow 23 = .ok (.iconst 3, 1) := by decide +kernel
theorem dX9_allow_24 : decode cX9_allow 24 = .ok (.if_icmp .le 5, 3) := by decide +kernel
theorem dX9_allow_27 : decode cX9_allow 27 = .ok (.iconst 0, 1) := by decide +kernel
theorem dX9_allow_28 : decode cX9_allow 28 = .ok (.ireturn, 1) := by decide +kernel
theorem dX9_allow_29 : decode cX9_allow 29 = .ok (.aload_n 0, 1) := by decide +kernel
theorem dX9_allow_30 : decode cX9_allow 30 = .ok (.getfield 19, 3) := by decide +kernel
theorem dX9_allow_33 : decode cX9_allow 33 = .ok (.getfield 101, 3) := by decide +kernel
theorem dX9_allow_36 : decode cX9_allow 36 = .ok (.iload_n 1, 1) := by decide +kernel
theorem dX9_allow_37 : decode cX9_allow 37 = .ok (.aaload, 1) := by decide +kernel
theorem dX9_allow_38 : decode cX9_allow 38 = .ok (.iload_n 2, 1) := by decide +kernel
theorem dX9_allow_39 : decode cX9_allow 39 = .ok (.iload_n 3, 1) := by decide +kernel
theorem dX9_allow_40 : decode cX9_allow 40 = .ok (.iastore, 1) := by decide +kernel
theorem dX9_allow_41 : decode cX9_allow 41 = .ok (.iconst 1, 1) := by decide +kernel
theorem dX9_allow_42 : decode cX9_allow 42 = .ok (.ireturn, 1) := by decide +kernel
theorem dX9_save_0 : decode cX9_save 0 = .ok (.aload_n 0, 1) := by decide +kernel
theorem dX9_save_1 : decode cX9_save 1 = .ok (.getfield 23, 3) := by decide +kernel
theorem dX9_save_4 : decode cX9_save 4 = .ok (.aload_n 0, 1) := by decide +kernel
theorem dX9_save_5 : decode cX9_save 5 = .ok (.getfield 19, 3) := by decide +kernel
theorem dX9_save_8 : decode cX9_save 8 = .ok (.invokevirtual 105, 3) := by decide +kernel
theorem dX9_save_11 : decode cX9_save 11 = .ok (.aload_n 0, 1) := by decide +kernel
theorem dX9_save_12 : decode cX9_save 12 = .ok (.getfield 23, 3) := by decide +kernel
theorem dX9_save_15 : decode cX9_save 15 = .ok (.invokevirtual 109, 3) := by decide +kernel
theorem dX9_save_18 : decode cX9_save 18 = .ok (.ireturn, 1) := by decide +kernel
theorem dX9_crash_0 : decode cX9_crash 0 = .ok (.aload_n 0, 1) := by decide +kernel
theorem dX9_crash_1 : decode cX9_crash 1 = .ok (.getfield 19, 3) := by decide +kernel
theorem dX9_crash_4 : decode cX9_crash 4 = .ok (.aload_n 0, 1) := by decide +kernel
theorem dX9_crash_5 : decode cX9_crash 5 = .ok (.getfield 23, 3) := by decide +kernel
theorem dX9_crash_8 : decode cX9_crash 8 = .ok (.invokevirtual 105, 3) := by decide +kernel
theorem dX9_crash_11 : decode cX9_crash 11 = .ok (.aload_n 0, 1) := by decide +kernel
theorem dX9_crash_12 : decode cX9_crash 12 = .ok (.getfield 19, 3) := by decide +kernel
theorem dX9_crash_15 : decode cX9_crash 15 = .ok (.invokevirtual 109, 3) := by decide +kernel
theorem dX9_crash_18 : decode cX9_crash 18 = .ok (.ireturn, 1) := by decide +kernel
theorem dX9_tick_0 : decode cX9_tick 0 = .ok (.iload_n 1, 1) := by decide +kernel
theorem dX9_tick_1 : decode cX9_tick 1 = .ok (.invokestatic 72, 3) := by decide +kernel
theorem dX9_tick_4 : decode cX9_tick 4 = .ok (.ifCond .eq 15, 3) := by decide +kernel
theorem dX9_tick_7 : decode cX9_tick 7 = .ok (.iload_n 2, 1) := by decide +kernel
theorem dX9_tick_8 : decode cX9_tick 8 = .ok (.iconst 1, 1) := by decide +kernel
theorem dX9_tick_9 : decode cX9_tick 9 = .ok (.if_icmp .lt 10, 3) := by decide +kernel
theorem dX9_tick_12 : decode cX9_tick 12 = .ok (.iload_n 2, 1) := by decide +kernel
theorem dX9_tick_13 : decode cX9_tick 13 = .ok (.sipush 1000, 3) := by decide +kernel
theorem dX9_tick_16 : decode cX9_tick 16 = .ok (.if_icmp .le 5, 3) := by decide +kernel
theorem dX9_tick_19 : decode cX9_tick 19 = .ok (.iconst (-1), 1) := by decide +kernel
theorem dX9_tick_20 : decode cX9_tick 20 = .ok (.ireturn, 1) := by decide +kernel
theorem dX9_tick_21 : decode cX9_tick 21 = .ok (.aload_n 0, 1) := by decide +kernel
theorem dX9_tick_22 : decode cX9_tick 22 = .ok (.getfield 9, 3) := by decide +kernel
theorem dX9_tick_25 : decode cX9_tick 25 = .ok (.iload_n 1, 1) := by decide +kernel
theorem dX9_tick_26 : decode cX9_tick 26 = .ok (.dup2, 1) := by decide +kernel
theorem dX9_tick_27 : decode cX9_tick 27 = .ok (.iaload, 1) := by decide +kernel
theorem dX9_tick_28 : decode cX9_tick 28 = .ok (.iload_n 2, 1) := by decide +kernel
theorem dX9_tick_29 : decode cX9_tick 29 = .ok (.iadd, 1) := by decide +kernel
theorem dX9_tick_30 : decode cX9_tick 30 = .ok (.iastore, 1) := by decide +kernel
theorem dX9_tick_31 : decode cX9_tick 31 = .ok (.aload_n 0, 1) := by decide +kernel
theorem dX9_tick_32 : decode cX9_tick 32 = .ok (.getfield 9, 3) := by decide +kernel
theorem dX9_tick_35 : decode cX9_tick 35 = .ok (.iload_n 1, 1) := by decide +kernel
theorem dX9_tick_36 : decode cX9_tick 36 = .ok (.iaload, 1) := by decide +kernel
theorem dX9_tick_37 : decode cX9_tick 37 = .ok (.ireturn, 1) := by decide +kernel
theorem dX9_login_0 : decode cX9_login 0 = .ok (.aload_n 0, 1) := by decide +kernel
theorem dX9_login_1 : decode cX9_login 1 = .ok (.iload_n 1, 1) := by decide +kernel
theorem dX9_login_2 : decode cX9_login 2 = .ok (.invokevirtual 112, 3) := by decide +kernel
theorem dX9_login_5 : decode cX9_login 5 = .ok (.astore_n 3, 1) := by decide +kernel
theorem dX9_login_6 : decode cX9_login 6 = .ok (.aload_n 3, 1) := by decide +kernel
theorem dX9_login_7 : decode cX9_login 7 = .ok (.ifnull 20, 3) := by decide +kernel
theorem dX9_login_10 : decode cX9_login 10 = .ok (.aload_n 0, 1) := by decide +kernel
theorem dX9_login_11 : decode cX9_login 11 = .ok (.getfield 13, 3) := by decide +kernel
theorem dX9_login_14 : decode cX9_login 14 = .ok (.iload_n 1, 1) := by decide +kernel
theorem dX9_login_15 : decode cX9_login 15 = .ok (.iaload, 1) := by decide +kernel
theorem dX9_login_16 : decode cX9_login 16 = .ok (.iconst (-1), 1) := by decide +kernel
theorem dX9_login_17 : decode cX9_login 17 = .ok (.if_icmp .eq 10, 3) := by decide +kernel
theorem dX9_login_20 : decode cX9_login 20 = .ok (.iload_n 2, 1) := by decide +kernel
theorem dX9_login_21 : decode cX9_login 21 = .ok (.invokestatic 116, 3) := by decide +kernel
theorem dX9_login_24 : decode cX9_login 24 = .ok (.ifCond .ne 5, 3) := by decide +kernel
theorem dX9_login_27 : decode cX9_login 27 = .ok (.iconst (-1), 1) := by decide +kernel
theorem dX9_login_28 : decode cX9_login 28 = .ok (.ireturn, 1) := by decide +kernel
theorem dX9_login_29 : decode cX9_login 29 = .ok (.aload_n 0, 1) := by decide +kernel
theorem dX9_login_30 : decode cX9_login 30 = .ok (.iconst 0, 1) := by decide +kernel
theorem dX9_login_31 : decode cX9_login 31 = .ok (.iconst 1, 1) := by decide +kernel
theorem dX9_login_32 : decode cX9_login 32 = .ok (.invokevirtual 76, 3) := by decide +kernel
theorem dX9_login_35 : decode cX9_login 35 = .ok (.ifCond .ne 6, 3) := by decide +kernel
theorem dX9_login_38 : decode cX9_login 38 = .ok (.bipush (-7), 2) := by decide +kernel
theorem dX9_login_40 : decode cX9_login 40 = .ok (.ireturn, 1) := by decide +kernel
theorem dX9_login_41 : decode cX9_login 41 = .ok (.aload_n 3, 1) := by decide +kernel
theorem dX9_login_42 : decode cX9_login 42 = .ok (.aload_n 0, 1) := by decide +kernel
theorem dX9_login_43 : decode cX9_login 43 = .ok (.invokevirtual 119, 3) := by decide +kernel
theorem dX9_login_46 : decode cX9_login 46 = .ok (.iload_n 2, 1) := by decide +kernel
theorem dX9_login_47 : decode cX9_login 47 = .ok (.aload_n 0, 1) := by decide +kernel
theorem dX9_login_48 : decode cX9_login 48 = .ok (.getfield 13, 3) := by decide +kernel
theorem dX9_login_51 : decode cX9_login 51 = .ok (.iload_n 1, 1) := by decide +kernel
theorem dX9_login_52 : decode cX9_login 52 = .ok (.iaload, 1) := by decide +kernel
theorem dX9_login_53 : decode cX9_login 53 = .ok (.invokevirtual 122, 3) := by decide +kernel
theorem dX9_login_56 : decode cX9_login 56 = .ok (.aload_n 0, 1) := by decide +kernel
theorem dX9_login_57 : decode cX9_login 57 = .ok (.new 126, 3) := by decide +kernel
theorem dX9_login_60 : decode cX9_login 60 = .ok (.dup, 1) := by decide +kernel
theorem dX9_login_61 : decode cX9_login 61 = .ok (.aload_n 0, 1) := by decide +kernel
theorem dX9_login_62 : decode cX9_login 62 = .ok (.getfield 13, 3) := by decide +kernel
theorem dX9_login_65 : decode cX9_login 65 = .ok (.iload_n 1, 1) := by decide +kernel
theorem dX9_login_66 : decode cX9_login 66 = .ok (.iaload, 1) := by decide +kernel
theorem dX9_login_67 : decode cX9_login 67 = .ok (.iload_n 1, 1) := by decide +kernel
theorem dX9_login_68 : decode cX9_login 68 = .ok (.aload_n 0, 1) := by decide +kernel
theorem dX9_login_69 : decode cX9_login 69 = .ok (.getfield 9, 3) := by decide +kernel
theorem dX9_login_72 : decode cX9_login 72 = .ok (.iload_n 1, 1) := by decide +kernel
theorem dX9_login_73 : decode cX9_login 73 = .ok (.iaload, 1) := by decide +kernel
theorem dX9_login_74 : decode cX9_login 74 = .ok (.invokespecial 128, 3) := by decide +kernel
theorem dX9_login_77 : decode cX9_login 77 = .ok (.invokevirtual 130, 3) := by decide +kernel
theorem dX9_login_80 : decode cX9_login 80 = .ok (.ireturn, 1) := by decide +kernel
theorem dX9_ask_0 : decode cX9_ask 0 = .ok (.aload_n 0, 1) := by decide +kernel
theorem dX9_ask_1 : decode cX9_ask 1 = .ok (.iload_n 1, 1) := by decide +kernel
theorem dX9_ask_2 : decode cX9_ask 2 = .ok (.invokevirtual 112, 3) := by decide +kernel
theorem dX9_ask_5 : decode cX9_ask 5 = .ok (.astore_n 3, 1) := by decide +kernel
theorem dX9_ask_6 : decode cX9_ask 6 = .ok (.aload_n 3, 1) := by decide +kernel
theorem dX9_ask_7 : decode cX9_ask 7 = .ok (.ifnull 18, 3) := by decide +kernel
theorem dX9_ask_10 : decode cX9_ask 10 = .ok (.aload_n 3, 1) := by decide +kernel
theorem dX9_ask_11 : decode cX9_ask 11 = .ok (.iconst 0, 1) := by decide +kernel
theorem dX9_ask_12 : decode cX9_ask 12 = .ok (.invokevirtual 134, 3) := by decide +kernel
theorem dX9_ask_15 : decode cX9_ask 15 = .ok (.ifCond .eq 10, 3) := by decide +kernel
theorem dX9_ask_18 : decode cX9_ask 18 = .ok (.iload_n 2, 1) := by decide +kernel
theorem dX9_ask_19 : decode cX9_ask 19 = .ok (.invokestatic 116, 3) := by decide +kernel
theorem dX9_ask_22 : decode cX9_ask 22 = .ok (.ifCond .ne 5, 3) := by decide +kernel
theorem dX9_ask_25 : decode cX9_ask 25 = .ok (.iconst (-1), 1) := by decide +kernel
theorem dX9_ask_26 : decode cX9_ask 26 = .ok (.ireturn, 1) := by decide +kernel
theorem dX9_ask_27 : decode cX9_ask 27 = .ok (.aload_n 0, 1) := by decide +kernel
theorem dX9_ask_28 : decode cX9_ask 28 = .ok (.iconst 0, 1) := by decide +kernel
theorem dX9_ask_29 : decode cX9_ask 29 = .ok (.iconst 1, 1) := by decide +kernel
theorem dX9_ask_30 : decode cX9_ask 30 = .ok (.invokevirtual 76, 3) := by decide +kernel
theorem dX9_ask_33 : decode cX9_ask 33 = .ok (.ifCond .ne 6, 3) := by decide +kernel
theorem dX9_ask_36 : decode cX9_ask 36 = .ok (.bipush (-7), 2) := by decide +kernel
theorem dX9_ask_38 : decode cX9_ask 38 = .ok (.ireturn, 1) := by decide +kernel
theorem dX9_ask_39 : decode cX9_ask 39 = .ok (.aload_n 3, 1) := by decide +kernel
theorem dX9_ask_40 : decode cX9_ask 40 = .ok (.getfield 137, 3) := by decide +kernel
theorem dX9_ask_43 : decode cX9_ask 43 = .ok (.iconst 0, 1) := by decide +kernel
theorem dX9_ask_44 : decode cX9_ask 44 = .ok (.iaload, 1) := by decide +kernel
theorem dX9_ask_45 : decode cX9_ask 45 = .ok (.istore 4, 2) := by decide +kernel
theorem dX9_ask_47 : decode cX9_ask 47 = .ok (.aload_n 3, 1) := by decide +kernel
theorem dX9_ask_48 : decode cX9_ask 48 = .ok (.aload_n 0, 1) := by decide +kernel
theorem dX9_ask_49 : decode cX9_ask 49 = .ok (.invokevirtual 119, 3) := by decide +kernel
theorem dX9_ask_52 : decode cX9_ask 52 = .ok (.iload_n 2, 1) := by decide +kernel
theorem dX9_ask_53 : decode cX9_ask 53 = .ok (.iload 4, 2) := by decide +kernel
theorem dX9_ask_55 : decode cX9_ask 55 = .ok (.invokevirtual 122, 3) := by decide +kernel
theorem dX9_ask_58 : decode cX9_ask 58 = .ok (.aload_n 0, 1) := by decide +kernel
theorem dX9_ask_59 : decode cX9_ask 59 = .ok (.new 140, 3) := by decide +kernel
theorem dX9_ask_62 : decode cX9_ask 62 = .ok (.dup, 1) := by decide +kernel
theorem dX9_ask_63 : decode cX9_ask 63 = .ok (.iload 4, 2) := by decide +kernel
theorem dX9_ask_65 : decode cX9_ask 65 = .ok (.iload_n 1, 1) := by decide +kernel
theorem dX9_ask_66 : decode cX9_ask 66 = .ok (.aload_n 0, 1) := by decide +kernel
theorem dX9_ask_67 : decode cX9_ask 67 = .ok (.getfield 9, 3) := by decide +kernel
theorem dX9_ask_70 : decode cX9_ask 70 = .ok (.iload_n 1, 1) := by decide +kernel
theorem dX9_ask_71 : decode cX9_ask 71 = .ok (.iaload, 1) := by decide +kernel
theorem dX9_ask_72 : decode cX9_ask 72 = .ok (.aload_n 3, 1) := by decide +kernel
theorem dX9_ask_73 : decode cX9_ask 73 = .ok (.invokevirtual 142, 3) := by decide +kernel
theorem dX9_ask_76 : decode cX9_ask 76 = .ok (.new 145, 3) := by decide +kernel
theorem dX9_ask_79 : decode cX9_ask 79 = .ok (.dup, 1) := by decide +kernel
theorem dX9_ask_80 : decode cX9_ask 80 = .ok (.iconst 0, 1) := by decide +kernel
theorem dX9_ask_81 : decode cX9_ask 81 = .ok (.iconst 0, 1) := by decide +kernel
theorem dX9_ask_82 : decode cX9_ask 82 = .ok (.iconst 0, 1) := by decide +kernel
theorem dX9_ask_83 : decode cX9_ask 83 = .ok (.invokespecial 147, 3) := by decide +kernel
theorem dX9_ask_86 : decode cX9_ask 86 = .ok (.invokespecial 148, 3) := by decide +kernel
theorem dX9_ask_89 : decode cX9_ask 89 = .ok (.invokevirtual 130, 3) := by decide +kernel
theorem dX9_ask_92 : decode cX9_ask 92 = .ok (.ireturn, 1) := by decide +kernel
theorem dX9_receive_0 : decode cX9_receive 0 = .ok (.aload_n 0, 1) := by decide +kernel
theorem dX9_receive_1 : decode cX9_receive 1 = .ok (.iload_n 1, 1) := by decide +kernel
theorem dX9_receive_2 : decode cX9_receive 2 = .ok (.invokevirtual 112, 3) := by decide +kernel
theorem dX9_receive_5 : decode cX9_receive 5 = .ok (.astore 4, 2) := by decide +kernel
theorem dX9_receive_7 : decode cX9_receive 7 = .ok (.aload 4, 2) := by decide +kernel
theorem dX9_receive_9 : decode cX9_receive 9 = .ok (.ifnull 19, 3) := by decide +kernel
theorem dX9_receive_12 : decode cX9_receive 12 = .ok (.aload 4, 2) := by decide +kernel
theorem dX9_receive_14 : decode cX9_receive 14 = .ok (.invokevirtual 151, 3) := by decide +kernel
theorem dX9_receive_17 : decode cX9_receive 17 = .ok (.ifCond .eq 11, 3) := by decide +kernel
theorem dX9_receive_20 : decode cX9_receive 20 = .ok (.aload_n 0, 1) := by decide +kernel
theorem dX9_receive_21 : decode cX9_receive 21 = .ok (.iload_n 3, 1) := by decide +kernel
theorem dX9_receive_22 : decode cX9_receive 22 = .ok (.invokevirtual 155, 3) := by decide +kernel
theorem dX9_receive_25 : decode cX9_receive 25 = .ok (.ifnonnull 5, 3) := by decide +kernel
theorem dX9_receive_28 : decode cX9_receive 28 = .ok (.iconst 0, 1) := by decide +kernel
theorem dX9_receive_29 : decode cX9_receive 29 = .ok (.ireturn, 1) := by decide +kernel
theorem dX9_receive_30 : decode cX9_receive 30 = .ok (.aload_n 0, 1) := by decide +kernel
theorem dX9_receive_31 : decode cX9_receive 31 = .ok (.iload_n 2, 1) := by decide +kernel
theorem dX9_receive_32 : decode cX9_receive 32 = .ok (.aload 4, 2) := by decide +kernel
theorem dX9_receive_34 : decode cX9_receive 34 = .ok (.getfield 159, 3) := by decide +kernel
theorem dX9_receive_37 : decode cX9_receive 37 = .ok (.invokevirtual 162, 3) := by decide +kernel
theorem dX9_receive_40 : decode cX9_receive 40 = .ok (.astore 5, 2) := by decide +kernel
theorem dX9_receive_42 : decode cX9_receive 42 = .ok (.aload 5, 2) := by decide +kernel
theorem dX9_receive_44 : decode cX9_receive 44 = .ok (.ifnull 29, 3) := by decide +kernel
theorem dX9_receive_47 : decode cX9_receive 47 = .ok (.aload 5, 2) := by decide +kernel
theorem dX9_receive_49 : decode cX9_receive 49 = .ok (.getfield 166, 3) := by decide +kernel
theorem dX9_receive_52 : decode cX9_receive 52 = .ok (.aload 4, 2) := by decide +kernel
theorem dX9_receive_54 : decode cX9_receive 54 = .ok (.getfield 171, 3) := by decide +kernel
theorem dX9_receive_57 : decode cX9_receive 57 = .ok (.if_icmp .ne 16, 3) := by decide +kernel
theorem dX9_receive_60 : decode cX9_receive 60 = .ok (.aload 5, 2) := by decide +kernel
theorem dX9_receive_62 : decode cX9_receive 62 = .ok (.getfield 174, 3) := by decide +kernel
theorem dX9_receive_65 : decode cX9_receive 65 = .ok (.aload 4, 2) := by decide +kernel
theorem dX9_receive_67 : decode cX9_receive 67 = .ok (.getfield 177, 3) := by decide +kernel
theorem dX9_receive_70 : decode cX9_receive 70 = .ok (.if_icmp .eq 5, 3) := by decide +kernel
theorem dX9_receive_73 : decode cX9_receive 73 = .ok (.iconst 0, 1) := by decide +kernel
theorem dX9_receive_74 : decode cX9_receive 74 = .ok (.ireturn, 1) := by decide +kernel
theorem dX9_receive_75 : decode cX9_receive 75 = .ok (.aload 4, 2) := by decide +kernel
theorem dX9_receive_77 : decode cX9_receive 77 = .ok (.iload_n 3, 1) := by decide +kernel
theorem dX9_receive_78 : decode cX9_receive 78 = .ok (.aload 5, 2) := by decide +kernel
theorem dX9_receive_80 : decode cX9_receive 80 = .ok (.getfield 180, 3) := by decide +kernel
theorem dX9_receive_83 : decode cX9_receive 83 = .ok (.invokevirtual 183, 3) := by decide +kernel
theorem dX9_receive_86 : decode cX9_receive 86 = .ok (.iconst 1, 1) := by decide +kernel
theorem dX9_receive_87 : decode cX9_receive 87 = .ok (.ireturn, 1) := by decide +kernel
theorem dX9_order_0 : decode cX9_order 0 = .ok (.aload_n 0, 1) := by decide +kernel
theorem dX9_order_1 : decode cX9_order 1 = .ok (.iload_n 1, 1) := by decide +kernel
theorem dX9_order_2 : decode cX9_order 2 = .ok (.invokevirtual 112, 3) := by decide +kernel
theorem dX9_order_5 : decode cX9_order 5 = .ok (.astore 5, 2) := by decide +kernel
theorem dX9_order_7 : decode cX9_order 7 = .ok (.aload 5, 2) := by decide +kernel
theorem dX9_order_9 : decode cX9_order 9 = .ok (.ifnull 12, 3) := by decide +kernel
theorem dX9_order_12 : decode cX9_order 12 = .ok (.aload 5, 2) := by decide +kernel
theorem dX9_order_14 : decode cX9_order 14 = .ok (.iconst 1, 1) := by decide +kernel
theorem dX9_order_15 : decode cX9_order 15 = .ok (.invokevirtual 134, 3) := by decide +kernel
theorem dX9_order_18 : decode cX9_order 18 = .ok (.ifCond .ne 5, 3) := by decide +kernel
theorem dX9_order_21 : decode cX9_order 21 = .ok (.iconst (-1), 1) := by decide +kernel
theorem dX9_order_22 : decode cX9_order 22 = .ok (.ireturn, 1) := by decide +kernel
theorem dX9_order_23 : decode cX9_order 23 = .ok (.iload_n 2, 1) := by decide +kernel
theorem dX9_order_24 : decode cX9_order 24 = .ok (.iconst 1, 1) := by decide +kernel
theorem dX9_order_25 : decode cX9_order 25 = .ok (.if_icmp .lt 15, 3) := by decide +kernel
theorem dX9_order_28 : decode cX9_order 28 = .ok (.iload_n 2, 1) := by decide +kernel
theorem dX9_order_29 : decode cX9_order 29 = .ok (.iconst 3, 1) := by decide +kernel
theorem dX9_order_30 : decode cX9_order 30 = .ok (.if_icmp .gt 10, 3) := by decide +kernel
theorem dX9_order_33 : decode cX9_order 33 = .ok (.iload_n 3, 1) := by decide +kernel
theorem dX9_order_34 : decode cX9_order 34 = .ok (.invokestatic 98, 3) := by decide +kernel
theorem dX9_order_37 : decode cX9_order 37 = .ok (.ifCond .ne 5, 3) := by decide +kernel
theorem dX9_order_40 : decode cX9_order 40 = .ok (.iconst (-1), 1) := by decide +kernel
theorem dX9_order_41 : decode cX9_order 41 = .ok (.ireturn, 1) := by decide +kernel
theorem dX9_order_42 : decode cX9_order 42 = .ok (.aload_n 0, 1) := by decide +kernel
theorem dX9_order_43 : decode cX9_order 43 = .ok (.iconst 0, 1) := by decide +kernel
theorem dX9_order_44 : decode cX9_order 44 = .ok (.iconst 1, 1) := by decide +kernel
theorem dX9_order_45 : decode cX9_order 45 = .ok (.invokevirtual 76, 3) := by decide +kernel
theorem dX9_order_48 : decode cX9_order 48 = .ok (.ifCond .ne 6, 3) := by decide +kernel
theorem dX9_order_51 : decode cX9_order 51 = .ok (.bipush (-7), 2) := by decide +kernel
theorem dX9_order_53 : decode cX9_order 53 = .ok (.ireturn, 1) := by decide +kernel
theorem dX9_order_54 : decode cX9_order 54 = .ok (.aload 5, 2) := by decide +kernel
theorem dX9_order_56 : decode cX9_order 56 = .ok (.getfield 137, 3) := by decide +kernel
theorem dX9_order_59 : decode cX9_order 59 = .ok (.iconst 1, 1) := by decide +kernel
theorem dX9_order_60 : decode cX9_order 60 = .ok (.iaload, 1) := by decide +kernel
theorem dX9_order_61 : decode cX9_order 61 = .ok (.istore 6, 2) := by decide +kernel
theorem dX9_order_63 : decode cX9_order 63 = .ok (.aload_n 0, 1) := by decide +kernel
theorem dX9_order_64 : decode cX9_order 64 = .ok (.new 140, 3) := by decide +kernel
theorem dX9_order_67 : decode cX9_order 67 = .ok (.dup, 1) := by decide +kernel
theorem dX9_order_68 : decode cX9_order 68 = .ok (.iload 6, 2) := by decide +kernel
theorem dX9_order_70 : decode cX9_order 70 = .ok (.iload_n 1, 1) := by decide +kernel
theorem dX9_order_71 : decode cX9_order 71 = .ok (.aload_n 0, 1) := by decide +kernel
theorem dX9_order_72 : decode cX9_order 72 = .ok (.getfield 9, 3) := by decide +kernel
theorem dX9_order_75 : decode cX9_order 75 = .ok (.iload_n 1, 1) := by decide +kernel
theorem dX9_order_76 : decode cX9_order 76 = .ok (.iaload, 1) := by decide +kernel
theorem dX9_order_77 : decode cX9_order 77 = .ok (.aload 5, 2) := by decide +kernel
theorem dX9_order_79 : decode cX9_order 79 = .ok (.invokevirtual 142, 3) := by decide +kernel
theorem dX9_order_82 : decode cX9_order 82 = .ok (.new 145, 3) := by decide +kernel
theorem dX9_order_85 : decode cX9_order 85 = .ok (.dup, 1) := by decide +kernel
theorem dX9_order_86 : decode cX9_order 86 = .ok (.iload_n 2, 1) := by decide +kernel
theorem dX9_order_87 : decode cX9_order 87 = .ok (.iload_n 3, 1) := by decide +kernel
theorem dX9_order_88 : decode cX9_order 88 = .ok (.iload 4, 2) := by decide +kernel
theorem dX9_order_90 : decode cX9_order 90 = .ok (.invokespecial 147, 3) := by decide +kernel
theorem dX9_order_93 : decode cX9_order 93 = .ok (.invokespecial 148, 3) := by decide +kernel
theorem dX9_order_96 : decode cX9_order 96 = .ok (.invokevirtual 130, 3) := by decide +kernel
theorem dX9_order_99 : decode cX9_order 99 = .ok (.ireturn, 1) := by decide +kernel
theorem dX9_issue_0 : decode cX9_issue 0 = .ok (.aload_n 0, 1) := by decide +kernel
theorem dX9_issue_1 : decode cX9_issue 1 = .ok (.iload_n 1, 1) := by decide +kernel
theorem dX9_issue_2 : decode cX9_issue 2 = .ok (.invokevirtual 186, 3) := by decide +kernel
theorem dX9_issue_5 : decode cX9_issue 5 = .ok (.ifCond .eq 17, 3) := by decide +kernel
theorem dX9_issue_8 : decode cX9_issue 8 = .ok (.aload_n 0, 1) := by decide +kernel
theorem dX9_issue_9 : decode cX9_issue 9 = .ok (.iload_n 2, 1) := by decide +kernel
theorem dX9_issue_10 : decode cX9_issue 10 = .ok (.invokevirtual 189, 3) := by decide +kernel
theorem dX9_issue_13 : decode cX9_issue 13 = .ok (.ifCond .eq 9, 3) := by decide +kernel
theorem dX9_issue_16 : decode cX9_issue 16 = .ok (.iload 5, 2) := by decide +kernel
theorem dX9_issue_18 : decode cX9_issue 18 = .ok (.iconst 1, 1) := by decide +kernel
theorem dX9_issue_19 : decode cX9_issue 19 = .ok (.if_icmp .ge 5, 3) := by decide +kernel
theorem dX9_issue_22 : decode cX9_issue 22 = .ok (.iconst (-1), 1) := by decide +kernel
theorem dX9_issue_23 : decode cX9_issue 23 = .ok (.ireturn, 1) := by decide +kernel
theorem dX9_issue_24 : decode cX9_issue 24 = .ok (.aload_n 0, 1) := by decide +kernel
theorem dX9_issue_25 : decode cX9_issue 25 = .ok (.iload 4, 2) := by decide +kernel
theorem dX9_issue_27 : decode cX9_issue 27 = .ok (.aload_n 0, 1) := by decide +kernel
theorem dX9_issue_28 : decode cX9_issue 28 = .ok (.getfield 19, 3) := by decide +kernel
theorem dX9_issue_31 : decode cX9_issue 31 = .ok (.getfield 192, 3) := by decide +kernel
theorem dX9_issue_34 : decode cX9_issue 34 = .ok (.iload_n 1, 1) := by decide +kernel
theorem dX9_issue_35 : decode cX9_issue 35 = .ok (.iaload, 1) := by decide +kernel
theorem dX9_issue_36 : decode cX9_issue 36 = .ok (.invokevirtual 195, 3) := by decide +kernel
theorem dX9_issue_39 : decode cX9_issue 39 = .ok (.astore 6, 2) := by decide +kernel
theorem dX9_issue_41 : decode cX9_issue 41 = .ok (.aload 6, 2) := by decide +kernel
theorem dX9_issue_43 : decode cX9_issue 43 = .ok (.ifnonnull 6, 3) := by decide +kernel
theorem dX9_issue_46 : decode cX9_issue 46 = .ok (.bipush (-2), 2) := by decide +kernel
theorem dX9_issue_48 : decode cX9_issue 48 = .ok (.ireturn, 1) := by decide +kernel
theorem dX9_issue_49 : decode cX9_issue 49 = .ok (.aload 6, 2) := by decide +kernel
theorem dX9_issue_51 : decode cX9_issue 51 = .ok (.getfield 199, 3) := by decide +kernel
theorem dX9_issue_54 : decode cX9_issue 54 = .ok (.iload_n 1, 1) := by decide +kernel
theorem dX9_issue_55 : decode cX9_issue 55 = .ok (.if_icmp .eq 6, 3) := by decide +kernel
theorem dX9_issue_58 : decode cX9_issue 58 = .ok (.bipush (-3), 2) := by decide +kernel
theorem dX9_issue_60 : decode cX9_issue 60 = .ok (.ireturn, 1) := by decide +kernel
theorem dX9_issue_61 : decode cX9_issue 61 = .ok (.aload_n 0, 1) := by decide +kernel
theorem dX9_issue_62 : decode cX9_issue 62 = .ok (.aload 6, 2) := by decide +kernel
theorem dX9_issue_64 : decode cX9_issue 64 = .ok (.getfield 202, 3) := by decide +kernel
theorem dX9_issue_67 : decode cX9_issue 67 = .ok (.aload_n 0, 1) := by decide +kernel
theorem dX9_issue_68 : decode cX9_issue 68 = .ok (.getfield 9, 3) := by decide +kernel
theorem dX9_issue_71 : decode cX9_issue 71 = .ok (.iconst 0, 1) := by decide +kernel
theorem dX9_issue_72 : decode cX9_issue 72 = .ok (.iaload, 1) := by decide +kernel
theorem dX9_issue_73 : decode cX9_issue 73 = .ok (.invokevirtual 205, 3) := by decide +kernel
theorem dX9_issue_76 : decode cX9_issue 76 = .ok (.ifCond .ne 6, 3) := by decide +kernel
theorem dX9_issue_79 : decode cX9_issue 79 = .ok (.bipush (-4), 2) := by decide +kernel
theorem dX9_issue_81 : decode cX9_issue 81 = .ok (.ireturn, 1) := by decide +kernel
theorem dX9_issue_82 : decode cX9_issue 82 = .ok (.aload_n 0, 1) := by decide +kernel
theorem dX9_issue_83 : decode cX9_issue 83 = .ok (.iconst 1, 1) := by decide +kernel
theorem dX9_issue_84 : decode cX9_issue 84 = .ok (.iconst 2, 1) := by decide +kernel
theorem dX9_issue_85 : decode cX9_issue 85 = .ok (.invokevirtual 76, 3) := by decide +kernel
theorem dX9_issue_88 : decode cX9_issue 88 = .ok (.ifCond .ne 6, 3) := by decide +kernel
theorem dX9_issue_91 : decode cX9_issue 91 = .ok (.bipush (-7), 2) := by decide +kernel
theorem dX9_issue_93 : decode cX9_issue 93 = .ok (.ireturn, 1) := by decide +kernel
theorem dX9_issue_94 : decode cX9_issue 94 = .ok (.aload_n 0, 1) := by decide +kernel
theorem dX9_issue_95 : decode cX9_issue 95 = .ok (.iload_n 1, 1) := by decide +kernel
theorem dX9_issue_96 : decode cX9_issue 96 = .ok (.iload_n 2, 1) := by decide +kernel
theorem dX9_issue_97 : decode cX9_issue 97 = .ok (.iload 5, 2) := by decide +kernel
theorem dX9_issue_99 : decode cX9_issue 99 = .ok (.invokevirtual 208, 3) := by decide +kernel
theorem dX9_issue_102 : decode cX9_issue 102 = .ok (.istore 7, 2) := by decide +kernel
theorem dX9_issue_104 : decode cX9_issue 104 = .ok (.iload_n 2, 1) := by decide +kernel
theorem dX9_issue_105 : decode cX9_issue 105 = .ok (.ifCond .ne 24, 3) := by decide +kernel
theorem dX9_issue_108 : decode cX9_issue 108 = .ok (.aload_n 0, 1) := by decide +kernel
theorem dX9_issue_109 : decode cX9_issue 109 = .ok (.getfield 9, 3) := by decide +kernel
theorem dX9_issue_112 : decode cX9_issue 112 = .ok (.iconst 0, 1) := by decide +kernel
theorem dX9_issue_113 : decode cX9_issue 113 = .ok (.iaload, 1) := by decide +kernel
theorem dX9_issue_114 : decode cX9_issue 114 = .ok (.iconst 5, 1) := by decide +kernel
theorem dX9_issue_115 : decode cX9_issue 115 = .ok (.aload_n 0, 1) := by decide +kernel
theorem dX9_issue_116 : decode cX9_issue 116 = .ok (.getfield 19, 3) := by decide +kernel
theorem dX9_issue_119 : decode cX9_issue 119 = .ok (.getfield 95, 3) := by decide +kernel
theorem dX9_issue_122 : decode cX9_issue 122 = .ok (.iload_n 1, 1) := by decide +kernel
theorem dX9_issue_123 : decode cX9_issue 123 = .ok (.iaload, 1) := by decide +kernel
theorem dX9_issue_124 : decode cX9_issue 124 = .ok (.imul, 1) := by decide +kernel
theorem dX9_issue_125 : decode cX9_issue 125 = .ok (.iadd, 1) := by decide +kernel
theorem dX9_issue_126 : decode cX9_issue 126 = .ok (.goto 5, 3) := by decide +kernel
theorem dX9_issue_129 : decode cX9_issue 129 = .ok (.iload 7, 2) := by decide +kernel
theorem dX9_issue_131 : decode cX9_issue 131 = .ok (.istore 8, 2) := by decide +kernel
theorem dX9_issue_133 : decode cX9_issue 133 = .ok (.aload_n 0, 1) := by decide +kernel
theorem dX9_issue_134 : decode cX9_issue 134 = .ok (.iload_n 1, 1) := by decide +kernel
theorem dX9_issue_135 : decode cX9_issue 135 = .ok (.iload_n 2, 1) := by decide +kernel
theorem dX9_issue_136 : decode cX9_issue 136 = .ok (.iload_n 3, 1) := by decide +kernel
theorem dX9_issue_137 : decode cX9_issue 137 = .ok (.aload_n 0, 1) := by decide +kernel
theorem dX9_issue_138 : decode cX9_issue 138 = .ok (.getfield 19, 3) := by decide +kernel
theorem dX9_issue_141 : decode cX9_issue 141 = .ok (.getfield 192, 3) := by decide +kernel
theorem dX9_issue_144 : decode cX9_issue 144 = .ok (.iload_n 1, 1) := by decide +kernel
theorem dX9_issue_145 : decode cX9_issue 145 = .ok (.iaload, 1) := by decide +kernel
theorem dX9_issue_146 : decode cX9_issue 146 = .ok (.iload 7, 2) := by decide +kernel
theorem dX9_issue_148 : decode cX9_issue 148 = .ok (.iload 8, 2) := by decide +kernel
theorem dX9_issue_150 : decode cX9_issue 150 = .ok (.invokevirtual 212, 3) := by decide +kernel
theorem dX9_issue_153 : decode cX9_issue 153 = .ok (.ireturn, 1) := by decide +kernel
theorem dX9_grant_0 : decode cX9_grant 0 = .ok (.aload_n 0, 1) := by decide +kernel
theorem dX9_grant_1 : decode cX9_grant 1 = .ok (.iload_n 3, 1) := by decide +kernel
theorem dX9_grant_2 : decode cX9_grant 2 = .ok (.invokevirtual 189, 3) := by decide +kernel
theorem dX9_grant_5 : decode cX9_grant 5 = .ok (.ifCond .eq 20, 3) := by decide +kernel
theorem dX9_grant_8 : decode cX9_grant 8 = .ok (.aload_n 0, 1) := by decide +kernel
theorem dX9_grant_9 : decode cX9_grant 9 = .ok (.getfield 19, 3) := by decide +kernel
theorem dX9_grant_12 : decode cX9_grant 12 = .ok (.iconst 0, 1) := by decide +kernel
theorem dX9_grant_13 : decode cX9_grant 13 = .ok (.invokevirtual 88, 3) := by decide +kernel
theorem dX9_grant_16 : decode cX9_grant 16 = .ok (.ifCond .eq 9, 3) := by decide +kernel
theorem dX9_grant_19 : decode cX9_grant 19 = .ok (.iload 5, 2) := by decide +kernel
theorem dX9_grant_21 : decode cX9_grant 21 = .ok (.iconst 1, 1) := by decide +kernel
theorem dX9_grant_22 : decode cX9_grant 22 = .ok (.if_icmp .ge 5, 3) := by decide +kernel
theorem dX9_grant_25 : decode cX9_grant 25 = .ok (.iconst (-1), 1) := by decide +kernel
theorem dX9_grant_26 : decode cX9_grant 26 = .ok (.ireturn, 1) := by decide +kernel
theorem dX9_grant_27 : decode cX9_grant 27 = .ok (.aload_n 0, 1) := by decide +kernel
theorem dX9_grant_28 : decode cX9_grant 28 = .ok (.iload_n 1, 1) := by decide +kernel
theorem dX9_grant_29 : decode cX9_grant 29 = .ok (.aload_n 0, 1) := by decide +kernel
theorem dX9_grant_30 : decode cX9_grant 30 = .ok (.getfield 19, 3) := by decide +kernel
theorem dX9_grant_33 : decode cX9_grant 33 = .ok (.getfield 192, 3) := by decide +kernel
theorem dX9_grant_36 : decode cX9_grant 36 = .ok (.iconst 0, 1) := by decide +kernel
theorem dX9_grant_37 : decode cX9_grant 37 = .ok (.iaload, 1) := by decide +kernel
theorem dX9_grant_38 : decode cX9_grant 38 = .ok (.invokevirtual 216, 3) := by decide +kernel
theorem dX9_grant_41 : decode cX9_grant 41 = .ok (.astore 6, 2) := by decide +kernel
theorem dX9_grant_43 : decode cX9_grant 43 = .ok (.aload 6, 2) := by decide +kernel
theorem dX9_grant_45 : decode cX9_grant 45 = .ok (.ifnonnull 7, 3) := by decide +kernel
theorem dX9_grant_48 : decode cX9_grant 48 = .ok (.aconst_null, 1) := by decide +kernel
theorem dX9_grant_49 : decode cX9_grant 49 = .ok (.goto 13, 3) := by decide +kernel
theorem dX9_grant_52 : decode cX9_grant 52 = .ok (.aload_n 0, 1) := by decide +kernel
theorem dX9_grant_53 : decode cX9_grant 53 = .ok (.iload_n 2, 1) := by decide +kernel
theorem dX9_grant_54 : decode cX9_grant 54 = .ok (.aload 6, 2) := by decide +kernel
theorem dX9_grant_56 : decode cX9_grant 56 = .ok (.getfield 220, 3) := by decide +kernel
theorem dX9_grant_59 : decode cX9_grant 59 = .ok (.invokevirtual 223, 3) := by decide +kernel
theorem dX9_grant_62 : decode cX9_grant 62 = .ok (.astore 7, 2) := by decide +kernel
theorem dX9_grant_64 : decode cX9_grant 64 = .ok (.aload 6, 2) := by decide +kernel
theorem dX9_grant_66 : decode cX9_grant 66 = .ok (.ifnull 8, 3) := by decide +kernel
theorem dX9_grant_69 : decode cX9_grant 69 = .ok (.aload 7, 2) := by decide +kernel
theorem dX9_grant_71 : decode cX9_grant 71 = .ok (.ifnonnull 6, 3) := by decide +kernel
theorem dX9_grant_74 : decode cX9_grant 74 = .ok (.bipush (-2), 2) := by decide +kernel
theorem dX9_grant_76 : decode cX9_grant 76 = .ok (.ireturn, 1) := by decide +kernel
theorem dX9_grant_77 : decode cX9_grant 77 = .ok (.aload 6, 2) := by decide +kernel
theorem dX9_grant_79 : decode cX9_grant 79 = .ok (.getfield 227, 3) := by decide +kernel
theorem dX9_grant_82 : decode cX9_grant 82 = .ok (.istore 8, 2) := by decide +kernel
theorem dX9_grant_84 : decode cX9_grant 84 = .ok (.aload 7, 2) := by decide +kernel
theorem dX9_grant_86 : decode cX9_grant 86 = .ok (.getfield 228, 3) := by decide +kernel
theorem dX9_grant_89 : decode cX9_grant 89 = .ok (.iload 8, 2) := by decide +kernel
theorem dX9_grant_91 : decode cX9_grant 91 = .ok (.if_icmp .ne 23, 3) := by decide +kernel
theorem dX9_grant_94 : decode cX9_grant 94 = .ok (.aload 7, 2) := by decide +kernel
theorem dX9_grant_96 : decode cX9_grant 96 = .ok (.getfield 229, 3) := by decide +kernel
theorem dX9_grant_99 : decode cX9_grant 99 = .ok (.getfield 233, 3) := by decide +kernel
theorem dX9_grant_102 : decode cX9_grant 102 = .ok (.ifCond .ne 12, 3) := by decide +kernel
theorem dX9_grant_105 : decode cX9_grant 105 = .ok (.aload_n 0, 1) := by decide +kernel
theorem dX9_grant_106 : decode cX9_grant 106 = .ok (.iload 8, 2) := by decide +kernel
theorem dX9_grant_108 : decode cX9_grant 108 = .ok (.invokevirtual 186, 3) := by decide +kernel
theorem dX9_grant_111 : decode cX9_grant 111 = .ok (.ifCond .ne 6, 3) := by decide +kernel
theorem dX9_grant_114 : decode cX9_grant 114 = .ok (.bipush (-3), 2) := by decide +kernel
theorem dX9_grant_116 : decode cX9_grant 116 = .ok (.ireturn, 1) := by decide +kernel
theorem dX9_grant_117 : decode cX9_grant 117 = .ok (.aload_n 0, 1) := by decide +kernel
theorem dX9_grant_118 : decode cX9_grant 118 = .ok (.aload 7, 2) := by decide +kernel
theorem dX9_grant_120 : decode cX9_grant 120 = .ok (.getfield 236, 3) := by decide +kernel
theorem dX9_grant_123 : decode cX9_grant 123 = .ok (.aload_n 0, 1) := by decide +kernel
theorem dX9_grant_124 : decode cX9_grant 124 = .ok (.getfield 9, 3) := by decide +kernel
theorem dX9_grant_127 : decode cX9_grant 127 = .ok (.iconst 0, 1) := by decide +kernel
theorem dX9_grant_128 : decode cX9_grant 128 = .ok (.iaload, 1) := by decide +kernel
theorem dX9_grant_129 : decode cX9_grant 129 = .ok (.invokevirtual 205, 3) := by decide +kernel
theorem dX9_grant_132 : decode cX9_grant 132 = .ok (.ifCond .eq 17, 3) := by decide +kernel
theorem dX9_grant_135 : decode cX9_grant 135 = .ok (.aload_n 0, 1) := by decide +kernel
theorem dX9_grant_136 : decode cX9_grant 136 = .ok (.getfield 9, 3) := by decide +kernel
theorem dX9_grant_139 : decode cX9_grant 139 = .ok (.iconst 0, 1) := by decide +kernel
theorem dX9_grant_140 : decode cX9_grant 140 = .ok (.iaload, 1) := by decide +kernel
theorem dX9_grant_141 : decode cX9_grant 141 = .ok (.aload 6, 2) := by decide +kernel
theorem dX9_grant_143 : decode cX9_grant 143 = .ok (.getfield 237, 3) := by decide +kernel
theorem dX9_grant_146 : decode cX9_grant 146 = .ok (.if_icmp .le 6, 3) := by decide +kernel
theorem dX9_grant_149 : decode cX9_grant 149 = .ok (.bipush (-4), 2) := by decide +kernel
theorem dX9_grant_151 : decode cX9_grant 151 = .ok (.ireturn, 1) := by decide +kernel
theorem dX9_grant_152 : decode cX9_grant 152 = .ok (.aload_n 0, 1) := by decide +kernel
theorem dX9_grant_153 : decode cX9_grant 153 = .ok (.iconst 1, 1) := by decide +kernel
theorem dX9_grant_154 : decode cX9_grant 154 = .ok (.iconst 2, 1) := by decide +kernel
theorem dX9_grant_155 : decode cX9_grant 155 = .ok (.invokevirtual 76, 3) := by decide +kernel
theorem dX9_grant_158 : decode cX9_grant 158 = .ok (.ifCond .ne 6, 3) := by decide +kernel
theorem dX9_grant_161 : decode cX9_grant 161 = .ok (.bipush (-7), 2) := by decide +kernel
theorem dX9_grant_163 : decode cX9_grant 163 = .ok (.ireturn, 1) := by decide +kernel
theorem dX9_grant_164 : decode cX9_grant 164 = .ok (.iload_n 3, 1) := by decide +kernel
theorem dX9_grant_165 : decode cX9_grant 165 = .ok (.ifCond .ne 11, 3) := by decide +kernel
theorem dX9_grant_168 : decode cX9_grant 168 = .ok (.aload 6, 2) := by decide +kernel
theorem dX9_grant_170 : decode cX9_grant 170 = .ok (.getfield 240, 3) := by decide +kernel
theorem dX9_grant_173 : decode cX9_grant 173 = .ok (.goto 8, 3) := by decide +kernel
theorem dX9_grant_176 : decode cX9_grant 176 = .ok (.aload 6, 2) := by decide +kernel
theorem dX9_grant_178 : decode cX9_grant 178 = .ok (.getfield 237, 3) := by decide +kernel
theorem dX9_grant_181 : decode cX9_grant 181 = .ok (.istore 9, 2) := by decide +kernel
theorem dX9_grant_183 : decode cX9_grant 183 = .ok (.aload_n 0, 1) := by decide +kernel
theorem dX9_grant_184 : decode cX9_grant 184 = .ok (.iload 8, 2) := by decide +kernel
theorem dX9_grant_186 : decode cX9_grant 186 = .ok (.iload_n 3, 1) := by decide +kernel
theorem dX9_grant_187 : decode cX9_grant 187 = .ok (.iload 5, 2) := by decide +kernel
theorem dX9_grant_189 : decode cX9_grant 189 = .ok (.invokevirtual 208, 3) := by decide +kernel
theorem dX9_grant_192 : decode cX9_grant 192 = .ok (.iload 9, 2) := by decide +kernel
theorem dX9_grant_194 : decode cX9_grant 194 = .ok (.invokestatic 59, 3) := by decide +kernel
theorem dX9_grant_197 : decode cX9_grant 197 = .ok (.istore 10, 2) := by decide +kernel
theorem dX9_grant_199 : decode cX9_grant 199 = .ok (.iload_n 3, 1) := by decide +kernel
theorem dX9_grant_200 : decode cX9_grant 200 = .ok (.ifCond .ne 11, 3) := by decide +kernel
theorem dX9_grant_203 : decode cX9_grant 203 = .ok (.aload 6, 2) := by decide +kernel
theorem dX9_grant_205 : decode cX9_grant 205 = .ok (.getfield 240, 3) := by decide +kernel
theorem dX9_grant_208 : decode cX9_grant 208 = .ok (.goto 5, 3) := by decide +kernel
theorem dX9_grant_211 : decode cX9_grant 211 = .ok (.iload 10, 2) := by decide +kernel
theorem dX9_grant_213 : decode cX9_grant 213 = .ok (.istore 11, 2) := by decide +kernel
theorem dX9_grant_215 : decode cX9_grant 215 = .ok (.aload_n 0, 1) := by decide +kernel
theorem dX9_grant_216 : decode cX9_grant 216 = .ok (.iload 8, 2) := by decide +kernel
theorem dX9_grant_218 : decode cX9_grant 218 = .ok (.iload_n 3, 1) := by decide +kernel
theorem dX9_grant_219 : decode cX9_grant 219 = .ok (.iload 4, 2) := by decide +kernel
theorem dX9_grant_221 : decode cX9_grant 221 = .ok (.aload 6, 2) := by decide +kernel
theorem dX9_grant_223 : decode cX9_grant 223 = .ok (.getfield 220, 3) := by decide +kernel
theorem dX9_grant_226 : decode cX9_grant 226 = .ok (.iload 10, 2) := by decide +kernel
theorem dX9_grant_228 : decode cX9_grant 228 = .ok (.iload 11, 2) := by decide +kernel
theorem dX9_grant_230 : decode cX9_grant 230 = .ok (.invokevirtual 212, 3) := by decide +kernel
theorem dX9_grant_233 : decode cX9_grant 233 = .ok (.ireturn, 1) := by decide +kernel
theorem dX9_serve_0 : decode cX9_serve 0 = .ok (.aload_n 0, 1) := by decide +kernel
theorem dX9_serve_1 : decode cX9_serve 1 = .ok (.getfield 9, 3) := by decide +kernel
theorem dX9_serve_4 : decode cX9_serve 4 = .ok (.iconst 1, 1) := by decide +kernel
theorem dX9_serve_5 : decode cX9_serve 5 = .ok (.iaload, 1) := by decide +kernel
theorem dX9_serve_6 : decode cX9_serve 6 = .ok (.istore_n 3, 1) := by decide +kernel
theorem dX9_serve_7 : decode cX9_serve 7 = .ok (.aload_n 0, 1) := by decide +kernel
theorem dX9_serve_8 : decode cX9_serve 8 = .ok (.getfield 35, 3) := by decide +kernel
theorem dX9_serve_11 : decode cX9_serve 11 = .ok (.iload_n 3, 1) := by decide +kernel
theorem dX9_serve_12 : decode cX9_serve 12 = .ok (.aload_n 0, 1) := by decide +kernel
theorem dX9_serve_13 : decode cX9_serve 13 = .ok (.getfield 68, 3) := by decide +kernel
theorem dX9_serve_16 : decode cX9_serve 16 = .ok (.isub, 1) := by decide +kernel
theorem dX9_serve_17 : decode cX9_serve 17 = .ok (.invokevirtual 243, 3) := by decide +kernel
theorem dX9_serve_20 : decode cX9_serve 20 = .ok (.aload_n 0, 1) := by decide +kernel
theorem dX9_serve_21 : decode cX9_serve 21 = .ok (.iload_n 1, 1) := by decide +kernel
theorem dX9_serve_22 : decode cX9_serve 22 = .ok (.aload_n 0, 1) := by decide +kernel
theorem dX9_serve_23 : decode cX9_serve 23 = .ok (.getfield 13, 3) := by decide +kernel
theorem dX9_serve_26 : decode cX9_serve 26 = .ok (.iconst 1, 1) := by decide +kernel
theorem dX9_serve_27 : decode cX9_serve 27 = .ok (.iaload, 1) := by decide +kernel
theorem dX9_serve_28 : decode cX9_serve 28 = .ok (.invokevirtual 216, 3) := by decide +kernel
theorem dX9_serve_31 : decode cX9_serve 31 = .ok (.astore 4, 2) := by decide +kernel
theorem dX9_serve_33 : decode cX9_serve 33 = .ok (.aload 4, 2) := by decide +kernel
theorem dX9_serve_35 : decode cX9_serve 35 = .ok (.ifnonnull 7, 3) := by decide +kernel
theorem dX9_serve_38 : decode cX9_serve 38 = .ok (.aconst_null, 1) := by decide +kernel
theorem dX9_serve_39 : decode cX9_serve 39 = .ok (.goto 13, 3) := by decide +kernel
theorem dX9_serve_42 : decode cX9_serve 42 = .ok (.aload_n 0, 1) := by decide +kernel
theorem dX9_serve_43 : decode cX9_serve 43 = .ok (.iload_n 2, 1) := by decide +kernel
theorem dX9_serve_44 : decode cX9_serve 44 = .ok (.aload 4, 2) := by decide +kernel
theorem dX9_serve_46 : decode cX9_serve 46 = .ok (.getfield 220, 3) := by decide +kernel
theorem dX9_serve_49 : decode cX9_serve 49 = .ok (.invokevirtual 223, 3) := by decide +kernel
theorem dX9_serve_52 : decode cX9_serve 52 = .ok (.astore 5, 2) := by decide +kernel
theorem dX9_serve_54 : decode cX9_serve 54 = .ok (.aload 4, 2) := by decide +kernel
theorem dX9_serve_56 : decode cX9_serve 56 = .ok (.ifnull 8, 3) := by decide +kernel
theorem dX9_serve_59 : decode cX9_serve 59 = .ok (.aload 5, 2) := by decide +kernel
theorem dX9_serve_61 : decode cX9_serve 61 = .ok (.ifnonnull 6, 3) := by decide +kernel
theorem dX9_serve_64 : decode cX9_serve 64 = .ok (.bipush (-2), 2) := by decide +kernel
theorem dX9_serve_66 : decode cX9_serve 66 = .ok (.ireturn, 1) := by decide +kernel
theorem dX9_serve_67 : decode cX9_serve 67 = .ok (.aload 5, 2) := by decide +kernel
theorem dX9_serve_69 : decode cX9_serve 69 = .ok (.getfield 228, 3) := by decide +kernel
theorem dX9_serve_72 : decode cX9_serve 72 = .ok (.aload 4, 2) := by decide +kernel
theorem dX9_serve_74 : decode cX9_serve 74 = .ok (.getfield 227, 3) := by decide +kernel
theorem dX9_serve_77 : decode cX9_serve 77 = .ok (.if_icmp .ne 14, 3) := by decide +kernel
theorem dX9_serve_80 : decode cX9_serve 80 = .ok (.aload 5, 2) := by decide +kernel
theorem dX9_serve_82 : decode cX9_serve 82 = .ok (.getfield 229, 3) := by decide +kernel
theorem dX9_serve_85 : decode cX9_serve 85 = .ok (.getfield 233, 3) := by decide +kernel
theorem dX9_serve_88 : decode cX9_serve 88 = .ok (.ifCond .ne 6, 3) := by decide +kernel
theorem dX9_serve_91 : decode cX9_serve 91 = .ok (.bipush (-3), 2) := by decide +kernel
theorem dX9_serve_93 : decode cX9_serve 93 = .ok (.ireturn, 1) := by decide +kernel
theorem dX9_serve_94 : decode cX9_serve 94 = .ok (.aload_n 0, 1) := by decide +kernel
theorem dX9_serve_95 : decode cX9_serve 95 = .ok (.aload 5, 2) := by decide +kernel
theorem dX9_serve_97 : decode cX9_serve 97 = .ok (.getfield 236, 3) := by decide +kernel
theorem dX9_serve_100 : decode cX9_serve 100 = .ok (.iload_n 3, 1) := by decide +kernel
theorem dX9_serve_101 : decode cX9_serve 101 = .ok (.invokevirtual 205, 3) := by decide +kernel
theorem dX9_serve_104 : decode cX9_serve 104 = .ok (.ifCond .eq 26, 3) := by decide +kernel
theorem dX9_serve_107 : decode cX9_serve 107 = .ok (.iload_n 3, 1) := by decide +kernel
theorem dX9_serve_108 : decode cX9_serve 108 = .ok (.aload 4, 2) := by decide +kernel
theorem dX9_serve_110 : decode cX9_serve 110 = .ok (.getfield 237, 3) := by decide +kernel
theorem dX9_serve_113 : decode cX9_serve 113 = .ok (.if_icmp .gt 17, 3) := by decide +kernel
theorem dX9_serve_116 : decode cX9_serve 116 = .ok (.aload 4, 2) := by decide +kernel
theorem dX9_serve_118 : decode cX9_serve 118 = .ok (.getfield 246, 3) := by decide +kernel
theorem dX9_serve_121 : decode cX9_serve 121 = .ok (.iload_n 3, 1) := by decide +kernel
theorem dX9_serve_122 : decode cX9_serve 122 = .ok (.aload_n 0, 1) := by decide +kernel
theorem dX9_serve_123 : decode cX9_serve 123 = .ok (.getfield 68, 3) := by decide +kernel
theorem dX9_serve_126 : decode cX9_serve 126 = .ok (.iadd, 1) := by decide +kernel
theorem dX9_serve_127 : decode cX9_serve 127 = .ok (.if_icmp .le 6, 3) := by decide +kernel
theorem dX9_serve_130 : decode cX9_serve 130 = .ok (.bipush (-4), 2) := by decide +kernel
theorem dX9_serve_132 : decode cX9_serve 132 = .ok (.ireturn, 1) := by decide +kernel
theorem dX9_serve_133 : decode cX9_serve 133 = .ok (.aload_n 0, 1) := by decide +kernel
theorem dX9_serve_134 : decode cX9_serve 134 = .ok (.getfield 35, 3) := by decide +kernel
theorem dX9_serve_137 : decode cX9_serve 137 = .ok (.aload 5, 2) := by decide +kernel
theorem dX9_serve_139 : decode cX9_serve 139 = .ok (.invokevirtual 249, 3) := by decide +kernel
theorem dX9_serve_142 : decode cX9_serve 142 = .ok (.ifCond .eq 6, 3) := by decide +kernel
theorem dX9_serve_145 : decode cX9_serve 145 = .ok (.bipush (-5), 2) := by decide +kernel
theorem dX9_serve_147 : decode cX9_serve 147 = .ok (.ireturn, 1) := by decide +kernel
theorem dX9_serve_148 : decode cX9_serve 148 = .ok (.aload_n 0, 1) := by decide +kernel
theorem dX9_serve_149 : decode cX9_serve 149 = .ok (.getfield 19, 3) := by decide +kernel
theorem dX9_serve_152 : decode cX9_serve 152 = .ok (.aload 5, 2) := by decide +kernel
theorem dX9_serve_154 : decode cX9_serve 154 = .ok (.getfield 228, 3) := by decide +kernel
theorem dX9_serve_157 : decode cX9_serve 157 = .ok (.aload 5, 2) := by decide +kernel
theorem dX9_serve_159 : decode cX9_serve 159 = .ok (.getfield 229, 3) := by decide +kernel
theorem dX9_serve_162 : decode cX9_serve 162 = .ok (.invokevirtual 253, 3) := by decide +kernel
theorem dX9_serve_165 : decode cX9_serve 165 = .ok (.ifCond .ne 6, 3) := by decide +kernel
theorem dX9_serve_168 : decode cX9_serve 168 = .ok (.bipush (-6), 2) := by decide +kernel
theorem dX9_serve_170 : decode cX9_serve 170 = .ok (.ireturn, 1) := by decide +kernel
theorem dX9_serve_171 : decode cX9_serve 171 = .ok (.aload_n 0, 1) := by decide +kernel
theorem dX9_serve_172 : decode cX9_serve 172 = .ok (.getfield 35, 3) := by decide +kernel
theorem dX9_serve_175 : decode cX9_serve 175 = .ok (.invokevirtual 257, 3) := by decide +kernel
theorem dX9_serve_178 : decode cX9_serve 178 = .ok (.ifCond .eq 6, 3) := by decide +kernel
theorem dX9_serve_181 : decode cX9_serve 181 = .ok (.bipush (-7), 2) := by decide +kernel
theorem dX9_serve_183 : decode cX9_serve 183 = .ok (.ireturn, 1) := by decide +kernel
theorem dX9_serve_184 : decode cX9_serve 184 = .ok (.aload_n 0, 1) := by decide +kernel
theorem dX9_serve_185 : decode cX9_serve 185 = .ok (.getfield 35, 3) := by decide +kernel
theorem dX9_serve_188 : decode cX9_serve 188 = .ok (.aload 5, 2) := by decide +kernel
end
section
theorem dX9_serve_190 : decode cX9_serve 190 = .ok (.invokevirtual 260, 3) := by decide +kernel
theorem dX9_serve_193 : decode cX9_serve 193 = .ok (.iconst 0, 1) := by decide +kernel
theorem dX9_serve_194 : decode cX9_serve 194 = .ok (.ireturn, 1) := by decide +kernel
theorem dX9_answer_0 : decode cX9_answer 0 = .ok (.aload_n 0, 1) := by decide +kernel
theorem dX9_answer_1 : decode cX9_answer 1 = .ok (.getfield 35, 3) := by decide +kernel
theorem dX9_answer_4 : decode cX9_answer 4 = .ok (.getfield 264, 3) := by decide +kernel
theorem dX9_answer_7 : decode cX9_answer 7 = .ok (.ireturn, 1) := by decide +kernel
theorem dX9_steal_0 : decode cX9_steal 0 = .ok (.iload_n 1, 1) := by decide +kernel
theorem dX9_steal_1 : decode cX9_steal 1 = .ok (.invokestatic 72, 3) := by decide +kernel
theorem dX9_steal_4 : decode cX9_steal 4 = .ok (.ifCond .eq 13, 3) := by decide +kernel
theorem dX9_steal_7 : decode cX9_steal 7 = .ok (.aload_n 0, 1) := by decide +kernel
theorem dX9_steal_8 : decode cX9_steal 8 = .ok (.getfield 13, 3) := by decide +kernel
theorem dX9_steal_11 : decode cX9_steal 11 = .ok (.iload_n 1, 1) := by decide +kernel
theorem dX9_steal_12 : decode cX9_steal 12 = .ok (.iaload, 1) := by decide +kernel
theorem dX9_steal_13 : decode cX9_steal 13 = .ok (.iconst (-1), 1) := by decide +kernel
theorem dX9_steal_14 : decode cX9_steal 14 = .ok (.if_icmp .ne 5, 3) := by decide +kernel
theorem dX9_steal_17 : decode cX9_steal 17 = .ok (.iconst (-1), 1) := by decide +kernel
theorem dX9_steal_18 : decode cX9_steal 18 = .ok (.ireturn, 1) := by decide +kernel
theorem dX9_steal_19 : decode cX9_steal 19 = .ok (.aload_n 0, 1) := by decide +kernel
theorem dX9_steal_20 : decode cX9_steal 20 = .ok (.getfield 49, 3) := by decide +kernel
theorem dX9_steal_23 : decode cX9_steal 23 = .ok (.aload_n 0, 1) := by decide +kernel
theorem dX9_steal_24 : decode cX9_steal 24 = .ok (.getfield 13, 3) := by decide +kernel
theorem dX9_steal_27 : decode cX9_steal 27 = .ok (.iload_n 1, 1) := by decide +kernel
theorem dX9_steal_28 : decode cX9_steal 28 = .ok (.iaload, 1) := by decide +kernel
theorem dX9_steal_29 : decode cX9_steal 29 = .ok (.iconst 1, 1) := by decide +kernel
theorem dX9_steal_30 : decode cX9_steal 30 = .ok (.bastore, 1) := by decide +kernel
theorem dX9_steal_31 : decode cX9_steal 31 = .ok (.aload_n 0, 1) := by decide +kernel
theorem dX9_steal_32 : decode cX9_steal 32 = .ok (.getfield 13, 3) := by decide +kernel
theorem dX9_steal_35 : decode cX9_steal 35 = .ok (.iload_n 1, 1) := by decide +kernel
theorem dX9_steal_36 : decode cX9_steal 36 = .ok (.iaload, 1) := by decide +kernel
theorem dX9_steal_37 : decode cX9_steal 37 = .ok (.ireturn, 1) := by decide +kernel
theorem dX9_learn_0 : decode cX9_learn 0 = .ok (.aload_n 0, 1) := by decide +kernel
theorem dX9_learn_1 : decode cX9_learn 1 = .ok (.iload_n 1, 1) := by decide +kernel
theorem dX9_learn_2 : decode cX9_learn 2 = .ok (.invokevirtual 155, 3) := by decide +kernel
theorem dX9_learn_5 : decode cX9_learn 5 = .ok (.astore_n 2, 1) := by decide +kernel
theorem dX9_learn_6 : decode cX9_learn 6 = .ok (.aload_n 2, 1) := by decide +kernel
theorem dX9_learn_7 : decode cX9_learn 7 = .ok (.ifnonnull 5, 3) := by decide +kernel
theorem dX9_learn_10 : decode cX9_learn 10 = .ok (.iconst (-1), 1) := by decide +kernel
theorem dX9_learn_11 : decode cX9_learn 11 = .ok (.ireturn, 1) := by decide +kernel
theorem dX9_learn_12 : decode cX9_learn 12 = .ok (.aload_n 0, 1) := by decide +kernel
theorem dX9_learn_13 : decode cX9_learn 13 = .ok (.aload_n 2, 1) := by decide +kernel
theorem dX9_learn_14 : decode cX9_learn 14 = .ok (.getfield 267, 3) := by decide +kernel
theorem dX9_learn_17 : decode cX9_learn 17 = .ok (.invokevirtual 270, 3) := by decide +kernel
theorem dX9_learn_20 : decode cX9_learn 20 = .ok (.ifCond .ne 6, 3) := by decide +kernel
theorem dX9_learn_23 : decode cX9_learn 23 = .ok (.bipush (-2), 2) := by decide +kernel
theorem dX9_learn_25 : decode cX9_learn 25 = .ok (.ireturn, 1) := by decide +kernel
theorem dX9_learn_26 : decode cX9_learn 26 = .ok (.aload_n 2, 1) := by decide +kernel
theorem dX9_learn_27 : decode cX9_learn 27 = .ok (.invokevirtual 273, 3) := by decide +kernel
theorem dX9_learn_30 : decode cX9_learn 30 = .ok (.istore_n 3, 1) := by decide +kernel
theorem dX9_learn_31 : decode cX9_learn 31 = .ok (.iload_n 3, 1) := by decide +kernel
theorem dX9_learn_32 : decode cX9_learn 32 = .ok (.iconst (-1), 1) := by decide +kernel
theorem dX9_learn_33 : decode cX9_learn 33 = .ok (.if_icmp .ne 5, 3) := by decide +kernel
theorem dX9_learn_36 : decode cX9_learn 36 = .ok (.iconst 0, 1) := by decide +kernel
theorem dX9_learn_37 : decode cX9_learn 37 = .ok (.ireturn, 1) := by decide +kernel
theorem dX9_learn_38 : decode cX9_learn 38 = .ok (.aload_n 0, 1) := by decide +kernel
theorem dX9_learn_39 : decode cX9_learn 39 = .ok (.getfield 49, 3) := by decide +kernel
theorem dX9_learn_42 : decode cX9_learn 42 = .ok (.iload_n 3, 1) := by decide +kernel
theorem dX9_learn_43 : decode cX9_learn 43 = .ok (.iconst 1, 1) := by decide +kernel
theorem dX9_learn_44 : decode cX9_learn 44 = .ok (.bastore, 1) := by decide +kernel
theorem dX9_learn_45 : decode cX9_learn 45 = .ok (.iload_n 3, 1) := by decide +kernel
theorem dX9_learn_46 : decode cX9_learn 46 = .ok (.ireturn, 1) := by decide +kernel
theorem dX9_forge_0 : decode cX9_forge 0 = .ok (.iload_n 2, 1) := by decide +kernel
theorem dX9_forge_1 : decode cX9_forge 1 = .ok (.iconst 1, 1) := by decide +kernel
theorem dX9_forge_2 : decode cX9_forge 2 = .ok (.if_icmp .lt 20, 3) := by decide +kernel
theorem dX9_forge_5 : decode cX9_forge 5 = .ok (.iload_n 2, 1) := by decide +kernel
theorem dX9_forge_6 : decode cX9_forge 6 = .ok (.iconst 4, 1) := by decide +kernel
theorem dX9_forge_7 : decode cX9_forge 7 = .ok (.if_icmp .gt 15, 3) := by decide +kernel
theorem dX9_forge_10 : decode cX9_forge 10 = .ok (.iload_n 2, 1) := by decide +kernel
theorem dX9_forge_11 : decode cX9_forge 11 = .ok (.iconst 3, 1) := by decide +kernel
theorem dX9_forge_12 : decode cX9_forge 12 = .ok (.if_icmp .eq 12, 3) := by decide +kernel
theorem dX9_forge_15 : decode cX9_forge 15 = .ok (.iload_n 3, 1) := by decide +kernel
theorem dX9_forge_16 : decode cX9_forge 16 = .ok (.invokestatic 72, 3) := by decide +kernel
theorem dX9_forge_19 : decode cX9_forge 19 = .ok (.ifCond .ne 5, 3) := by decide +kernel
theorem dX9_forge_22 : decode cX9_forge 22 = .ok (.iconst (-1), 1) := by decide +kernel
theorem dX9_forge_23 : decode cX9_forge 23 = .ok (.ireturn, 1) := by decide +kernel
theorem dX9_forge_24 : decode cX9_forge 24 = .ok (.iload_n 2, 1) := by decide +kernel
theorem dX9_forge_25 : decode cX9_forge 25 = .ok (.iconst 2, 1) := by decide +kernel
theorem dX9_forge_26 : decode cX9_forge 26 = .ok (.if_icmp .eq 8, 3) := by decide +kernel
theorem dX9_forge_29 : decode cX9_forge 29 = .ok (.iload_n 2, 1) := by decide +kernel
theorem dX9_forge_30 : decode cX9_forge 30 = .ok (.iconst 3, 1) := by decide +kernel
theorem dX9_forge_31 : decode cX9_forge 31 = .ok (.if_icmp .ne 7, 3) := by decide +kernel
theorem dX9_forge_34 : decode cX9_forge 34 = .ok (.iconst 1, 1) := by decide +kernel
theorem dX9_forge_35 : decode cX9_forge 35 = .ok (.goto 4, 3) := by decide +kernel
theorem dX9_forge_38 : decode cX9_forge 38 = .ok (.iconst 0, 1) := by decide +kernel
theorem dX9_forge_39 : decode cX9_forge 39 = .ok (.istore 6, 2) := by decide +kernel
theorem dX9_forge_41 : decode cX9_forge 41 = .ok (.aload_n 0, 1) := by decide +kernel
theorem dX9_forge_42 : decode cX9_forge 42 = .ok (.iload_n 1, 1) := by decide +kernel
theorem dX9_forge_43 : decode cX9_forge 43 = .ok (.invokevirtual 270, 3) := by decide +kernel
theorem dX9_forge_46 : decode cX9_forge 46 = .ok (.ifCond .eq 17, 3) := by decide +kernel
theorem dX9_forge_49 : decode cX9_forge 49 = .ok (.iload 6, 2) := by decide +kernel
theorem dX9_forge_51 : decode cX9_forge 51 = .ok (.ifCond .eq 15, 3) := by decide +kernel
theorem dX9_forge_54 : decode cX9_forge 54 = .ok (.aload_n 0, 1) := by decide +kernel
theorem dX9_forge_55 : decode cX9_forge 55 = .ok (.iload 4, 2) := by decide +kernel
theorem dX9_forge_57 : decode cX9_forge 57 = .ok (.invokevirtual 270, 3) := by decide +kernel
theorem dX9_forge_60 : decode cX9_forge 60 = .ok (.ifCond .ne 6, 3) := by decide +kernel
theorem dX9_forge_63 : decode cX9_forge 63 = .ok (.bipush (-2), 2) := by decide +kernel
theorem dX9_forge_65 : decode cX9_forge 65 = .ok (.ireturn, 1) := by decide +kernel
theorem dX9_forge_66 : decode cX9_forge 66 = .ok (.aload_n 0, 1) := by decide +kernel
theorem dX9_forge_67 : decode cX9_forge 67 = .ok (.iconst 0, 1) := by decide +kernel
theorem dX9_forge_68 : decode cX9_forge 68 = .ok (.iconst 1, 1) := by decide +kernel
theorem dX9_forge_69 : decode cX9_forge 69 = .ok (.invokevirtual 76, 3) := by decide +kernel
theorem dX9_forge_72 : decode cX9_forge 72 = .ok (.ifCond .ne 6, 3) := by decide +kernel
theorem dX9_forge_75 : decode cX9_forge 75 = .ok (.bipush (-7), 2) := by decide +kernel
theorem dX9_forge_77 : decode cX9_forge 77 = .ok (.ireturn, 1) := by decide +kernel
theorem dX9_forge_78 : decode cX9_forge 78 = .ok (.aload_n 0, 1) := by decide +kernel
theorem dX9_forge_79 : decode cX9_forge 79 = .ok (.iload_n 1, 1) := by decide +kernel
theorem dX9_forge_80 : decode cX9_forge 80 = .ok (.iload_n 2, 1) := by decide +kernel
theorem dX9_forge_81 : decode cX9_forge 81 = .ok (.iload_n 3, 1) := by decide +kernel
theorem dX9_forge_82 : decode cX9_forge 82 = .ok (.iload 4, 2) := by decide +kernel
theorem dX9_forge_84 : decode cX9_forge 84 = .ok (.iload 5, 2) := by decide +kernel
theorem dX9_forge_86 : decode cX9_forge 86 = .ok (.invokestatic 276, 3) := by decide +kernel
theorem dX9_forge_89 : decode cX9_forge 89 = .ok (.invokevirtual 130, 3) := by decide +kernel
theorem dX9_forge_92 : decode cX9_forge 92 = .ok (.ireturn, 1) := by decide +kernel
theorem dX9_seal_0 : decode cX9_seal 0 = .ok (.aload_n 0, 1) := by decide +kernel
theorem dX9_seal_1 : decode cX9_seal 1 = .ok (.iload_n 1, 1) := by decide +kernel
theorem dX9_seal_2 : decode cX9_seal 2 = .ok (.invokevirtual 155, 3) := by decide +kernel
theorem dX9_seal_5 : decode cX9_seal 5 = .ok (.astore_n 3, 1) := by decide +kernel
theorem dX9_seal_6 : decode cX9_seal 6 = .ok (.aload_n 3, 1) := by decide +kernel
theorem dX9_seal_7 : decode cX9_seal 7 = .ok (.ifnonnull 5, 3) := by decide +kernel
theorem dX9_seal_10 : decode cX9_seal 10 = .ok (.iconst (-1), 1) := by decide +kernel
theorem dX9_seal_11 : decode cX9_seal 11 = .ok (.ireturn, 1) := by decide +kernel
theorem dX9_seal_12 : decode cX9_seal 12 = .ok (.iload_n 2, 1) := by decide +kernel
theorem dX9_seal_13 : decode cX9_seal 13 = .ok (.tableswitch 42 0 2 #[27, 32, 37], 27) := by decide +kernel
theorem dX9_seal_40 : decode cX9_seal 40 = .ok (.aload_n 3, 1) := by decide +kernel
theorem dX9_seal_41 : decode cX9_seal 41 = .ok (.invokevirtual 280, 3) := by decide +kernel
theorem dX9_seal_44 : decode cX9_seal 44 = .ok (.ireturn, 1) := by decide +kernel
theorem dX9_seal_45 : decode cX9_seal 45 = .ok (.aload_n 3, 1) := by decide +kernel
theorem dX9_seal_46 : decode cX9_seal 46 = .ok (.invokevirtual 283, 3) := by decide +kernel
theorem dX9_seal_49 : decode cX9_seal 49 = .ok (.ireturn, 1) := by decide +kernel
theorem dX9_seal_50 : decode cX9_seal 50 = .ok (.aload_n 3, 1) := by decide +kernel
theorem dX9_seal_51 : decode cX9_seal 51 = .ok (.invokevirtual 286, 3) := by decide +kernel
theorem dX9_seal_54 : decode cX9_seal 54 = .ok (.ireturn, 1) := by decide +kernel
theorem dX9_seal_55 : decode cX9_seal 55 = .ok (.iconst (-1), 1) := by decide +kernel
theorem dX9_seal_56 : decode cX9_seal 56 = .ok (.ireturn, 1) := by decide +kernel
theorem dX9_look_0 : decode cX9_look 0 = .ok (.iload_n 1, 1) := by decide +kernel
theorem dX9_look_1 : decode cX9_look 1 = .ok (.tableswitch 124 0 7 #[47, 68, 86, 94, 100, 107, 114, 119], 47) := by decide +kernel
theorem dX9_look_48 : decode cX9_look 48 = .ok (.iload_n 2, 1) := by decide +kernel
theorem dX9_look_49 : decode cX9_look 49 = .ok (.invokestatic 98, 3) := by decide +kernel
theorem dX9_look_52 : decode cX9_look 52 = .ok (.ifCond .eq 15, 3) := by decide +kernel
theorem dX9_look_55 : decode cX9_look 55 = .ok (.aload_n 0, 1) := by decide +kernel
theorem dX9_look_56 : decode cX9_look 56 = .ok (.getfield 35, 3) := by decide +kernel
theorem dX9_look_59 : decode cX9_look 59 = .ok (.getfield 289, 3) := by decide +kernel
theorem dX9_look_62 : decode cX9_look 62 = .ok (.iload_n 2, 1) := by decide +kernel
theorem dX9_look_63 : decode cX9_look 63 = .ok (.iaload, 1) := by decide +kernel
theorem dX9_look_64 : decode cX9_look 64 = .ok (.goto 4, 3) := by decide +kernel
theorem dX9_look_67 : decode cX9_look 67 = .ok (.iconst (-1), 1) := by decide +kernel
theorem dX9_look_68 : decode cX9_look 68 = .ok (.ireturn, 1) := by decide +kernel
theorem dX9_look_69 : decode cX9_look 69 = .ok (.iload_n 2, 1) := by decide +kernel
theorem dX9_look_70 : decode cX9_look 70 = .ok (.invokestatic 72, 3) := by decide +kernel
theorem dX9_look_73 : decode cX9_look 73 = .ok (.ifCond .eq 12, 3) := by decide +kernel
theorem dX9_look_76 : decode cX9_look 76 = .ok (.aload_n 0, 1) := by decide +kernel
theorem dX9_look_77 : decode cX9_look 77 = .ok (.getfield 9, 3) := by decide +kernel
theorem dX9_look_80 : decode cX9_look 80 = .ok (.iload_n 2, 1) := by decide +kernel
theorem dX9_look_81 : decode cX9_look 81 = .ok (.iaload, 1) := by decide +kernel
theorem dX9_look_82 : decode cX9_look 82 = .ok (.goto 4, 3) := by decide +kernel
theorem dX9_look_85 : decode cX9_look 85 = .ok (.iconst (-1), 1) := by decide +kernel
theorem dX9_look_86 : decode cX9_look 86 = .ok (.ireturn, 1) := by decide +kernel
theorem dX9_look_87 : decode cX9_look 87 = .ok (.aload_n 0, 1) := by decide +kernel
theorem dX9_look_88 : decode cX9_look 88 = .ok (.getfield 35, 3) := by decide +kernel
theorem dX9_look_91 : decode cX9_look 91 = .ok (.getfield 292, 3) := by decide +kernel
theorem dX9_look_94 : decode cX9_look 94 = .ok (.ireturn, 1) := by decide +kernel
theorem dX9_look_95 : decode cX9_look 95 = .ok (.aload_n 0, 1) := by decide +kernel
theorem dX9_look_96 : decode cX9_look 96 = .ok (.iload_n 2, 1) := by decide +kernel
theorem dX9_look_97 : decode cX9_look 97 = .ok (.invokevirtual 295, 3) := by decide +kernel
theorem dX9_look_100 : decode cX9_look 100 = .ok (.ireturn, 1) := by decide +kernel
theorem dX9_look_101 : decode cX9_look 101 = .ok (.aload_n 0, 1) := by decide +kernel
theorem dX9_look_102 : decode cX9_look 102 = .ok (.iload_n 2, 1) := by decide +kernel
theorem dX9_look_103 : decode cX9_look 103 = .ok (.iconst 0, 1) := by decide +kernel
theorem dX9_look_104 : decode cX9_look 104 = .ok (.invokevirtual 299, 3) := by decide +kernel
theorem dX9_look_107 : decode cX9_look 107 = .ok (.ireturn, 1) := by decide +kernel
theorem dX9_look_108 : decode cX9_look 108 = .ok (.aload_n 0, 1) := by decide +kernel
theorem dX9_look_109 : decode cX9_look 109 = .ok (.iload_n 2, 1) := by decide +kernel
theorem dX9_look_110 : decode cX9_look 110 = .ok (.iconst 1, 1) := by decide +kernel
theorem dX9_look_111 : decode cX9_look 111 = .ok (.invokevirtual 299, 3) := by decide +kernel
theorem dX9_look_114 : decode cX9_look 114 = .ok (.ireturn, 1) := by decide +kernel
theorem dX9_look_115 : decode cX9_look 115 = .ok (.aload_n 0, 1) := by decide +kernel
theorem dX9_look_116 : decode cX9_look 116 = .ok (.getfield 45, 3) := by decide +kernel
theorem dX9_look_119 : decode cX9_look 119 = .ok (.ireturn, 1) := by decide +kernel
theorem dX9_look_120 : decode cX9_look 120 = .ok (.aload_n 0, 1) := by decide +kernel
theorem dX9_look_121 : decode cX9_look 121 = .ok (.getfield 53, 3) := by decide +kernel
theorem dX9_look_124 : decode cX9_look 124 = .ok (.ireturn, 1) := by decide +kernel
theorem dX9_look_125 : decode cX9_look 125 = .ok (.iconst (-1), 1) := by decide +kernel
theorem dX9_look_126 : decode cX9_look 126 = .ok (.ireturn, 1) := by decide +kernel
theorem dX9_isPrincipal_0 : decode cX9_isPrincipal 0 = .ok (.iload_n 0, 1) := by decide +kernel
theorem dX9_isPrincipal_1 : decode cX9_isPrincipal 1 = .ok (.ifCond .lt 13, 3) := by decide +kernel
theorem dX9_isPrincipal_4 : decode cX9_isPrincipal 4 = .ok (.iload_n 0, 1) := by decide +kernel
theorem dX9_isPrincipal_5 : decode cX9_isPrincipal 5 = .ok (.bipush 6, 2) := by decide +kernel
theorem dX9_isPrincipal_7 : decode cX9_isPrincipal 7 = .ok (.if_icmp .ge 7, 3) := by decide +kernel
theorem dX9_isPrincipal_10 : decode cX9_isPrincipal 10 = .ok (.iconst 1, 1) := by decide +kernel
theorem dX9_isPrincipal_11 : decode cX9_isPrincipal 11 = .ok (.goto 4, 3) := by decide +kernel
theorem dX9_isPrincipal_14 : decode cX9_isPrincipal 14 = .ok (.iconst 0, 1) := by decide +kernel
theorem dX9_isPrincipal_15 : decode cX9_isPrincipal 15 = .ok (.ireturn, 1) := by decide +kernel
theorem dX9_isUser_0 : decode cX9_isUser 0 = .ok (.iload_n 0, 1) := by decide +kernel
theorem dX9_isUser_1 : decode cX9_isUser 1 = .ok (.iconst 2, 1) := by decide +kernel
theorem dX9_isUser_2 : decode cX9_isUser 2 = .ok (.if_icmp .lt 13, 3) := by decide +kernel
theorem dX9_isUser_5 : decode cX9_isUser 5 = .ok (.iload_n 0, 1) := by decide +kernel
theorem dX9_isUser_6 : decode cX9_isUser 6 = .ok (.bipush 6, 2) := by decide +kernel
theorem dX9_isUser_8 : decode cX9_isUser 8 = .ok (.if_icmp .ge 7, 3) := by decide +kernel
theorem dX9_isUser_11 : decode cX9_isUser 11 = .ok (.iconst 1, 1) := by decide +kernel
theorem dX9_isUser_12 : decode cX9_isUser 12 = .ok (.goto 4, 3) := by decide +kernel
theorem dX9_isUser_15 : decode cX9_isUser 15 = .ok (.iconst 0, 1) := by decide +kernel
theorem dX9_isUser_16 : decode cX9_isUser 16 = .ok (.ireturn, 1) := by decide +kernel
theorem dX9_isTarget_0 : decode cX9_isTarget 0 = .ok (.iload_n 0, 1) := by decide +kernel
theorem dX9_isTarget_1 : decode cX9_isTarget 1 = .ok (.ifCond .lt 12, 3) := by decide +kernel
theorem dX9_isTarget_4 : decode cX9_isTarget 4 = .ok (.iload_n 0, 1) := by decide +kernel
theorem dX9_isTarget_5 : decode cX9_isTarget 5 = .ok (.iconst 2, 1) := by decide +kernel
theorem dX9_isTarget_6 : decode cX9_isTarget 6 = .ok (.if_icmp .ge 7, 3) := by decide +kernel
theorem dX9_isTarget_9 : decode cX9_isTarget 9 = .ok (.iconst 1, 1) := by decide +kernel
theorem dX9_isTarget_10 : decode cX9_isTarget 10 = .ok (.goto 4, 3) := by decide +kernel
theorem dX9_isTarget_13 : decode cX9_isTarget 13 = .ok (.iconst 0, 1) := by decide +kernel
theorem dX9_isTarget_14 : decode cX9_isTarget 14 = .ok (.ireturn, 1) := by decide +kernel
theorem dX9_isFile_0 : decode cX9_isFile 0 = .ok (.iload_n 0, 1) := by decide +kernel
theorem dX9_isFile_1 : decode cX9_isFile 1 = .ok (.ifCond .lt 12, 3) := by decide +kernel
theorem dX9_isFile_4 : decode cX9_isFile 4 = .ok (.iload_n 0, 1) := by decide +kernel
theorem dX9_isFile_5 : decode cX9_isFile 5 = .ok (.iconst 3, 1) := by decide +kernel
theorem dX9_isFile_6 : decode cX9_isFile 6 = .ok (.if_icmp .ge 7, 3) := by decide +kernel
theorem dX9_isFile_9 : decode cX9_isFile 9 = .ok (.iconst 1, 1) := by decide +kernel
theorem dX9_isFile_10 : decode cX9_isFile 10 = .ok (.goto 4, 3) := by decide +kernel
theorem dX9_isFile_13 : decode cX9_isFile 13 = .ok (.iconst 0, 1) := by decide +kernel
theorem dX9_isFile_14 : decode cX9_isFile 14 = .ok (.ireturn, 1) := by decide +kernel
theorem dX9_isUserInBook_0 : decode cX9_isUserInBook 0 = .ok (.iload_n 1, 1) := by decide +kernel
theorem dX9_isUserInBook_1 : decode cX9_isUserInBook 1 = .ok (.invokestatic 302, 3) := by decide +kernel
theorem dX9_isUserInBook_4 : decode cX9_isUserInBook 4 = .ok (.ifCond .eq 18, 3) := by decide +kernel
theorem dX9_isUserInBook_7 : decode cX9_isUserInBook 7 = .ok (.aload_n 0, 1) := by decide +kernel
theorem dX9_isUserInBook_8 : decode cX9_isUserInBook 8 = .ok (.getfield 19, 3) := by decide +kernel
theorem dX9_isUserInBook_11 : decode cX9_isUserInBook 11 = .ok (.iload_n 1, 1) := by decide +kernel
theorem dX9_isUserInBook_12 : decode cX9_isUserInBook 12 = .ok (.invokevirtual 88, 3) := by decide +kernel
theorem dX9_isUserInBook_15 : decode cX9_isUserInBook 15 = .ok (.ifCond .eq 7, 3) := by decide +kernel
theorem dX9_isUserInBook_18 : decode cX9_isUserInBook 18 = .ok (.iconst 1, 1) := by decide +kernel
theorem dX9_isUserInBook_19 : decode cX9_isUserInBook 19 = .ok (.goto 4, 3) := by decide +kernel
theorem dX9_isUserInBook_22 : decode cX9_isUserInBook 22 = .ok (.iconst 0, 1) := by decide +kernel
theorem dX9_isUserInBook_23 : decode cX9_isUserInBook 23 = .ok (.ireturn, 1) := by decide +kernel
theorem dX9_isTargetInBook_0 : decode cX9_isTargetInBook 0 = .ok (.iload_n 1, 1) := by decide +kernel
theorem dX9_isTargetInBook_1 : decode cX9_isTargetInBook 1 = .ok (.invokestatic 116, 3) := by decide +kernel
theorem dX9_isTargetInBook_4 : decode cX9_isTargetInBook 4 = .ok (.ifCond .eq 18, 3) := by decide +kernel
theorem dX9_isTargetInBook_7 : decode cX9_isTargetInBook 7 = .ok (.aload_n 0, 1) := by decide +kernel
theorem dX9_isTargetInBook_8 : decode cX9_isTargetInBook 8 = .ok (.getfield 19, 3) := by decide +kernel
theorem dX9_isTargetInBook_11 : decode cX9_isTargetInBook 11 = .ok (.iload_n 1, 1) := by decide +kernel
theorem dX9_isTargetInBook_12 : decode cX9_isTargetInBook 12 = .ok (.invokevirtual 88, 3) := by decide +kernel
theorem dX9_isTargetInBook_15 : decode cX9_isTargetInBook 15 = .ok (.ifCond .eq 7, 3) := by decide +kernel
theorem dX9_isTargetInBook_18 : decode cX9_isTargetInBook 18 = .ok (.iconst 1, 1) := by decide +kernel
theorem dX9_isTargetInBook_19 : decode cX9_isTargetInBook 19 = .ok (.goto 4, 3) := by decide +kernel
theorem dX9_isTargetInBook_22 : decode cX9_isTargetInBook 22 = .ok (.iconst 0, 1) := by decide +kernel
theorem dX9_isTargetInBook_23 : decode cX9_isTargetInBook 23 = .ok (.ireturn, 1) := by decide +kernel
theorem dX9_isStolen_0 : decode cX9_isStolen 0 = .ok (.iload_n 1, 1) := by decide +kernel
theorem dX9_isStolen_1 : decode cX9_isStolen 1 = .ok (.ifCond .lt 24, 3) := by decide +kernel
theorem dX9_isStolen_4 : decode cX9_isStolen 4 = .ok (.iload_n 1, 1) := by decide +kernel
theorem dX9_isStolen_5 : decode cX9_isStolen 5 = .ok (.aload_n 0, 1) := by decide +kernel
theorem dX9_isStolen_6 : decode cX9_isStolen 6 = .ok (.getfield 53, 3) := by decide +kernel
theorem dX9_isStolen_9 : decode cX9_isStolen 9 = .ok (.if_icmp .ge 16, 3) := by decide +kernel
theorem dX9_isStolen_12 : decode cX9_isStolen 12 = .ok (.aload_n 0, 1) := by decide +kernel
theorem dX9_isStolen_13 : decode cX9_isStolen 13 = .ok (.getfield 49, 3) := by decide +kernel
theorem dX9_isStolen_16 : decode cX9_isStolen 16 = .ok (.iload_n 1, 1) := by decide +kernel
theorem dX9_isStolen_17 : decode cX9_isStolen 17 = .ok (.baload, 1) := by decide +kernel
theorem dX9_isStolen_18 : decode cX9_isStolen 18 = .ok (.ifCond .eq 7, 3) := by decide +kernel
theorem dX9_isStolen_21 : decode cX9_isStolen 21 = .ok (.iconst 1, 1) := by decide +kernel
theorem dX9_isStolen_22 : decode cX9_isStolen 22 = .ok (.goto 4, 3) := by decide +kernel
theorem dX9_isStolen_25 : decode cX9_isStolen 25 = .ok (.iconst 0, 1) := by decide +kernel
theorem dX9_isStolen_26 : decode cX9_isStolen 26 = .ok (.ireturn, 1) := by decide +kernel
theorem dX9_userAt_0 : decode cX9_userAt 0 = .ok (.iload_n 1, 1) := by decide +kernel
theorem dX9_userAt_1 : decode cX9_userAt 1 = .ok (.invokestatic 302, 3) := by decide +kernel
theorem dX9_userAt_4 : decode cX9_userAt 4 = .ok (.ifCond .eq 14, 3) := by decide +kernel
theorem dX9_userAt_7 : decode cX9_userAt 7 = .ok (.aload_n 0, 1) := by decide +kernel
theorem dX9_userAt_8 : decode cX9_userAt 8 = .ok (.getfield 28, 3) := by decide +kernel
theorem dX9_userAt_11 : decode cX9_userAt 11 = .ok (.iload_n 1, 1) := by decide +kernel
theorem dX9_userAt_12 : decode cX9_userAt 12 = .ok (.iconst 2, 1) := by decide +kernel
theorem dX9_userAt_13 : decode cX9_userAt 13 = .ok (.isub, 1) := by decide +kernel
theorem dX9_userAt_14 : decode cX9_userAt 14 = .ok (.aaload, 1) := by decide +kernel
theorem dX9_userAt_15 : decode cX9_userAt 15 = .ok (.goto 4, 3) := by decide +kernel
theorem dX9_userAt_18 : decode cX9_userAt 18 = .ok (.aconst_null, 1) := by decide +kernel
theorem dX9_userAt_19 : decode cX9_userAt 19 = .ok (.areturn, 1) := by decide +kernel
theorem dX9_near_0 : decode cX9_near 0 = .ok (.iload_n 1, 1) := by decide +kernel
theorem dX9_near_1 : decode cX9_near 1 = .ok (.i2l, 1) := by decide +kernel
theorem dX9_near_2 : decode cX9_near 2 = .ok (.iload_n 2, 1) := by decide +kernel
theorem dX9_near_3 : decode cX9_near 3 = .ok (.i2l, 1) := by decide +kernel
theorem dX9_near_4 : decode cX9_near 4 = .ok (.lsub, 1) := by decide +kernel
theorem dX9_near_5 : decode cX9_near 5 = .ok (.invokestatic 305, 3) := by decide +kernel
theorem dX9_near_8 : decode cX9_near 8 = .ok (.aload_n 0, 1) := by decide +kernel
theorem dX9_near_9 : decode cX9_near 9 = .ok (.getfield 68, 3) := by decide +kernel
theorem dX9_near_12 : decode cX9_near 12 = .ok (.i2l, 1) := by decide +kernel
theorem dX9_near_13 : decode cX9_near 13 = .ok (.lcmp, 1) := by decide +kernel
theorem dX9_near_14 : decode cX9_near 14 = .ok (.ifCond .gt 7, 3) := by decide +kernel
theorem dX9_near_17 : decode cX9_near 17 = .ok (.iconst 1, 1) := by decide +kernel
theorem dX9_near_18 : decode cX9_near 18 = .ok (.goto 4, 3) := by decide +kernel
theorem dX9_near_21 : decode cX9_near 21 = .ok (.iconst 0, 1) := by decide +kernel
theorem dX9_near_22 : decode cX9_near 22 = .ok (.ireturn, 1) := by decide +kernel
theorem dX9_hasRoom_0 : decode cX9_hasRoom 0 = .ok (.aload_n 0, 1) := by decide +kernel
theorem dX9_hasRoom_1 : decode cX9_hasRoom 1 = .ok (.getfield 53, 3) := by decide +kernel
theorem dX9_hasRoom_4 : decode cX9_hasRoom 4 = .ok (.iload_n 1, 1) := by decide +kernel
theorem dX9_hasRoom_5 : decode cX9_hasRoom 5 = .ok (.iadd, 1) := by decide +kernel
theorem dX9_hasRoom_6 : decode cX9_hasRoom 6 = .ok (.sipush 200, 3) := by decide +kernel
theorem dX9_hasRoom_9 : decode cX9_hasRoom 9 = .ok (.if_icmp .gt 19, 3) := by decide +kernel
theorem dX9_hasRoom_12 : decode cX9_hasRoom 12 = .ok (.aload_n 0, 1) := by decide +kernel
theorem dX9_hasRoom_13 : decode cX9_hasRoom 13 = .ok (.getfield 45, 3) := by decide +kernel
theorem dX9_hasRoom_16 : decode cX9_hasRoom 16 = .ok (.iload_n 2, 1) := by decide +kernel
theorem dX9_hasRoom_17 : decode cX9_hasRoom 17 = .ok (.iadd, 1) := by decide +kernel
theorem dX9_hasRoom_18 : decode cX9_hasRoom 18 = .ok (.sipush 150, 3) := by decide +kernel
theorem dX9_hasRoom_21 : decode cX9_hasRoom 21 = .ok (.if_icmp .gt 7, 3) := by decide +kernel
theorem dX9_hasRoom_24 : decode cX9_hasRoom 24 = .ok (.iconst 1, 1) := by decide +kernel
theorem dX9_hasRoom_25 : decode cX9_hasRoom 25 = .ok (.goto 4, 3) := by decide +kernel
theorem dX9_hasRoom_28 : decode cX9_hasRoom 28 = .ok (.iconst 0, 1) := by decide +kernel
theorem dX9_hasRoom_29 : decode cX9_hasRoom 29 = .ok (.ireturn, 1) := by decide +kernel
theorem dX9_makeKey_0 : decode cX9_makeKey 0 = .ok (.aload_n 0, 1) := by decide +kernel
theorem dX9_makeKey_1 : decode cX9_makeKey 1 = .ok (.getfield 53, 3) := by decide +kernel
theorem dX9_makeKey_4 : decode cX9_makeKey 4 = .ok (.istore_n 1, 1) := by decide +kernel
theorem dX9_makeKey_5 : decode cX9_makeKey 5 = .ok (.aload_n 0, 1) := by decide +kernel
theorem dX9_makeKey_6 : decode cX9_makeKey 6 = .ok (.dup, 1) := by decide +kernel
theorem dX9_makeKey_7 : decode cX9_makeKey 7 = .ok (.getfield 53, 3) := by decide +kernel
theorem dX9_makeKey_10 : decode cX9_makeKey 10 = .ok (.iconst 1, 1) := by decide +kernel
theorem dX9_makeKey_11 : decode cX9_makeKey 11 = .ok (.iadd, 1) := by decide +kernel
theorem dX9_makeKey_12 : decode cX9_makeKey 12 = .ok (.putfield 53, 3) := by decide +kernel
theorem dX9_makeKey_15 : decode cX9_makeKey 15 = .ok (.iload_n 1, 1) := by decide +kernel
theorem dX9_makeKey_16 : decode cX9_makeKey 16 = .ok (.ireturn, 1) := by decide +kernel
theorem dX9_makeNonce_0 : decode cX9_makeNonce 0 = .ok (.aload_n 0, 1) := by decide +kernel
theorem dX9_makeNonce_1 : decode cX9_makeNonce 1 = .ok (.dup, 1) := by decide +kernel
theorem dX9_makeNonce_2 : decode cX9_makeNonce 2 = .ok (.getfield 56, 3) := by decide +kernel
theorem dX9_makeNonce_5 : decode cX9_makeNonce 5 = .ok (.iconst 1, 1) := by decide +kernel
theorem dX9_makeNonce_6 : decode cX9_makeNonce 6 = .ok (.iadd, 1) := by decide +kernel
theorem dX9_makeNonce_7 : decode cX9_makeNonce 7 = .ok (.putfield 56, 3) := by decide +kernel
theorem dX9_makeNonce_10 : decode cX9_makeNonce 10 = .ok (.aload_n 0, 1) := by decide +kernel
theorem dX9_makeNonce_11 : decode cX9_makeNonce 11 = .ok (.getfield 56, 3) := by decide +kernel
theorem dX9_makeNonce_14 : decode cX9_makeNonce 14 = .ok (.ireturn, 1) := by decide +kernel
theorem dX9_keep_0 : decode cX9_keep 0 = .ok (.aload_n 0, 1) := by decide +kernel
theorem dX9_keep_1 : decode cX9_keep 1 = .ok (.getfield 45, 3) := by decide +kernel
theorem dX9_keep_4 : decode cX9_keep 4 = .ok (.istore_n 2, 1) := by decide +kernel
theorem dX9_keep_5 : decode cX9_keep 5 = .ok (.aload_n 0, 1) := by decide +kernel
theorem dX9_keep_6 : decode cX9_keep 6 = .ok (.getfield 41, 3) := by decide +kernel
theorem dX9_keep_9 : decode cX9_keep 9 = .ok (.iload_n 2, 1) := by decide +kernel
theorem dX9_keep_10 : decode cX9_keep 10 = .ok (.aload_n 1, 1) := by decide +kernel
theorem dX9_keep_11 : decode cX9_keep 11 = .ok (.aastore, 1) := by decide +kernel
theorem dX9_keep_12 : decode cX9_keep 12 = .ok (.aload_n 0, 1) := by decide +kernel
theorem dX9_keep_13 : decode cX9_keep 13 = .ok (.dup, 1) := by decide +kernel
theorem dX9_keep_14 : decode cX9_keep 14 = .ok (.getfield 45, 3) := by decide +kernel
theorem dX9_keep_17 : decode cX9_keep 17 = .ok (.iconst 1, 1) := by decide +kernel
theorem dX9_keep_18 : decode cX9_keep 18 = .ok (.iadd, 1) := by decide +kernel
theorem dX9_keep_19 : decode cX9_keep 19 = .ok (.putfield 45, 3) := by decide +kernel
theorem dX9_keep_22 : decode cX9_keep 22 = .ok (.iload_n 2, 1) := by decide +kernel
theorem dX9_keep_23 : decode cX9_keep 23 = .ok (.ireturn, 1) := by decide +kernel
theorem dX9_sealAt_0 : decode cX9_sealAt 0 = .ok (.iload_n 1, 1) := by decide +kernel
theorem dX9_sealAt_1 : decode cX9_sealAt 1 = .ok (.ifCond .lt 20, 3) := by decide +kernel
theorem dX9_sealAt_4 : decode cX9_sealAt 4 = .ok (.iload_n 1, 1) := by decide +kernel
theorem dX9_sealAt_5 : decode cX9_sealAt 5 = .ok (.aload_n 0, 1) := by decide +kernel
theorem dX9_sealAt_6 : decode cX9_sealAt 6 = .ok (.getfield 45, 3) := by decide +kernel
theorem dX9_sealAt_9 : decode cX9_sealAt 9 = .ok (.if_icmp .ge 12, 3) := by decide +kernel
theorem dX9_sealAt_12 : decode cX9_sealAt 12 = .ok (.aload_n 0, 1) := by decide +kernel
theorem dX9_sealAt_13 : decode cX9_sealAt 13 = .ok (.getfield 41, 3) := by decide +kernel
theorem dX9_sealAt_16 : decode cX9_sealAt 16 = .ok (.iload_n 1, 1) := by decide +kernel
theorem dX9_sealAt_17 : decode cX9_sealAt 17 = .ok (.aaload, 1) := by decide +kernel
theorem dX9_sealAt_18 : decode cX9_sealAt 18 = .ok (.goto 4, 3) := by decide +kernel
theorem dX9_sealAt_21 : decode cX9_sealAt 21 = .ok (.aconst_null, 1) := by decide +kernel
theorem dX9_sealAt_22 : decode cX9_sealAt 22 = .ok (.areturn, 1) := by decide +kernel
theorem dX9_open_0 : decode cX9_open 0 = .ok (.aload_n 0, 1) := by decide +kernel
theorem dX9_open_1 : decode cX9_open 1 = .ok (.iload_n 1, 1) := by decide +kernel
theorem dX9_open_2 : decode cX9_open 2 = .ok (.invokevirtual 155, 3) := by decide +kernel
theorem dX9_open_5 : decode cX9_open 5 = .ok (.astore_n 3, 1) := by decide +kernel
theorem dX9_open_6 : decode cX9_open 6 = .ok (.aload_n 3, 1) := by decide +kernel
theorem dX9_open_7 : decode cX9_open 7 = .ok (.ifnull 15, 3) := by decide +kernel
theorem dX9_open_10 : decode cX9_open 10 = .ok (.aload_n 3, 1) := by decide +kernel
theorem dX9_open_11 : decode cX9_open 11 = .ok (.getfield 267, 3) := by decide +kernel
theorem dX9_open_14 : decode cX9_open 14 = .ok (.iload_n 2, 1) := by decide +kernel
theorem dX9_open_15 : decode cX9_open 15 = .ok (.if_icmp .ne 7, 3) := by decide +kernel
theorem dX9_open_18 : decode cX9_open 18 = .ok (.aload_n 3, 1) := by decide +kernel
theorem dX9_open_19 : decode cX9_open 19 = .ok (.goto 4, 3) := by decide +kernel
theorem dX9_open_22 : decode cX9_open 22 = .ok (.aconst_null, 1) := by decide +kernel
theorem dX9_open_23 : decode cX9_open 23 = .ok (.areturn, 1) := by decide +kernel
theorem dX9_openProof_0 : decode cX9_openProof 0 = .ok (.aload_n 0, 1) := by decide +kernel
theorem dX9_openProof_1 : decode cX9_openProof 1 = .ok (.iload_n 1, 1) := by decide +kernel
theorem dX9_openProof_2 : decode cX9_openProof 2 = .ok (.iload_n 2, 1) := by decide +kernel
theorem dX9_openProof_3 : decode cX9_openProof 3 = .ok (.invokevirtual 309, 3) := by decide +kernel
theorem dX9_openProof_6 : decode cX9_openProof 6 = .ok (.astore 4, 2) := by decide +kernel
theorem dX9_openProof_8 : decode cX9_openProof 8 = .ok (.aload 4, 2) := by decide +kernel
theorem dX9_openProof_10 : decode cX9_openProof 10 = .ok (.instanceof 126, 3) := by decide +kernel
theorem dX9_openProof_13 : decode cX9_openProof 13 = .ok (.ifCond .eq 11, 3) := by decide +kernel
theorem dX9_openProof_16 : decode cX9_openProof 16 = .ok (.aload 4, 2) := by decide +kernel
theorem dX9_openProof_18 : decode cX9_openProof 18 = .ok (.checkcast 126, 3) := by decide +kernel
theorem dX9_openProof_21 : decode cX9_openProof 21 = .ok (.astore_n 3, 1) := by decide +kernel
theorem dX9_openProof_22 : decode cX9_openProof 22 = .ok (.aload_n 3, 1) := by decide +kernel
theorem dX9_openProof_23 : decode cX9_openProof 23 = .ok (.areturn, 1) := by decide +kernel
theorem dX9_openProof_24 : decode cX9_openProof 24 = .ok (.aconst_null, 1) := by decide +kernel
theorem dX9_openProof_25 : decode cX9_openProof 25 = .ok (.areturn, 1) := by decide +kernel
theorem dX9_openTicket_0 : decode cX9_openTicket 0 = .ok (.aload_n 0, 1) := by decide +kernel
theorem dX9_openTicket_1 : decode cX9_openTicket 1 = .ok (.iload_n 1, 1) := by decide +kernel
theorem dX9_openTicket_2 : decode cX9_openTicket 2 = .ok (.iload_n 2, 1) := by decide +kernel
theorem dX9_openTicket_3 : decode cX9_openTicket 3 = .ok (.invokevirtual 309, 3) := by decide +kernel
theorem dX9_openTicket_6 : decode cX9_openTicket 6 = .ok (.astore 4, 2) := by decide +kernel
theorem dX9_openTicket_8 : decode cX9_openTicket 8 = .ok (.aload 4, 2) := by decide +kernel
theorem dX9_openTicket_10 : decode cX9_openTicket 10 = .ok (.instanceof 221, 3) := by decide +kernel
theorem dX9_openTicket_13 : decode cX9_openTicket 13 = .ok (.ifCond .eq 11, 3) := by decide +kernel
theorem dX9_openTicket_16 : decode cX9_openTicket 16 = .ok (.aload 4, 2) := by decide +kernel
theorem dX9_openTicket_18 : decode cX9_openTicket 18 = .ok (.checkcast 221, 3) := by decide +kernel
theorem dX9_openTicket_21 : decode cX9_openTicket 21 = .ok (.astore_n 3, 1) := by decide +kernel
theorem dX9_openTicket_22 : decode cX9_openTicket 22 = .ok (.aload_n 3, 1) := by decide +kernel
theorem dX9_openTicket_23 : decode cX9_openTicket 23 = .ok (.areturn, 1) := by decide +kernel
theorem dX9_openTicket_24 : decode cX9_openTicket 24 = .ok (.aconst_null, 1) := by decide +kernel
theorem dX9_openTicket_25 : decode cX9_openTicket 25 = .ok (.areturn, 1) := by decide +kernel
theorem dX9_openPart_0 : decode cX9_openPart 0 = .ok (.aload_n 0, 1) := by decide +kernel
theorem dX9_openPart_1 : decode cX9_openPart 1 = .ok (.iload_n 1, 1) := by decide +kernel
theorem dX9_openPart_2 : decode cX9_openPart 2 = .ok (.iload_n 2, 1) := by decide +kernel
theorem dX9_openPart_3 : decode cX9_openPart 3 = .ok (.invokevirtual 309, 3) := by decide +kernel
theorem dX9_openPart_6 : decode cX9_openPart 6 = .ok (.astore 4, 2) := by decide +kernel
theorem dX9_openPart_8 : decode cX9_openPart 8 = .ok (.aload 4, 2) := by decide +kernel
theorem dX9_openPart_10 : decode cX9_openPart 10 = .ok (.instanceof 167, 3) := by decide +kernel
theorem dX9_openPart_13 : decode cX9_openPart 13 = .ok (.ifCond .eq 11, 3) := by decide +kernel
theorem dX9_openPart_16 : decode cX9_openPart 16 = .ok (.aload 4, 2) := by decide +kernel
theorem dX9_openPart_18 : decode cX9_openPart 18 = .ok (.checkcast 167, 3) := by decide +kernel
theorem dX9_openPart_21 : decode cX9_openPart 21 = .ok (.astore_n 3, 1) := by decide +kernel
theorem dX9_openPart_22 : decode cX9_openPart 22 = .ok (.aload_n 3, 1) := by decide +kernel
theorem dX9_openPart_23 : decode cX9_openPart 23 = .ok (.areturn, 1) := by decide +kernel
theorem dX9_openPart_24 : decode cX9_openPart 24 = .ok (.aconst_null, 1) := by decide +kernel
theorem dX9_openPart_25 : decode cX9_openPart 25 = .ok (.areturn, 1) := by decide +kernel
theorem dX9_openClaim_0 : decode cX9_openClaim 0 = .ok (.aload_n 0, 1) := by decide +kernel
theorem dX9_openClaim_1 : decode cX9_openClaim 1 = .ok (.iload_n 1, 1) := by decide +kernel
theorem dX9_openClaim_2 : decode cX9_openClaim 2 = .ok (.iload_n 2, 1) := by decide +kernel
theorem dX9_openClaim_3 : decode cX9_openClaim 3 = .ok (.invokevirtual 309, 3) := by decide +kernel
theorem dX9_openClaim_6 : decode cX9_openClaim 6 = .ok (.astore 4, 2) := by decide +kernel
theorem dX9_openClaim_8 : decode cX9_openClaim 8 = .ok (.aload 4, 2) := by decide +kernel
theorem dX9_openClaim_10 : decode cX9_openClaim 10 = .ok (.instanceof 140, 3) := by decide +kernel
theorem dX9_openClaim_13 : decode cX9_openClaim 13 = .ok (.ifCond .eq 11, 3) := by decide +kernel
theorem dX9_openClaim_16 : decode cX9_openClaim 16 = .ok (.aload 4, 2) := by decide +kernel
theorem dX9_openClaim_18 : decode cX9_openClaim 18 = .ok (.checkcast 140, 3) := by decide +kernel
theorem dX9_openClaim_21 : decode cX9_openClaim 21 = .ok (.astore_n 3, 1) := by decide +kernel
theorem dX9_openClaim_22 : decode cX9_openClaim 22 = .ok (.aload_n 3, 1) := by decide +kernel
theorem dX9_openClaim_23 : decode cX9_openClaim 23 = .ok (.areturn, 1) := by decide +kernel
theorem dX9_openClaim_24 : decode cX9_openClaim 24 = .ok (.aconst_null, 1) := by decide +kernel
theorem dX9_openClaim_25 : decode cX9_openClaim 25 = .ok (.areturn, 1) := by decide +kernel
theorem dX9_firstEnd_0 : decode cX9_firstEnd 0 = .ok (.iload_n 3, 1) := by decide +kernel
theorem dX9_firstEnd_1 : decode cX9_firstEnd 1 = .ok (.aload_n 0, 1) := by decide +kernel
theorem dX9_firstEnd_2 : decode cX9_firstEnd 2 = .ok (.getfield 19, 3) := by decide +kernel
theorem dX9_firstEnd_5 : decode cX9_firstEnd 5 = .ok (.getfield 95, 3) := by decide +kernel
theorem dX9_firstEnd_8 : decode cX9_firstEnd 8 = .ok (.iload_n 1, 1) := by decide +kernel
theorem dX9_firstEnd_9 : decode cX9_firstEnd 9 = .ok (.iaload, 1) := by decide +kernel
theorem dX9_firstEnd_10 : decode cX9_firstEnd 10 = .ok (.aload_n 0, 1) := by decide +kernel
theorem dX9_firstEnd_11 : decode cX9_firstEnd 11 = .ok (.getfield 19, 3) := by decide +kernel
theorem dX9_firstEnd_14 : decode cX9_firstEnd 14 = .ok (.getfield 95, 3) := by decide +kernel
theorem dX9_firstEnd_17 : decode cX9_firstEnd 17 = .ok (.iload_n 2, 1) := by decide +kernel
theorem dX9_firstEnd_18 : decode cX9_firstEnd 18 = .ok (.iaload, 1) := by decide +kernel
theorem dX9_firstEnd_19 : decode cX9_firstEnd 19 = .ok (.invokestatic 59, 3) := by decide +kernel
theorem dX9_firstEnd_22 : decode cX9_firstEnd 22 = .ok (.invokestatic 59, 3) := by decide +kernel
theorem dX9_firstEnd_25 : decode cX9_firstEnd 25 = .ok (.istore 4, 2) := by decide +kernel
theorem dX9_firstEnd_27 : decode cX9_firstEnd 27 = .ok (.aload_n 0, 1) := by decide +kernel
theorem dX9_firstEnd_28 : decode cX9_firstEnd 28 = .ok (.getfield 9, 3) := by decide +kernel
theorem dX9_firstEnd_31 : decode cX9_firstEnd 31 = .ok (.iconst 0, 1) := by decide +kernel
theorem dX9_firstEnd_32 : decode cX9_firstEnd 32 = .ok (.iaload, 1) := by decide +kernel
theorem dX9_firstEnd_33 : decode cX9_firstEnd 33 = .ok (.iload 4, 2) := by decide +kernel
theorem dX9_firstEnd_35 : decode cX9_firstEnd 35 = .ok (.iadd, 1) := by decide +kernel
theorem dX9_firstEnd_36 : decode cX9_firstEnd 36 = .ok (.ireturn, 1) := by decide +kernel
theorem dX9_makeTicketAndPart_0 : decode cX9_makeTicketAndPart 0 = .ok (.aload_n 0, 1) := by decide +kernel
theorem dX9_makeTicketAndPart_1 : decode cX9_makeTicketAndPart 1 = .ok (.invokevirtual 80, 3) := by decide +kernel
theorem dX9_makeTicketAndPart_4 : decode cX9_makeTicketAndPart 4 = .ok (.istore 7, 2) := by decide +kernel
theorem dX9_makeTicketAndPart_6 : decode cX9_makeTicketAndPart 6 = .ok (.aload_n 0, 1) := by decide +kernel
theorem dX9_makeTicketAndPart_7 : decode cX9_makeTicketAndPart 7 = .ok (.new 221, 3) := by decide +kernel
theorem dX9_makeTicketAndPart_10 : decode cX9_makeTicketAndPart 10 = .ok (.dup, 1) := by decide +kernel
theorem dX9_makeTicketAndPart_11 : decode cX9_makeTicketAndPart 11 = .ok (.aload_n 0, 1) := by decide +kernel
theorem dX9_makeTicketAndPart_12 : decode cX9_makeTicketAndPart 12 = .ok (.getfield 19, 3) := by decide +kernel
theorem dX9_makeTicketAndPart_15 : decode cX9_makeTicketAndPart 15 = .ok (.getfield 192, 3) := by decide +kernel
theorem dX9_makeTicketAndPart_18 : decode cX9_makeTicketAndPart 18 = .ok (.iload_n 2, 1) := by decide +kernel
theorem dX9_makeTicketAndPart_19 : decode cX9_makeTicketAndPart 19 = .ok (.iaload, 1) := by decide +kernel
theorem dX9_makeTicketAndPart_20 : decode cX9_makeTicketAndPart 20 = .ok (.iload_n 1, 1) := by decide +kernel
theorem dX9_makeTicketAndPart_21 : decode cX9_makeTicketAndPart 21 = .ok (.iload 7, 2) := by decide +kernel
theorem dX9_makeTicketAndPart_23 : decode cX9_makeTicketAndPart 23 = .ok (.aload_n 0, 1) := by decide +kernel
theorem dX9_makeTicketAndPart_24 : decode cX9_makeTicketAndPart 24 = .ok (.getfield 9, 3) := by decide +kernel
theorem dX9_makeTicketAndPart_27 : decode cX9_makeTicketAndPart 27 = .ok (.iconst 0, 1) := by decide +kernel
theorem dX9_makeTicketAndPart_28 : decode cX9_makeTicketAndPart 28 = .ok (.iaload, 1) := by decide +kernel
theorem dX9_makeTicketAndPart_29 : decode cX9_makeTicketAndPart 29 = .ok (.iload 5, 2) := by decide +kernel
theorem dX9_makeTicketAndPart_31 : decode cX9_makeTicketAndPart 31 = .ok (.iload 6, 2) := by decide +kernel
theorem dX9_makeTicketAndPart_33 : decode cX9_makeTicketAndPart 33 = .ok (.invokespecial 313, 3) := by decide +kernel
theorem dX9_makeTicketAndPart_36 : decode cX9_makeTicketAndPart 36 = .ok (.invokevirtual 130, 3) := by decide +kernel
theorem dX9_makeTicketAndPart_39 : decode cX9_makeTicketAndPart 39 = .ok (.istore 8, 2) := by decide +kernel
theorem dX9_makeTicketAndPart_41 : decode cX9_makeTicketAndPart 41 = .ok (.aload_n 0, 1) := by decide +kernel
theorem dX9_makeTicketAndPart_42 : decode cX9_makeTicketAndPart 42 = .ok (.new 167, 3) := by decide +kernel
theorem dX9_makeTicketAndPart_45 : decode cX9_makeTicketAndPart 45 = .ok (.dup, 1) := by decide +kernel
theorem dX9_makeTicketAndPart_46 : decode cX9_makeTicketAndPart 46 = .ok (.iload 4, 2) := by decide +kernel
theorem dX9_makeTicketAndPart_48 : decode cX9_makeTicketAndPart 48 = .ok (.iload 7, 2) := by decide +kernel
theorem dX9_makeTicketAndPart_50 : decode cX9_makeTicketAndPart 50 = .ok (.iload_n 3, 1) := by decide +kernel
theorem dX9_makeTicketAndPart_51 : decode cX9_makeTicketAndPart 51 = .ok (.iload_n 2, 1) := by decide +kernel
theorem dX9_makeTicketAndPart_52 : decode cX9_makeTicketAndPart 52 = .ok (.iload 5, 2) := by decide +kernel
theorem dX9_makeTicketAndPart_54 : decode cX9_makeTicketAndPart 54 = .ok (.invokespecial 316, 3) := by decide +kernel
theorem dX9_makeTicketAndPart_57 : decode cX9_makeTicketAndPart 57 = .ok (.invokevirtual 130, 3) := by decide +kernel
theorem dX9_makeTicketAndPart_60 : decode cX9_makeTicketAndPart 60 = .ok (.pop, 1) := by decide +kernel
theorem dX9_makeTicketAndPart_61 : decode cX9_makeTicketAndPart 61 = .ok (.iload 8, 2) := by decide +kernel
theorem dX9_makeTicketAndPart_63 : decode cX9_makeTicketAndPart 63 = .ok (.ireturn, 1) := by decide +kernel
theorem dX9_forgedSeal_0 : decode cX9_forgedSeal 0 = .ok (.iload_n 1, 1) := by decide +kernel
theorem dX9_forgedSeal_1 : decode cX9_forgedSeal 1 = .ok (.tableswitch 71 1 3 #[27, 39, 55], 27) := by decide +kernel
theorem dX9_forgedSeal_28 : decode cX9_forgedSeal 28 = .ok (.new 126, 3) := by decide +kernel
theorem dX9_forgedSeal_31 : decode cX9_forgedSeal 31 = .ok (.dup, 1) := by decide +kernel
theorem dX9_forgedSeal_32 : decode cX9_forgedSeal 32 = .ok (.iload_n 0, 1) := by decide +kernel
theorem dX9_forgedSeal_33 : decode cX9_forgedSeal 33 = .ok (.iload_n 2, 1) := by decide +kernel
theorem dX9_forgedSeal_34 : decode cX9_forgedSeal 34 = .ok (.iload 4, 2) := by decide +kernel
theorem dX9_forgedSeal_36 : decode cX9_forgedSeal 36 = .ok (.invokespecial 128, 3) := by decide +kernel
theorem dX9_forgedSeal_39 : decode cX9_forgedSeal 39 = .ok (.areturn, 1) := by decide +kernel
theorem dX9_forgedSeal_40 : decode cX9_forgedSeal 40 = .ok (.new 221, 3) := by decide +kernel
theorem dX9_forgedSeal_43 : decode cX9_forgedSeal 43 = .ok (.dup, 1) := by decide +kernel
theorem dX9_forgedSeal_44 : decode cX9_forgedSeal 44 = .ok (.iload_n 0, 1) := by decide +kernel
theorem dX9_forgedSeal_45 : decode cX9_forgedSeal 45 = .ok (.iload_n 2, 1) := by decide +kernel
theorem dX9_forgedSeal_46 : decode cX9_forgedSeal 46 = .ok (.iload_n 3, 1) := by decide +kernel
theorem dX9_forgedSeal_47 : decode cX9_forgedSeal 47 = .ok (.iconst 0, 1) := by decide +kernel
theorem dX9_forgedSeal_48 : decode cX9_forgedSeal 48 = .ok (.iload 4, 2) := by decide +kernel
theorem dX9_forgedSeal_50 : decode cX9_forgedSeal 50 = .ok (.iload 4, 2) := by decide +kernel
theorem dX9_forgedSeal_52 : decode cX9_forgedSeal 52 = .ok (.invokespecial 313, 3) := by decide +kernel
theorem dX9_forgedSeal_55 : decode cX9_forgedSeal 55 = .ok (.areturn, 1) := by decide +kernel
theorem dX9_forgedSeal_56 : decode cX9_forgedSeal 56 = .ok (.new 167, 3) := by decide +kernel
theorem dX9_forgedSeal_59 : decode cX9_forgedSeal 59 = .ok (.dup, 1) := by decide +kernel
theorem dX9_forgedSeal_60 : decode cX9_forgedSeal 60 = .ok (.iload_n 0, 1) := by decide +kernel
theorem dX9_forgedSeal_61 : decode cX9_forgedSeal 61 = .ok (.iload_n 3, 1) := by decide +kernel
theorem dX9_forgedSeal_62 : decode cX9_forgedSeal 62 = .ok (.iload 4, 2) := by decide +kernel
theorem dX9_forgedSeal_64 : decode cX9_forgedSeal 64 = .ok (.iconst 1, 1) := by decide +kernel
theorem dX9_forgedSeal_65 : decode cX9_forgedSeal 65 = .ok (.ldc_w 319, 3) := by decide +kernel
theorem dX9_forgedSeal_68 : decode cX9_forgedSeal 68 = .ok (.invokespecial 316, 3) := by decide +kernel
theorem dX9_forgedSeal_71 : decode cX9_forgedSeal 71 = .ok (.areturn, 1) := by decide +kernel
theorem dX9_forgedSeal_72 : decode cX9_forgedSeal 72 = .ok (.new 140, 3) := by decide +kernel
theorem dX9_forgedSeal_75 : decode cX9_forgedSeal 75 = .ok (.dup, 1) := by decide +kernel
theorem dX9_forgedSeal_76 : decode cX9_forgedSeal 76 = .ok (.iload_n 0, 1) := by decide +kernel
theorem dX9_forgedSeal_77 : decode cX9_forgedSeal 77 = .ok (.iload_n 2, 1) := by decide +kernel
theorem dX9_forgedSeal_78 : decode cX9_forgedSeal 78 = .ok (.iload 4, 2) := by decide +kernel
theorem dX9_forgedSeal_80 : decode cX9_forgedSeal 80 = .ok (.iconst 0, 1) := by decide +kernel
theorem dX9_forgedSeal_81 : decode cX9_forgedSeal 81 = .ok (.new 145, 3) := by decide +kernel
theorem dX9_forgedSeal_84 : decode cX9_forgedSeal 84 = .ok (.dup, 1) := by decide +kernel
theorem dX9_forgedSeal_85 : decode cX9_forgedSeal 85 = .ok (.iload_n 3, 1) := by decide +kernel
theorem dX9_forgedSeal_86 : decode cX9_forgedSeal 86 = .ok (.iconst 3, 1) := by decide +kernel
theorem dX9_forgedSeal_87 : decode cX9_forgedSeal 87 = .ok (.iand, 1) := by decide +kernel
theorem dX9_forgedSeal_88 : decode cX9_forgedSeal 88 = .ok (.iload_n 3, 1) := by decide +kernel
theorem dX9_forgedSeal_89 : decode cX9_forgedSeal 89 = .ok (.iconst 2, 1) := by decide +kernel
theorem dX9_forgedSeal_90 : decode cX9_forgedSeal 90 = .ok (.ishr, 1) := by decide +kernel
theorem dX9_forgedSeal_91 : decode cX9_forgedSeal 91 = .ok (.iconst 3, 1) := by decide +kernel
theorem dX9_forgedSeal_92 : decode cX9_forgedSeal 92 = .ok (.iand, 1) := by decide +kernel
theorem dX9_forgedSeal_93 : decode cX9_forgedSeal 93 = .ok (.iconst 3, 1) := by decide +kernel
theorem dX9_forgedSeal_94 : decode cX9_forgedSeal 94 = .ok (.irem, 1) := by decide +kernel
theorem dX9_forgedSeal_95 : decode cX9_forgedSeal 95 = .ok (.iload_n 3, 1) := by decide +kernel
theorem dX9_forgedSeal_96 : decode cX9_forgedSeal 96 = .ok (.iconst 4, 1) := by decide +kernel
theorem dX9_forgedSeal_97 : decode cX9_forgedSeal 97 = .ok (.ishr, 1) := by decide +kernel
theorem dX9_forgedSeal_98 : decode cX9_forgedSeal 98 = .ok (.invokespecial 147, 3) := by decide +kernel
theorem dX9_forgedSeal_101 : decode cX9_forgedSeal 101 = .ok (.invokespecial 148, 3) := by decide +kernel
theorem dX9_forgedSeal_104 : decode cX9_forgedSeal 104 = .ok (.areturn, 1) := by decide +kernel
theorem dX9_openNonce_0 : decode cX9_openNonce 0 = .ok (.aload_n 0, 1) := by decide +kernel
theorem dX9_openNonce_1 : decode cX9_openNonce 1 = .ok (.iload_n 1, 1) := by decide +kernel
theorem dX9_openNonce_2 : decode cX9_openNonce 2 = .ok (.invokevirtual 112, 3) := by decide +kernel
theorem dX9_openNonce_5 : decode cX9_openNonce 5 = .ok (.astore_n 2, 1) := by decide +kernel
theorem dX9_openNonce_6 : decode cX9_openNonce 6 = .ok (.aload_n 2, 1) := by decide +kernel
theorem dX9_openNonce_7 : decode cX9_openNonce 7 = .ok (.ifnonnull 7, 3) := by decide +kernel
theorem dX9_openNonce_10 : decode cX9_openNonce 10 = .ok (.iconst (-1), 1) := by decide +kernel
theorem dX9_openNonce_11 : decode cX9_openNonce 11 = .ok (.goto 7, 3) := by decide +kernel
theorem dX9_openNonce_14 : decode cX9_openNonce 14 = .ok (.aload_n 2, 1) := by decide +kernel
theorem dX9_openNonce_15 : decode cX9_openNonce 15 = .ok (.getfield 171, 3) := by decide +kernel
theorem dX9_openNonce_18 : decode cX9_openNonce 18 = .ok (.ireturn, 1) := by decide +kernel
theorem dX9_heldTicket_0 : decode cX9_heldTicket 0 = .ok (.aload_n 0, 1) := by decide +kernel
theorem dX9_heldTicket_1 : decode cX9_heldTicket 1 = .ok (.iload_n 1, 1) := by decide +kernel
theorem dX9_heldTicket_2 : decode cX9_heldTicket 2 = .ok (.invokevirtual 112, 3) := by decide +kernel
theorem dX9_heldTicket_5 : decode cX9_heldTicket 5 = .ok (.astore_n 3, 1) := by decide +kernel
theorem dX9_heldTicket_6 : decode cX9_heldTicket 6 = .ok (.aload_n 3, 1) := by decide +kernel
theorem dX9_heldTicket_7 : decode cX9_heldTicket 7 = .ok (.ifnull 11, 3) := by decide +kernel
theorem dX9_heldTicket_10 : decode cX9_heldTicket 10 = .ok (.aload_n 3, 1) := by decide +kernel
theorem dX9_heldTicket_11 : decode cX9_heldTicket 11 = .ok (.iload_n 2, 1) := by decide +kernel
theorem dX9_heldTicket_12 : decode cX9_heldTicket 12 = .ok (.invokevirtual 134, 3) := by decide +kernel
theorem dX9_heldTicket_15 : decode cX9_heldTicket 15 = .ok (.ifCond .ne 7, 3) := by decide +kernel
theorem dX9_heldTicket_18 : decode cX9_heldTicket 18 = .ok (.iconst (-1), 1) := by decide +kernel
theorem dX9_heldTicket_19 : decode cX9_heldTicket 19 = .ok (.goto 9, 3) := by decide +kernel
theorem dX9_heldTicket_22 : decode cX9_heldTicket 22 = .ok (.aload_n 3, 1) := by decide +kernel
theorem dX9_heldTicket_23 : decode cX9_heldTicket 23 = .ok (.getfield 320, 3) := by decide +kernel
theorem dX9_heldTicket_26 : decode cX9_heldTicket 26 = .ok (.iload_n 2, 1) := by decide +kernel
theorem dX9_heldTicket_27 : decode cX9_heldTicket 27 = .ok (.iaload, 1) := by decide +kernel
theorem dX9_heldTicket_28 : decode cX9_heldTicket 28 = .ok (.ireturn, 1) := by decide +kernel
end
section
theorem dX10_init_0 : decode cX10_init 0 = .ok (.aload_n 0, 1) := by decide +kernel
theorem dX10_init_1 : decode cX10_init 1 = .ok (.invokespecial 1, 3) := by decide +kernel
theorem dX10_init_4 : decode cX10_init 4 = .ok (.aload_n 0, 1) := by decide +kernel
theorem dX10_init_5 : decode cX10_init 5 = .ok (.bipush 6, 2) := by decide +kernel
theorem dX10_init_7 : decode cX10_init 7 = .ok (.newarray .int, 2) := by decide +kernel
theorem dX10_init_9 : decode cX10_init 9 = .ok (.putfield 7, 3) := by decide +kernel
theorem dX10_init_12 : decode cX10_init 12 = .ok (.aload_n 0, 1) := by decide +kernel
theorem dX10_init_13 : decode cX10_init 13 = .ok (.bipush 6, 2) := by decide +kernel
theorem dX10_init_15 : decode cX10_init 15 = .ok (.newarray .int, 2) := by decide +kernel
theorem dX10_init_17 : decode cX10_init 17 = .ok (.putfield 13, 3) := by decide +kernel
theorem dX10_init_20 : decode cX10_init 20 = .ok (.aload_n 0, 1) := by decide +kernel
theorem dX10_init_21 : decode cX10_init 21 = .ok (.sipush 200, 3) := by decide +kernel
theorem dX10_init_24 : decode cX10_init 24 = .ok (.newarray .boolean, 2) := by decide +kernel
theorem dX10_init_26 : decode cX10_init 26 = .ok (.putfield 16, 3) := by decide +kernel
theorem dX10_init_29 : decode cX10_init 29 = .ok (.aload_n 0, 1) := by decide +kernel
theorem dX10_init_30 : decode cX10_init 30 = .ok (.bipush 12, 2) := by decide +kernel
theorem dX10_init_32 : decode cX10_init 32 = .ok (.newarray .int, 2) := by decide +kernel
theorem dX10_init_34 : decode cX10_init 34 = .ok (.putfield 20, 3) := by decide +kernel
theorem dX10_init_37 : decode cX10_init 37 = .ok (.aload_n 0, 1) := by decide +kernel
theorem dX10_init_38 : decode cX10_init 38 = .ok (.bipush 12, 2) := by decide +kernel
theorem dX10_init_40 : decode cX10_init 40 = .ok (.newarray .int, 2) := by decide +kernel
theorem dX10_init_42 : decode cX10_init 42 = .ok (.putfield 23, 3) := by decide +kernel
theorem dX10_init_45 : decode cX10_init 45 = .ok (.aload_n 0, 1) := by decide +kernel
theorem dX10_init_46 : decode cX10_init 46 = .ok (.bipush 36, 2) := by decide +kernel
theorem dX10_init_48 : decode cX10_init 48 = .ok (.newarray .int, 2) := by decide +kernel
theorem dX10_init_50 : decode cX10_init 50 = .ok (.putfield 26, 3) := by decide +kernel
theorem dX10_init_53 : decode cX10_init 53 = .ok (.aload_n 0, 1) := by decide +kernel
theorem dX10_init_54 : decode cX10_init 54 = .ok (.sipush 150, 3) := by decide +kernel
theorem dX10_init_57 : decode cX10_init 57 = .ok (.newarray .int, 2) := by decide +kernel
theorem dX10_init_59 : decode cX10_init 59 = .ok (.putfield 29, 3) := by decide +kernel
theorem dX10_init_62 : decode cX10_init 62 = .ok (.aload_n 0, 1) := by decide +kernel
theorem dX10_init_63 : decode cX10_init 63 = .ok (.sipush 150, 3) := by decide +kernel
theorem dX10_init_66 : decode cX10_init 66 = .ok (.newarray .int, 2) := by decide +kernel
theorem dX10_init_68 : decode cX10_init 68 = .ok (.putfield 32, 3) := by decide +kernel
theorem dX10_init_71 : decode cX10_init 71 = .ok (.aload_n 0, 1) := by decide +kernel
theorem dX10_init_72 : decode cX10_init 72 = .ok (.sipush 150, 3) := by decide +kernel
theorem dX10_init_75 : decode cX10_init 75 = .ok (.newarray .int, 2) := by decide +kernel
theorem dX10_init_77 : decode cX10_init 77 = .ok (.putfield 35, 3) := by decide +kernel
theorem dX10_init_80 : decode cX10_init 80 = .ok (.aload_n 0, 1) := by decide +kernel
theorem dX10_init_81 : decode cX10_init 81 = .ok (.sipush 150, 3) := by decide +kernel
theorem dX10_init_84 : decode cX10_init 84 = .ok (.newarray .int, 2) := by decide +kernel
theorem dX10_init_86 : decode cX10_init 86 = .ok (.putfield 38, 3) := by decide +kernel
theorem dX10_init_89 : decode cX10_init 89 = .ok (.aload_n 0, 1) := by decide +kernel
theorem dX10_init_90 : decode cX10_init 90 = .ok (.sipush 150, 3) := by decide +kernel
theorem dX10_init_93 : decode cX10_init 93 = .ok (.newarray .int, 2) := by decide +kernel
theorem dX10_init_95 : decode cX10_init 95 = .ok (.putfield 41, 3) := by decide +kernel
theorem dX10_init_98 : decode cX10_init 98 = .ok (.aload_n 0, 1) := by decide +kernel
theorem dX10_init_99 : decode cX10_init 99 = .ok (.sipush 150, 3) := by decide +kernel
theorem dX10_init_102 : decode cX10_init 102 = .ok (.newarray .int, 2) := by decide +kernel
theorem dX10_init_104 : decode cX10_init 104 = .ok (.putfield 44, 3) := by decide +kernel
theorem dX10_init_107 : decode cX10_init 107 = .ok (.aload_n 0, 1) := by decide +kernel
theorem dX10_init_108 : decode cX10_init 108 = .ok (.sipush 150, 3) := by decide +kernel
theorem dX10_init_111 : decode cX10_init 111 = .ok (.newarray .int, 2) := by decide +kernel
theorem dX10_init_113 : decode cX10_init 113 = .ok (.putfield 47, 3) := by decide +kernel
theorem dX10_init_116 : decode cX10_init 116 = .ok (.aload_n 0, 1) := by decide +kernel
theorem dX10_init_117 : decode cX10_init 117 = .ok (.sipush 150, 3) := by decide +kernel
theorem dX10_init_120 : decode cX10_init 120 = .ok (.newarray .int, 2) := by decide +kernel
theorem dX10_init_122 : decode cX10_init 122 = .ok (.putfield 50, 3) := by decide +kernel
theorem dX10_init_125 : decode cX10_init 125 = .ok (.aload_n 0, 1) := by decide +kernel
theorem dX10_init_126 : decode cX10_init 126 = .ok (.sipush 150, 3) := by decide +kernel
theorem dX10_init_129 : decode cX10_init 129 = .ok (.newarray .int, 2) := by decide +kernel
theorem dX10_init_131 : decode cX10_init 131 = .ok (.putfield 53, 3) := by decide +kernel
theorem dX10_init_134 : decode cX10_init 134 = .ok (.aload_n 0, 1) := by decide +kernel
theorem dX10_init_135 : decode cX10_init 135 = .ok (.sipush 150, 3) := by decide +kernel
theorem dX10_init_138 : decode cX10_init 138 = .ok (.newarray .int, 2) := by decide +kernel
theorem dX10_init_140 : decode cX10_init 140 = .ok (.putfield 56, 3) := by decide +kernel
theorem dX10_init_143 : decode cX10_init 143 = .ok (.aload_n 0, 1) := by decide +kernel
theorem dX10_init_144 : decode cX10_init 144 = .ok (.bipush 6, 2) := by decide +kernel
theorem dX10_init_146 : decode cX10_init 146 = .ok (.newarray .int, 2) := by decide +kernel
theorem dX10_init_148 : decode cX10_init 148 = .ok (.putfield 59, 3) := by decide +kernel
theorem dX10_init_151 : decode cX10_init 151 = .ok (.aload_n 0, 1) := by decide +kernel
theorem dX10_init_152 : decode cX10_init 152 = .ok (.bipush 6, 2) := by decide +kernel
theorem dX10_init_154 : decode cX10_init 154 = .ok (.newarray .int, 2) := by decide +kernel
theorem dX10_init_156 : decode cX10_init 156 = .ok (.putfield 62, 3) := by decide +kernel
theorem dX10_init_159 : decode cX10_init 159 = .ok (.aload_n 0, 1) := by decide +kernel
theorem dX10_init_160 : decode cX10_init 160 = .ok (.bipush 6, 2) := by decide +kernel
theorem dX10_init_162 : decode cX10_init 162 = .ok (.newarray .int, 2) := by decide +kernel
theorem dX10_init_164 : decode cX10_init 164 = .ok (.putfield 65, 3) := by decide +kernel
theorem dX10_init_167 : decode cX10_init 167 = .ok (.aload_n 0, 1) := by decide +kernel
theorem dX10_init_168 : decode cX10_init 168 = .ok (.bipush 12, 2) := by decide +kernel
theorem dX10_init_170 : decode cX10_init 170 = .ok (.newarray .int, 2) := by decide +kernel
theorem dX10_init_172 : decode cX10_init 172 = .ok (.putfield 68, 3) := by decide +kernel
theorem dX10_init_175 : decode cX10_init 175 = .ok (.aload_n 0, 1) := by decide +kernel
theorem dX10_init_176 : decode cX10_init 176 = .ok (.bipush 12, 2) := by decide +kernel
theorem dX10_init_178 : decode cX10_init 178 = .ok (.newarray .int, 2) := by decide +kernel
theorem dX10_init_180 : decode cX10_init 180 = .ok (.putfield 71, 3) := by decide +kernel
theorem dX10_init_183 : decode cX10_init 183 = .ok (.aload_n 0, 1) := by decide +kernel
theorem dX10_init_184 : decode cX10_init 184 = .ok (.bipush 6, 2) := by decide +kernel
theorem dX10_init_186 : decode cX10_init 186 = .ok (.newarray .int, 2) := by decide +kernel
theorem dX10_init_188 : decode cX10_init 188 = .ok (.putfield 74, 3) := by decide +kernel
theorem dX10_init_191 : decode cX10_init 191 = .ok (.aload_n 0, 1) := by decide +kernel
theorem dX10_init_192 : decode cX10_init 192 = .ok (.iconst 3, 1) := by decide +kernel
theorem dX10_init_193 : decode cX10_init 193 = .ok (.newarray .int, 2) := by decide +kernel
theorem dX10_init_195 : decode cX10_init 195 = .ok (.putfield 77, 3) := by decide +kernel
theorem dX10_init_198 : decode cX10_init 198 = .ok (.aload_n 0, 1) := by decide +kernel
theorem dX10_init_199 : decode cX10_init 199 = .ok (.bipush 12, 2) := by decide +kernel
theorem dX10_init_201 : decode cX10_init 201 = .ok (.newarray .int, 2) := by decide +kernel
theorem dX10_init_203 : decode cX10_init 203 = .ok (.putfield 80, 3) := by decide +kernel
theorem dX10_init_206 : decode cX10_init 206 = .ok (.aload_n 0, 1) := by decide +kernel
theorem dX10_init_207 : decode cX10_init 207 = .ok (.iload_n 1, 1) := by decide +kernel
theorem dX10_init_208 : decode cX10_init 208 = .ok (.ifCond .ge 7, 3) := by decide +kernel
theorem dX10_init_211 : decode cX10_init 211 = .ok (.iconst 0, 1) := by decide +kernel
theorem dX10_init_212 : decode cX10_init 212 = .ok (.goto 15, 3) := by decide +kernel
theorem dX10_init_215 : decode cX10_init 215 = .ok (.iload_n 1, 1) := by decide +kernel
theorem dX10_init_216 : decode cX10_init 216 = .ok (.bipush 100, 2) := by decide +kernel
theorem dX10_init_218 : decode cX10_init 218 = .ok (.if_icmp .le 8, 3) := by decide +kernel
theorem dX10_init_221 : decode cX10_init 221 = .ok (.bipush 100, 2) := by decide +kernel
theorem dX10_init_223 : decode cX10_init 223 = .ok (.goto 4, 3) := by decide +kernel
theorem dX10_init_226 : decode cX10_init 226 = .ok (.iload_n 1, 1) := by decide +kernel
theorem dX10_init_227 : decode cX10_init 227 = .ok (.putfield 83, 3) := by decide +kernel
theorem dX10_init_230 : decode cX10_init 230 = .ok (.iconst 0, 1) := by decide +kernel
theorem dX10_init_231 : decode cX10_init 231 = .ok (.istore_n 2, 1) := by decide +kernel
theorem dX10_init_232 : decode cX10_init 232 = .ok (.iload_n 2, 1) := by decide +kernel
theorem dX10_init_233 : decode cX10_init 233 = .ok (.bipush 12, 2) := by decide +kernel
theorem dX10_init_235 : decode cX10_init 235 = .ok (.if_icmp .ge 23, 3) := by decide +kernel
theorem dX10_init_238 : decode cX10_init 238 = .ok (.aload_n 0, 1) := by decide +kernel
theorem dX10_init_239 : decode cX10_init 239 = .ok (.getfield 20, 3) := by decide +kernel
theorem dX10_init_242 : decode cX10_init 242 = .ok (.iload_n 2, 1) := by decide +kernel
theorem dX10_init_243 : decode cX10_init 243 = .ok (.iconst (-1), 1) := by decide +kernel
theorem dX10_init_244 : decode cX10_init 244 = .ok (.iastore, 1) := by decide +kernel
theorem dX10_init_245 : decode cX10_init 245 = .ok (.aload_n 0, 1) := by decide +kernel
theorem dX10_init_246 : decode cX10_init 246 = .ok (.getfield 68, 3) := by decide +kernel
theorem dX10_init_249 : decode cX10_init 249 = .ok (.iload_n 2, 1) := by decide +kernel
theorem dX10_init_250 : decode cX10_init 250 = .ok (.iconst (-1), 1) := by decide +kernel
theorem dX10_init_251 : decode cX10_init 251 = .ok (.iastore, 1) := by decide +kernel
theorem dX10_init_252 : decode cX10_init 252 = .ok (.iinc 2 1, 3) := by decide +kernel
theorem dX10_init_255 : decode cX10_init 255 = .ok (.goto (-23), 3) := by decide +kernel
theorem dX10_init_258 : decode cX10_init 258 = .ok (.iconst 0, 1) := by decide +kernel
theorem dX10_init_259 : decode cX10_init 259 = .ok (.istore_n 2, 1) := by decide +kernel
theorem dX10_init_260 : decode cX10_init 260 = .ok (.iload_n 2, 1) := by decide +kernel
theorem dX10_init_261 : decode cX10_init 261 = .ok (.bipush 6, 2) := by decide +kernel
theorem dX10_init_263 : decode cX10_init 263 = .ok (.if_icmp .ge 16, 3) := by decide +kernel
theorem dX10_init_266 : decode cX10_init 266 = .ok (.aload_n 0, 1) := by decide +kernel
theorem dX10_init_267 : decode cX10_init 267 = .ok (.getfield 13, 3) := by decide +kernel
theorem dX10_init_270 : decode cX10_init 270 = .ok (.iload_n 2, 1) := by decide +kernel
theorem dX10_init_271 : decode cX10_init 271 = .ok (.iconst (-1), 1) := by decide +kernel
theorem dX10_init_272 : decode cX10_init 272 = .ok (.iastore, 1) := by decide +kernel
theorem dX10_init_273 : decode cX10_init 273 = .ok (.iinc 2 1, 3) := by decide +kernel
theorem dX10_init_276 : decode cX10_init 276 = .ok (.goto (-16), 3) := by decide +kernel
theorem dX10_init_279 : decode cX10_init 279 = .ok (.return_, 1) := by decide +kernel
theorem dX10_in_0 : decode cX10_in 0 = .ok (.iload_n 0, 1) := by decide +kernel
theorem dX10_in_1 : decode cX10_in 1 = .ok (.iload_n 1, 1) := by decide +kernel
theorem dX10_in_2 : decode cX10_in 2 = .ok (.if_icmp .lt 12, 3) := by decide +kernel
theorem dX10_in_5 : decode cX10_in 5 = .ok (.iload_n 0, 1) := by decide +kernel
theorem dX10_in_6 : decode cX10_in 6 = .ok (.iload_n 2, 1) := by decide +kernel
theorem dX10_in_7 : decode cX10_in 7 = .ok (.if_icmp .gt 7, 3) := by decide +kernel
theorem dX10_in_10 : decode cX10_in 10 = .ok (.iconst 1, 1) := by decide +kernel
theorem dX10_in_11 : decode cX10_in 11 = .ok (.goto 4, 3) := by decide +kernel
theorem dX10_in_14 : decode cX10_in 14 = .ok (.iconst 0, 1) := by decide +kernel
theorem dX10_in_15 : decode cX10_in 15 = .ok (.ireturn, 1) := by decide +kernel
theorem dX10_booked_0 : decode cX10_booked 0 = .ok (.iload_n 1, 1) := by decide +kernel
theorem dX10_booked_1 : decode cX10_booked 1 = .ok (.iconst 0, 1) := by decide +kernel
theorem dX10_booked_2 : decode cX10_booked 2 = .ok (.iconst 5, 1) := by decide +kernel
theorem dX10_booked_3 : decode cX10_booked 3 = .ok (.invokestatic 87, 3) := by decide +kernel
theorem dX10_booked_6 : decode cX10_booked 6 = .ok (.ifCond .eq 16, 3) := by decide +kernel
theorem dX10_booked_9 : decode cX10_booked 9 = .ok (.aload_n 0, 1) := by decide +kernel
theorem dX10_booked_10 : decode cX10_booked 10 = .ok (.getfield 20, 3) := by decide +kernel
theorem dX10_booked_13 : decode cX10_booked 13 = .ok (.iload_n 1, 1) := by decide +kernel
theorem dX10_booked_14 : decode cX10_booked 14 = .ok (.iaload, 1) := by decide +kernel
theorem dX10_booked_15 : decode cX10_booked 15 = .ok (.ifCond .lt 7, 3) := by decide +kernel
theorem dX10_booked_18 : decode cX10_booked 18 = .ok (.iconst 1, 1) := by decide +kernel
theorem dX10_booked_19 : decode cX10_booked 19 = .ok (.goto 4, 3) := by decide +kernel
theorem dX10_booked_22 : decode cX10_booked 22 = .ok (.iconst 0, 1) := by decide +kernel
theorem dX10_booked_23 : decode cX10_booked 23 = .ok (.ireturn, 1) := by decide +kernel
theorem dX10_user_0 : decode cX10_user 0 = .ok (.iload_n 1, 1) := by decide +kernel
theorem dX10_user_1 : decode cX10_user 1 = .ok (.iconst 2, 1) := by decide +kernel
theorem dX10_user_2 : decode cX10_user 2 = .ok (.iconst 5, 1) := by decide +kernel
theorem dX10_user_3 : decode cX10_user 3 = .ok (.invokestatic 87, 3) := by decide +kernel
theorem dX10_user_6 : decode cX10_user 6 = .ok (.ireturn, 1) := by decide +kernel
theorem dX10_near_0 : decode cX10_near 0 = .ok (.iload_n 1, 1) := by decide +kernel
theorem dX10_near_1 : decode cX10_near 1 = .ok (.i2l, 1) := by decide +kernel
theorem dX10_near_2 : decode cX10_near 2 = .ok (.iload_n 2, 1) := by decide +kernel
theorem dX10_near_3 : decode cX10_near 3 = .ok (.i2l, 1) := by decide +kernel
theorem dX10_near_4 : decode cX10_near 4 = .ok (.lsub, 1) := by decide +kernel
theorem dX10_near_5 : decode cX10_near 5 = .ok (.lstore_n 3, 1) := by decide +kernel
theorem dX10_near_6 : decode cX10_near 6 = .ok (.lload_n 3, 1) := by decide +kernel
theorem dX10_near_7 : decode cX10_near 7 = .ok (.aload_n 0, 1) := by decide +kernel
theorem dX10_near_8 : decode cX10_near 8 = .ok (.getfield 83, 3) := by decide +kernel
theorem dX10_near_11 : decode cX10_near 11 = .ok (.i2l, 1) := by decide +kernel
theorem dX10_near_12 : decode cX10_near 12 = .ok (.lcmp, 1) := by decide +kernel
theorem dX10_near_13 : decode cX10_near 13 = .ok (.ifCond .gt 18, 3) := by decide +kernel
theorem dX10_near_16 : decode cX10_near 16 = .ok (.lload_n 3, 1) := by decide +kernel
theorem dX10_near_17 : decode cX10_near 17 = .ok (.aload_n 0, 1) := by decide +kernel
theorem dX10_near_18 : decode cX10_near 18 = .ok (.getfield 83, 3) := by decide +kernel
theorem dX10_near_21 : decode cX10_near 21 = .ok (.ineg, 1) := by decide +kernel
theorem dX10_near_22 : decode cX10_near 22 = .ok (.i2l, 1) := by decide +kernel
theorem dX10_near_23 : decode cX10_near 23 = .ok (.lcmp, 1) := by decide +kernel
theorem dX10_near_24 : decode cX10_near 24 = .ok (.ifCond .lt 7, 3) := by decide +kernel
theorem dX10_near_27 : decode cX10_near 27 = .ok (.iconst 1, 1) := by decide +kernel
theorem dX10_near_28 : decode cX10_near 28 = .ok (.goto 4, 3) := by decide +kernel
theorem dX10_near_31 : decode cX10_near 31 = .ok (.iconst 0, 1) := by decide +kernel
theorem dX10_near_32 : decode cX10_near 32 = .ok (.ireturn, 1) := by decide +kernel
theorem dX10_enrol_0 : decode cX10_enrol 0 = .ok (.iload_n 1, 1) := by decide +kernel
theorem dX10_enrol_1 : decode cX10_enrol 1 = .ok (.iconst 0, 1) := by decide +kernel
theorem dX10_enrol_2 : decode cX10_enrol 2 = .ok (.iconst 5, 1) := by decide +kernel
theorem dX10_enrol_3 : decode cX10_enrol 3 = .ok (.invokestatic 87, 3) := by decide +kernel
theorem dX10_enrol_6 : decode cX10_enrol 6 = .ok (.ifCond .ne 5, 3) := by decide +kernel
theorem dX10_enrol_9 : decode cX10_enrol 9 = .ok (.iconst (-1), 1) := by decide +kernel
theorem dX10_enrol_10 : decode cX10_enrol 10 = .ok (.ireturn, 1) := by decide +kernel
theorem dX10_enrol_11 : decode cX10_enrol 11 = .ok (.aload_n 0, 1) := by decide +kernel
theorem dX10_enrol_12 : decode cX10_enrol 12 = .ok (.getfield 91, 3) := by decide +kernel
theorem dX10_enrol_15 : decode cX10_enrol 15 = .ok (.sipush 200, 3) := by decide +kernel
theorem dX10_enrol_18 : decode cX10_enrol 18 = .ok (.if_icmp .ne 6, 3) := by decide +kernel
theorem dX10_enrol_21 : decode cX10_enrol 21 = .ok (.bipush (-7), 2) := by decide +kernel
theorem dX10_enrol_23 : decode cX10_enrol 23 = .ok (.ireturn, 1) := by decide +kernel
theorem dX10_enrol_24 : decode cX10_enrol 24 = .ok (.aload_n 0, 1) := by decide +kernel
theorem dX10_enrol_25 : decode cX10_enrol 25 = .ok (.getfield 20, 3) := by decide +kernel
theorem dX10_enrol_28 : decode cX10_enrol 28 = .ok (.iload_n 1, 1) := by decide +kernel
theorem dX10_enrol_29 : decode cX10_enrol 29 = .ok (.iaload, 1) := by decide +kernel
theorem dX10_enrol_30 : decode cX10_enrol 30 = .ok (.ifCond .ge 35, 3) := by decide +kernel
theorem dX10_enrol_33 : decode cX10_enrol 33 = .ok (.aload_n 0, 1) := by decide +kernel
theorem dX10_enrol_34 : decode cX10_enrol 34 = .ok (.getfield 23, 3) := by decide +kernel
theorem dX10_enrol_37 : decode cX10_enrol 37 = .ok (.iload_n 1, 1) := by decide +kernel
theorem dX10_enrol_38 : decode cX10_enrol 38 = .ok (.bipush 20, 2) := by decide +kernel
theorem dX10_enrol_40 : decode cX10_enrol 40 = .ok (.iastore, 1) := by decide +kernel
theorem dX10_enrol_41 : decode cX10_enrol 41 = .ok (.iconst 0, 1) := by decide +kernel
theorem dX10_enrol_42 : decode cX10_enrol 42 = .ok (.istore_n 2, 1) := by decide +kernel
theorem dX10_enrol_43 : decode cX10_enrol 43 = .ok (.iload_n 2, 1) := by decide +kernel
theorem dX10_enrol_44 : decode cX10_enrol 44 = .ok (.iconst 3, 1) := by decide +kernel
theorem dX10_enrol_45 : decode cX10_enrol 45 = .ok (.if_icmp .ge 20, 3) := by decide +kernel
theorem dX10_enrol_48 : decode cX10_enrol 48 = .ok (.aload_n 0, 1) := by decide +kernel
theorem dX10_enrol_49 : decode cX10_enrol 49 = .ok (.getfield 26, 3) := by decide +kernel
theorem dX10_enrol_52 : decode cX10_enrol 52 = .ok (.iconst 3, 1) := by decide +kernel
theorem dX10_enrol_53 : decode cX10_enrol 53 = .ok (.iload_n 1, 1) := by decide +kernel
theorem dX10_enrol_54 : decode cX10_enrol 54 = .ok (.imul, 1) := by decide +kernel
theorem dX10_enrol_55 : decode cX10_enrol 55 = .ok (.iload_n 2, 1) := by decide +kernel
theorem dX10_enrol_56 : decode cX10_enrol 56 = .ok (.iadd, 1) := by decide +kernel
theorem dX10_enrol_57 : decode cX10_enrol 57 = .ok (.iconst 0, 1) := by decide +kernel
theorem dX10_enrol_58 : decode cX10_enrol 58 = .ok (.iastore, 1) := by decide +kernel
theorem dX10_enrol_59 : decode cX10_enrol 59 = .ok (.iinc 2 1, 3) := by decide +kernel
theorem dX10_enrol_62 : decode cX10_enrol 62 = .ok (.goto (-19), 3) := by decide +kernel
theorem dX10_enrol_65 : decode cX10_enrol 65 = .ok (.aload_n 0, 1) := by decide +kernel
theorem dX10_enrol_66 : decode cX10_enrol 66 = .ok (.getfield 20, 3) := by decide +kernel
theorem dX10_enrol_69 : decode cX10_enrol 69 = .ok (.iload_n 1, 1) := by decide +kernel
theorem dX10_enrol_70 : decode cX10_enrol 70 = .ok (.aload_n 0, 1) := by decide +kernel
theorem dX10_enrol_71 : decode cX10_enrol 71 = .ok (.getfield 91, 3) := by decide +kernel
theorem dX10_enrol_74 : decode cX10_enrol 74 = .ok (.iastore, 1) := by decide +kernel
theorem dX10_enrol_75 : decode cX10_enrol 75 = .ok (.aload_n 0, 1) := by decide +kernel
theorem dX10_enrol_76 : decode cX10_enrol 76 = .ok (.getfield 13, 3) := by decide +kernel
theorem dX10_enrol_79 : decode cX10_enrol 79 = .ok (.iload_n 1, 1) := by decide +kernel
theorem dX10_enrol_80 : decode cX10_enrol 80 = .ok (.aload_n 0, 1) := by decide +kernel
theorem dX10_enrol_81 : decode cX10_enrol 81 = .ok (.getfield 91, 3) := by decide +kernel
theorem dX10_enrol_84 : decode cX10_enrol 84 = .ok (.iastore, 1) := by decide +kernel
theorem dX10_enrol_85 : decode cX10_enrol 85 = .ok (.aload_n 0, 1) := by decide +kernel
theorem dX10_enrol_86 : decode cX10_enrol 86 = .ok (.dup, 1) := by decide +kernel
theorem dX10_enrol_87 : decode cX10_enrol 87 = .ok (.getfield 91, 3) := by decide +kernel
theorem dX10_enrol_90 : decode cX10_enrol 90 = .ok (.iconst 1, 1) := by decide +kernel
theorem dX10_enrol_91 : decode cX10_enrol 91 = .ok (.iadd, 1) := by decide +kernel
theorem dX10_enrol_92 : decode cX10_enrol 92 = .ok (.putfield 91, 3) := by decide +kernel
theorem dX10_enrol_95 : decode cX10_enrol 95 = .ok (.aload_n 0, 1) := by decide +kernel
theorem dX10_enrol_96 : decode cX10_enrol 96 = .ok (.getfield 91, 3) := by decide +kernel
theorem dX10_enrol_99 : decode cX10_enrol 99 = .ok (.iconst 1, 1) := by decide +kernel
theorem dX10_enrol_100 : decode cX10_enrol 100 = .ok (.isub, 1) := by decide +kernel
theorem dX10_enrol_101 : decode cX10_enrol 101 = .ok (.ireturn, 1) := by decide +kernel
theorem dX10_remove_0 : decode cX10_remove 0 = .ok (.aload_n 0, 1) := by decide +kernel
theorem dX10_remove_1 : decode cX10_remove 1 = .ok (.iload_n 1, 1) := by decide +kernel
theorem dX10_remove_2 : decode cX10_remove 2 = .ok (.invokevirtual 94, 3) := by decide +kernel
theorem dX10_remove_5 : decode cX10_remove 5 = .ok (.istore_n 2, 1) := by decide +kernel
theorem dX10_remove_6 : decode cX10_remove 6 = .ok (.iload_n 2, 1) := by decide +kernel
theorem dX10_remove_7 : decode cX10_remove 7 = .ok (.ifCond .eq 10, 3) := by decide +kernel
theorem dX10_remove_10 : decode cX10_remove 10 = .ok (.aload_n 0, 1) := by decide +kernel
theorem dX10_remove_11 : decode cX10_remove 11 = .ok (.getfield 20, 3) := by decide +kernel
theorem dX10_remove_14 : decode cX10_remove 14 = .ok (.iload_n 1, 1) := by decide +kernel
theorem dX10_remove_15 : decode cX10_remove 15 = .ok (.iconst (-1), 1) := by decide +kernel
theorem dX10_remove_16 : decode cX10_remove 16 = .ok (.iastore, 1) := by decide +kernel
theorem dX10_remove_17 : decode cX10_remove 17 = .ok (.iload_n 2, 1) := by decide +kernel
theorem dX10_remove_18 : decode cX10_remove 18 = .ok (.ireturn, 1) := by decide +kernel
theorem dX10_limit_0 : decode cX10_limit 0 = .ok (.aload_n 0, 1) := by decide +kernel
theorem dX10_limit_1 : decode cX10_limit 1 = .ok (.iload_n 1, 1) := by decide +kernel
theorem dX10_limit_2 : decode cX10_limit 2 = .ok (.invokevirtual 94, 3) := by decide +kernel
theorem dX10_limit_5 : decode cX10_limit 5 = .ok (.ifCond .eq 14, 3) := by decide +kernel
theorem dX10_limit_8 : decode cX10_limit 8 = .ok (.iload_n 2, 1) := by decide +kernel
theorem dX10_limit_9 : decode cX10_limit 9 = .ok (.iconst 1, 1) := by decide +kernel
theorem dX10_limit_10 : decode cX10_limit 10 = .ok (.sipush 1000, 3) := by decide +kernel
theorem dX10_limit_13 : decode cX10_limit 13 = .ok (.invokestatic 87, 3) := by decide +kernel
theorem dX10_limit_16 : decode cX10_limit 16 = .ok (.ifCond .ne 5, 3) := by decide +kernel
theorem dX10_limit_19 : decode cX10_limit 19 = .ok (.iconst 0, 1) := by decide +kernel
theorem dX10_limit_20 : decode cX10_limit 20 = .ok (.ireturn, 1) := by decide +kernel
theorem dX10_limit_21 : decode cX10_limit 21 = .ok (.aload_n 0, 1) := by decide +kernel
theorem dX10_limit_22 : decode cX10_limit 22 = .ok (.getfield 23, 3) := by decide +kernel
theorem dX10_limit_25 : decode cX10_limit 25 = .ok (.iload_n 1, 1) := by decide +kernel
theorem dX10_limit_26 : decode cX10_limit 26 = .ok (.iload_n 2, 1) := by decide +kernel
theorem dX10_limit_27 : decode cX10_limit 27 = .ok (.iastore, 1) := by decide +kernel
theorem dX10_limit_28 : decode cX10_limit 28 = .ok (.iconst 1, 1) := by decide +kernel
theorem dX10_limit_29 : decode cX10_limit 29 = .ok (.ireturn, 1) := by decide +kernel
theorem dX10_allow_0 : decode cX10_allow 0 = .ok (.aload_n 0, 1) := by decide +kernel
theorem dX10_allow_1 : decode cX10_allow 1 = .ok (.iload_n 1, 1) := by decide +kernel
theorem dX10_allow_2 : decode cX10_allow 2 = .ok (.invokevirtual 94, 3) := by decide +kernel
theorem dX10_allow_5 : decode cX10_allow 5 = .ok (.ifCond .eq 21, 3) := by decide +kernel
theorem dX10_allow_8 : decode cX10_allow 8 = .ok (.iload_n 2, 1) := by decide +kernel
theorem dX10_allow_9 : decode cX10_allow 9 = .ok (.iconst 0, 1) := by decide +kernel
theorem dX10_allow_10 : decode cX10_allow 10 = .ok (.iconst 2, 1) := by decide +kernel
theorem dX10_allow_11 : decode cX10_allow 11 = .ok (.invokestatic 87, 3) := by decide +kernel
theorem dX10_allow_14 : decode cX10_allow 14 = .ok (.ifCond .eq 12, 3) := by decide +kernel
theorem dX10_allow_17 : decode cX10_allow 17 = .ok (.iload_n 3, 1) := by decide +kernel
theorem dX10_allow_18 : decode cX10_allow 18 = .ok (.iconst 0, 1) := by decide +kernel
theorem dX10_allow_19 : decode cX10_allow 19 = .ok (.iconst 3, 1) := by decide +kernel
theorem dX10_allow_20 : decode cX10_allow 20 = .ok (.invokestatic 87, 3) := by decide +kernel
theorem dX10_allow_23 : decode cX10_allow 23 = .ok (.ifCond .ne 5, 3) := by decide +kernel
theorem dX10_allow_26 : decode cX10_allow 26 = .ok (.iconst 0, 1) := by decide +kernel
theorem dX10_allow_27 : decode cX10_allow 27 = .ok (.ireturn, 1) := by decide +kernel
theorem dX10_allow_28 : decode cX10_allow 28 = .ok (.aload_n 0, 1) := by decide +kernel
theorem dX10_allow_29 : decode cX10_allow 29 = .ok (.getfield 26, 3) := by decide +kernel
theorem dX10_allow_32 : decode cX10_allow 32 = .ok (.iconst 3, 1) := by decide +kernel
theorem dX10_allow_33 : decode cX10_allow 33 = .ok (.iload_n 1, 1) := by decide +kernel
theorem dX10_allow_34 : decode cX10_allow 34 = .ok (.imul, 1) := by decide +kernel
theorem dX10_allow_35 : decode cX10_allow 35 = .ok (.iload_n 2, 1) := by decide +kernel
theorem dX10_allow_36 : decode cX10_allow 36 = .ok (.iadd, 1) := by decide +kernel
theorem dX10_allow_37 : decode cX10_allow 37 = .ok (.iload_n 3, 1) := by decide +kernel
theorem dX10_allow_38 : decode cX10_allow 38 = .ok (.iastore, 1) := by decide +kernel
theorem dX10_allow_39 : decode cX10_allow 39 = .ok (.iconst 1, 1) := by decide +kernel
theorem dX10_allow_40 : decode cX10_allow 40 = .ok (.ireturn, 1) := by decide +kernel
theorem dX10_copyBook_0 : decode cX10_copyBook 0 = .ok (.iconst 0, 1) := by decide +kernel
theorem dX10_copyBook_1 : decode cX10_copyBook 1 = .ok (.istore_n 3, 1) := by decide +kernel
theorem dX10_copyBook_2 : decode cX10_copyBook 2 = .ok (.iconst 0, 1) := by decide +kernel
theorem dX10_copyBook_3 : decode cX10_copyBook 3 = .ok (.istore 4, 2) := by decide +kernel
theorem dX10_copyBook_5 : decode cX10_copyBook 5 = .ok (.iload 4, 2) := by decide +kernel
theorem dX10_copyBook_7 : decode cX10_copyBook 7 = .ok (.bipush 6, 2) := by decide +kernel
theorem dX10_copyBook_9 : decode cX10_copyBook 9 = .ok (.if_icmp .ge 108, 3) := by decide +kernel
theorem dX10_copyBook_12 : decode cX10_copyBook 12 = .ok (.aload_n 0, 1) := by decide +kernel
theorem dX10_copyBook_13 : decode cX10_copyBook 13 = .ok (.getfield 20, 3) := by decide +kernel
theorem dX10_copyBook_16 : decode cX10_copyBook 16 = .ok (.iload_n 2, 1) := by decide +kernel
theorem dX10_copyBook_17 : decode cX10_copyBook 17 = .ok (.iload 4, 2) := by decide +kernel
theorem dX10_copyBook_19 : decode cX10_copyBook 19 = .ok (.iadd, 1) := by decide +kernel
theorem dX10_copyBook_20 : decode cX10_copyBook 20 = .ok (.aload_n 0, 1) := by decide +kernel
theorem dX10_copyBook_21 : decode cX10_copyBook 21 = .ok (.getfield 20, 3) := by decide +kernel
theorem dX10_copyBook_24 : decode cX10_copyBook 24 = .ok (.iload_n 1, 1) := by decide +kernel
theorem dX10_copyBook_25 : decode cX10_copyBook 25 = .ok (.iload 4, 2) := by decide +kernel
theorem dX10_copyBook_27 : decode cX10_copyBook 27 = .ok (.iadd, 1) := by decide +kernel
theorem dX10_copyBook_28 : decode cX10_copyBook 28 = .ok (.iaload, 1) := by decide +kernel
theorem dX10_copyBook_29 : decode cX10_copyBook 29 = .ok (.iastore, 1) := by decide +kernel
theorem dX10_copyBook_30 : decode cX10_copyBook 30 = .ok (.aload_n 0, 1) := by decide +kernel
theorem dX10_copyBook_31 : decode cX10_copyBook 31 = .ok (.getfield 23, 3) := by decide +kernel
theorem dX10_copyBook_34 : decode cX10_copyBook 34 = .ok (.iload_n 2, 1) := by decide +kernel
theorem dX10_copyBook_35 : decode cX10_copyBook 35 = .ok (.iload 4, 2) := by decide +kernel
theorem dX10_copyBook_37 : decode cX10_copyBook 37 = .ok (.iadd, 1) := by decide +kernel
theorem dX10_copyBook_38 : decode cX10_copyBook 38 = .ok (.aload_n 0, 1) := by decide +kernel
theorem dX10_copyBook_39 : decode cX10_copyBook 39 = .ok (.getfield 23, 3) := by decide +kernel
theorem dX10_copyBook_42 : decode cX10_copyBook 42 = .ok (.iload_n 1, 1) := by decide +kernel
theorem dX10_copyBook_43 : decode cX10_copyBook 43 = .ok (.iload 4, 2) := by decide +kernel
theorem dX10_copyBook_45 : decode cX10_copyBook 45 = .ok (.iadd, 1) := by decide +kernel
theorem dX10_copyBook_46 : decode cX10_copyBook 46 = .ok (.iaload, 1) := by decide +kernel
theorem dX10_copyBook_47 : decode cX10_copyBook 47 = .ok (.iastore, 1) := by decide +kernel
theorem dX10_copyBook_48 : decode cX10_copyBook 48 = .ok (.iconst 0, 1) := by decide +kernel
theorem dX10_copyBook_49 : decode cX10_copyBook 49 = .ok (.istore 5, 2) := by decide +kernel
theorem dX10_copyBook_51 : decode cX10_copyBook 51 = .ok (.iload 5, 2) := by decide +kernel
theorem dX10_copyBook_53 : decode cX10_copyBook 53 = .ok (.iconst 3, 1) := by decide +kernel
theorem dX10_copyBook_54 : decode cX10_copyBook 54 = .ok (.if_icmp .ge 37, 3) := by decide +kernel
theorem dX10_copyBook_57 : decode cX10_copyBook 57 = .ok (.aload_n 0, 1) := by decide +kernel
theorem dX10_copyBook_58 : decode cX10_copyBook 58 = .ok (.getfield 26, 3) := by decide +kernel
theorem dX10_copyBook_61 : decode cX10_copyBook 61 = .ok (.iconst 3, 1) := by decide +kernel
theorem dX10_copyBook_62 : decode cX10_copyBook 62 = .ok (.iload_n 2, 1) := by decide +kernel
theorem dX10_copyBook_63 : decode cX10_copyBook 63 = .ok (.iload 4, 2) := by decide +kernel
theorem dX10_copyBook_65 : decode cX10_copyBook 65 = .ok (.iadd, 1) := by decide +kernel
theorem dX10_copyBook_66 : decode cX10_copyBook 66 = .ok (.imul, 1) := by decide +kernel
theorem dX10_copyBook_67 : decode cX10_copyBook 67 = .ok (.iload 5, 2) := by decide +kernel
theorem dX10_copyBook_69 : decode cX10_copyBook 69 = .ok (.iadd, 1) := by decide +kernel
theorem dX10_copyBook_70 : decode cX10_copyBook 70 = .ok (.aload_n 0, 1) := by decide +kernel
theorem dX10_copyBook_71 : decode cX10_copyBook 71 = .ok (.getfield 26, 3) := by decide +kernel
theorem dX10_copyBook_74 : decode cX10_copyBook 74 = .ok (.iconst 3, 1) := by decide +kernel
theorem dX10_copyBook_75 : decode cX10_copyBook 75 = .ok (.iload_n 1, 1) := by decide +kernel
theorem dX10_copyBook_76 : decode cX10_copyBook 76 = .ok (.iload 4, 2) := by decide +kernel
theorem dX10_copyBook_78 : decode cX10_copyBook 78 = .ok (.iadd, 1) := by decide +kernel
theorem dX10_copyBook_79 : decode cX10_copyBook 79 = .ok (.imul, 1) := by decide +kernel
theorem dX10_copyBook_80 : decode cX10_copyBook 80 = .ok (.iload 5, 2) := by decide +kernel
theorem dX10_copyBook_82 : decode cX10_copyBook 82 = .ok (.iadd, 1) := by decide +kernel
theorem dX10_copyBook_83 : decode cX10_copyBook 83 = .ok (.iaload, 1) := by decide +kernel
theorem dX10_copyBook_84 : decode cX10_copyBook 84 = .ok (.iastore, 1) := by decide +kernel
theorem dX10_copyBook_85 : decode cX10_copyBook 85 = .ok (.iinc 5 1, 3) := by decide +kernel
theorem dX10_copyBook_88 : decode cX10_copyBook 88 = .ok (.goto (-37), 3) := by decide +kernel
theorem dX10_copyBook_91 : decode cX10_copyBook 91 = .ok (.aload_n 0, 1) := by decide +kernel
theorem dX10_copyBook_92 : decode cX10_copyBook 92 = .ok (.getfield 20, 3) := by decide +kernel
theorem dX10_copyBook_95 : decode cX10_copyBook 95 = .ok (.iload_n 1, 1) := by decide +kernel
theorem dX10_copyBook_96 : decode cX10_copyBook 96 = .ok (.iload 4, 2) := by decide +kernel
theorem dX10_copyBook_98 : decode cX10_copyBook 98 = .ok (.iadd, 1) := by decide +kernel
theorem dX10_copyBook_99 : decode cX10_copyBook 99 = .ok (.iaload, 1) := by decide +kernel
theorem dX10_copyBook_100 : decode cX10_copyBook 100 = .ok (.ifCond .lt 9, 3) := by decide +kernel
theorem dX10_copyBook_103 : decode cX10_copyBook 103 = .ok (.iload_n 3, 1) := by decide +kernel
theorem dX10_copyBook_104 : decode cX10_copyBook 104 = .ok (.iconst 1, 1) := by decide +kernel
theorem dX10_copyBook_105 : decode cX10_copyBook 105 = .ok (.iadd, 1) := by decide +kernel
theorem dX10_copyBook_106 : decode cX10_copyBook 106 = .ok (.goto 4, 3) := by decide +kernel
theorem dX10_copyBook_109 : decode cX10_copyBook 109 = .ok (.iload_n 3, 1) := by decide +kernel
theorem dX10_copyBook_110 : decode cX10_copyBook 110 = .ok (.istore_n 3, 1) := by decide +kernel
theorem dX10_copyBook_111 : decode cX10_copyBook 111 = .ok (.iinc 4 1, 3) := by decide +kernel
theorem dX10_copyBook_114 : decode cX10_copyBook 114 = .ok (.goto (-109), 3) := by decide +kernel
theorem dX10_copyBook_117 : decode cX10_copyBook 117 = .ok (.iload_n 3, 1) := by decide +kernel
theorem dX10_copyBook_118 : decode cX10_copyBook 118 = .ok (.ireturn, 1) := by decide +kernel
theorem dX10_save_0 : decode cX10_save 0 = .ok (.aload_n 0, 1) := by decide +kernel
theorem dX10_save_1 : decode cX10_save 1 = .ok (.iconst 0, 1) := by decide +kernel
theorem dX10_save_2 : decode cX10_save 2 = .ok (.bipush 6, 2) := by decide +kernel
theorem dX10_save_4 : decode cX10_save 4 = .ok (.invokevirtual 98, 3) := by decide +kernel
theorem dX10_save_7 : decode cX10_save 7 = .ok (.ireturn, 1) := by decide +kernel
theorem dX10_crash_0 : decode cX10_crash 0 = .ok (.aload_n 0, 1) := by decide +kernel
theorem dX10_crash_1 : decode cX10_crash 1 = .ok (.bipush 6, 2) := by decide +kernel
theorem dX10_crash_3 : decode cX10_crash 3 = .ok (.iconst 0, 1) := by decide +kernel
theorem dX10_crash_4 : decode cX10_crash 4 = .ok (.invokevirtual 98, 3) := by decide +kernel
theorem dX10_crash_7 : decode cX10_crash 7 = .ok (.ireturn, 1) := by decide +kernel
theorem dX10_tick_0 : decode cX10_tick 0 = .ok (.iload_n 1, 1) := by decide +kernel
theorem dX10_tick_1 : decode cX10_tick 1 = .ok (.iconst 0, 1) := by decide +kernel
theorem dX10_tick_2 : decode cX10_tick 2 = .ok (.iconst 5, 1) := by decide +kernel
theorem dX10_tick_3 : decode cX10_tick 3 = .ok (.invokestatic 87, 3) := by decide +kernel
theorem dX10_tick_6 : decode cX10_tick 6 = .ok (.ifCond .eq 14, 3) := by decide +kernel
theorem dX10_tick_9 : decode cX10_tick 9 = .ok (.iload_n 2, 1) := by decide +kernel
theorem dX10_tick_10 : decode cX10_tick 10 = .ok (.iconst 1, 1) := by decide +kernel
theorem dX10_tick_11 : decode cX10_tick 11 = .ok (.sipush 1000, 3) := by decide +kernel
theorem dX10_tick_14 : decode cX10_tick 14 = .ok (.invokestatic 87, 3) := by decide +kernel
theorem dX10_tick_17 : decode cX10_tick 17 = .ok (.ifCond .ne 5, 3) := by decide +kernel
theorem dX10_tick_20 : decode cX10_tick 20 = .ok (.iconst (-1), 1) := by decide +kernel
theorem dX10_tick_21 : decode cX10_tick 21 = .ok (.ireturn, 1) := by decide +kernel
theorem dX10_tick_22 : decode cX10_tick 22 = .ok (.aload_n 0, 1) := by decide +kernel
theorem dX10_tick_23 : decode cX10_tick 23 = .ok (.getfield 7, 3) := by decide +kernel
theorem dX10_tick_26 : decode cX10_tick 26 = .ok (.iload_n 1, 1) := by decide +kernel
theorem dX10_tick_27 : decode cX10_tick 27 = .ok (.dup2, 1) := by decide +kernel
theorem dX10_tick_28 : decode cX10_tick 28 = .ok (.iaload, 1) := by decide +kernel
theorem dX10_tick_29 : decode cX10_tick 29 = .ok (.iload_n 2, 1) := by decide +kernel
theorem dX10_tick_30 : decode cX10_tick 30 = .ok (.iadd, 1) := by decide +kernel
theorem dX10_tick_31 : decode cX10_tick 31 = .ok (.iastore, 1) := by decide +kernel
theorem dX10_tick_32 : decode cX10_tick 32 = .ok (.aload_n 0, 1) := by decide +kernel
theorem dX10_tick_33 : decode cX10_tick 33 = .ok (.getfield 7, 3) := by decide +kernel
theorem dX10_tick_36 : decode cX10_tick 36 = .ok (.iload_n 1, 1) := by decide +kernel
theorem dX10_tick_37 : decode cX10_tick 37 = .ok (.iaload, 1) := by decide +kernel
theorem dX10_tick_38 : decode cX10_tick 38 = .ok (.ireturn, 1) := by decide +kernel
theorem dX10_make_0 : decode cX10_make 0 = .ok (.aload_n 0, 1) := by decide +kernel
theorem dX10_make_1 : decode cX10_make 1 = .ok (.getfield 29, 3) := by decide +kernel
theorem dX10_make_4 : decode cX10_make 4 = .ok (.aload_n 0, 1) := by decide +kernel
theorem dX10_make_5 : decode cX10_make 5 = .ok (.getfield 102, 3) := by decide +kernel
theorem dX10_make_8 : decode cX10_make 8 = .ok (.iload_n 1, 1) := by decide +kernel
theorem dX10_make_9 : decode cX10_make 9 = .ok (.iastore, 1) := by decide +kernel
theorem dX10_make_10 : decode cX10_make 10 = .ok (.aload_n 0, 1) := by decide +kernel
theorem dX10_make_11 : decode cX10_make 11 = .ok (.getfield 32, 3) := by decide +kernel
theorem dX10_make_14 : decode cX10_make 14 = .ok (.aload_n 0, 1) := by decide +kernel
theorem dX10_make_15 : decode cX10_make 15 = .ok (.getfield 102, 3) := by decide +kernel
theorem dX10_make_18 : decode cX10_make 18 = .ok (.iload_n 2, 1) := by decide +kernel
theorem dX10_make_19 : decode cX10_make 19 = .ok (.iastore, 1) := by decide +kernel
theorem dX10_make_20 : decode cX10_make 20 = .ok (.aload_n 0, 1) := by decide +kernel
theorem dX10_make_21 : decode cX10_make 21 = .ok (.getfield 35, 3) := by decide +kernel
theorem dX10_make_24 : decode cX10_make 24 = .ok (.aload_n 0, 1) := by decide +kernel
theorem dX10_make_25 : decode cX10_make 25 = .ok (.getfield 102, 3) := by decide +kernel
theorem dX10_make_28 : decode cX10_make 28 = .ok (.iload_n 3, 1) := by decide +kernel
theorem dX10_make_29 : decode cX10_make 29 = .ok (.iastore, 1) := by decide +kernel
theorem dX10_make_30 : decode cX10_make 30 = .ok (.aload_n 0, 1) := by decide +kernel
theorem dX10_make_31 : decode cX10_make 31 = .ok (.getfield 38, 3) := by decide +kernel
theorem dX10_make_34 : decode cX10_make 34 = .ok (.aload_n 0, 1) := by decide +kernel
theorem dX10_make_35 : decode cX10_make 35 = .ok (.getfield 102, 3) := by decide +kernel
theorem dX10_make_38 : decode cX10_make 38 = .ok (.iload 4, 2) := by decide +kernel
theorem dX10_make_40 : decode cX10_make 40 = .ok (.iastore, 1) := by decide +kernel
theorem dX10_make_41 : decode cX10_make 41 = .ok (.aload_n 0, 1) := by decide +kernel
theorem dX10_make_42 : decode cX10_make 42 = .ok (.getfield 41, 3) := by decide +kernel
theorem dX10_make_45 : decode cX10_make 45 = .ok (.aload_n 0, 1) := by decide +kernel
theorem dX10_make_46 : decode cX10_make 46 = .ok (.getfield 102, 3) := by decide +kernel
theorem dX10_make_49 : decode cX10_make 49 = .ok (.iconst 0, 1) := by decide +kernel
theorem dX10_make_50 : decode cX10_make 50 = .ok (.iastore, 1) := by decide +kernel
theorem dX10_make_51 : decode cX10_make 51 = .ok (.aload_n 0, 1) := by decide +kernel
theorem dX10_make_52 : decode cX10_make 52 = .ok (.getfield 44, 3) := by decide +kernel
theorem dX10_make_55 : decode cX10_make 55 = .ok (.aload_n 0, 1) := by decide +kernel
theorem dX10_make_56 : decode cX10_make 56 = .ok (.getfield 102, 3) := by decide +kernel
theorem dX10_make_59 : decode cX10_make 59 = .ok (.iconst 0, 1) := by decide +kernel
theorem dX10_make_60 : decode cX10_make 60 = .ok (.iastore, 1) := by decide +kernel
theorem dX10_make_61 : decode cX10_make 61 = .ok (.aload_n 0, 1) := by decide +kernel
theorem dX10_make_62 : decode cX10_make 62 = .ok (.getfield 47, 3) := by decide +kernel
theorem dX10_make_65 : decode cX10_make 65 = .ok (.aload_n 0, 1) := by decide +kernel
theorem dX10_make_66 : decode cX10_make 66 = .ok (.getfield 102, 3) := by decide +kernel
theorem dX10_make_69 : decode cX10_make 69 = .ok (.iconst 0, 1) := by decide +kernel
theorem dX10_make_70 : decode cX10_make 70 = .ok (.iastore, 1) := by decide +kernel
theorem dX10_make_71 : decode cX10_make 71 = .ok (.aload_n 0, 1) := by decide +kernel
theorem dX10_make_72 : decode cX10_make 72 = .ok (.getfield 50, 3) := by decide +kernel
theorem dX10_make_75 : decode cX10_make 75 = .ok (.aload_n 0, 1) := by decide +kernel
theorem dX10_make_76 : decode cX10_make 76 = .ok (.getfield 102, 3) := by decide +kernel
theorem dX10_make_79 : decode cX10_make 79 = .ok (.iconst 0, 1) := by decide +kernel
theorem dX10_make_80 : decode cX10_make 80 = .ok (.iastore, 1) := by decide +kernel
theorem dX10_make_81 : decode cX10_make 81 = .ok (.aload_n 0, 1) := by decide +kernel
theorem dX10_make_82 : decode cX10_make 82 = .ok (.getfield 53, 3) := by decide +kernel
theorem dX10_make_85 : decode cX10_make 85 = .ok (.aload_n 0, 1) := by decide +kernel
theorem dX10_make_86 : decode cX10_make 86 = .ok (.getfield 102, 3) := by decide +kernel
theorem dX10_make_89 : decode cX10_make 89 = .ok (.iconst 0, 1) := by decide +kernel
theorem dX10_make_90 : decode cX10_make 90 = .ok (.iastore, 1) := by decide +kernel
theorem dX10_make_91 : decode cX10_make 91 = .ok (.aload_n 0, 1) := by decide +kernel
theorem dX10_make_92 : decode cX10_make 92 = .ok (.getfield 56, 3) := by decide +kernel
theorem dX10_make_95 : decode cX10_make 95 = .ok (.aload_n 0, 1) := by decide +kernel
theorem dX10_make_96 : decode cX10_make 96 = .ok (.getfield 102, 3) := by decide +kernel
theorem dX10_make_99 : decode cX10_make 99 = .ok (.iconst 0, 1) := by decide +kernel
theorem dX10_make_100 : decode cX10_make 100 = .ok (.iastore, 1) := by decide +kernel
theorem dX10_make_101 : decode cX10_make 101 = .ok (.aload_n 0, 1) := by decide +kernel
theorem dX10_make_102 : decode cX10_make 102 = .ok (.dup, 1) := by decide +kernel
theorem dX10_make_103 : decode cX10_make 103 = .ok (.getfield 102, 3) := by decide +kernel
theorem dX10_make_106 : decode cX10_make 106 = .ok (.iconst 1, 1) := by decide +kernel
theorem dX10_make_107 : decode cX10_make 107 = .ok (.iadd, 1) := by decide +kernel
theorem dX10_make_108 : decode cX10_make 108 = .ok (.putfield 102, 3) := by decide +kernel
theorem dX10_make_111 : decode cX10_make 111 = .ok (.aload_n 0, 1) := by decide +kernel
theorem dX10_make_112 : decode cX10_make 112 = .ok (.getfield 102, 3) := by decide +kernel
theorem dX10_make_115 : decode cX10_make 115 = .ok (.iconst 1, 1) := by decide +kernel
theorem dX10_make_116 : decode cX10_make 116 = .ok (.isub, 1) := by decide +kernel
theorem dX10_make_117 : decode cX10_make 117 = .ok (.ireturn, 1) := by decide +kernel
theorem dX10_makeProof_0 : decode cX10_makeProof 0 = .ok (.aload_n 0, 1) := by decide +kernel
theorem dX10_makeProof_1 : decode cX10_makeProof 1 = .ok (.iconst 1, 1) := by decide +kernel
theorem dX10_makeProof_2 : decode cX10_makeProof 2 = .ok (.iload_n 1, 1) := by decide +kernel
theorem dX10_makeProof_3 : decode cX10_makeProof 3 = .ok (.iload_n 2, 1) := by decide +kernel
theorem dX10_makeProof_4 : decode cX10_makeProof 4 = .ok (.iconst (-1), 1) := by decide +kernel
theorem dX10_makeProof_5 : decode cX10_makeProof 5 = .ok (.invokevirtual 105, 3) := by decide +kernel
theorem dX10_makeProof_8 : decode cX10_makeProof 8 = .ok (.istore 4, 2) := by decide +kernel
theorem dX10_makeProof_10 : decode cX10_makeProof 10 = .ok (.aload_n 0, 1) := by decide +kernel
theorem dX10_makeProof_11 : decode cX10_makeProof 11 = .ok (.getfield 41, 3) := by decide +kernel
theorem dX10_makeProof_14 : decode cX10_makeProof 14 = .ok (.iload 4, 2) := by decide +kernel
theorem dX10_makeProof_16 : decode cX10_makeProof 16 = .ok (.iload_n 3, 1) := by decide +kernel
theorem dX10_makeProof_17 : decode cX10_makeProof 17 = .ok (.iastore, 1) := by decide +kernel
theorem dX10_makeProof_18 : decode cX10_makeProof 18 = .ok (.iload 4, 2) := by decide +kernel
theorem dX10_makeProof_20 : decode cX10_makeProof 20 = .ok (.ireturn, 1) := by decide +kernel
theorem dX10_makeTicket_0 : decode cX10_makeTicket 0 = .ok (.aload_n 0, 1) := by decide +kernel
theorem dX10_makeTicket_1 : decode cX10_makeTicket 1 = .ok (.iconst 2, 1) := by decide +kernel
theorem dX10_makeTicket_2 : decode cX10_makeTicket 2 = .ok (.iload_n 1, 1) := by decide +kernel
theorem dX10_makeTicket_3 : decode cX10_makeTicket 3 = .ok (.iload_n 2, 1) := by decide +kernel
theorem dX10_makeTicket_4 : decode cX10_makeTicket 4 = .ok (.iload_n 3, 1) := by decide +kernel
theorem dX10_makeTicket_5 : decode cX10_makeTicket 5 = .ok (.invokevirtual 105, 3) := by decide +kernel
theorem dX10_makeTicket_8 : decode cX10_makeTicket 8 = .ok (.istore 7, 2) := by decide +kernel
theorem dX10_makeTicket_10 : decode cX10_makeTicket 10 = .ok (.aload_n 0, 1) := by decide +kernel
theorem dX10_makeTicket_11 : decode cX10_makeTicket 11 = .ok (.getfield 41, 3) := by decide +kernel
theorem dX10_makeTicket_14 : decode cX10_makeTicket 14 = .ok (.iload 7, 2) := by decide +kernel
theorem dX10_makeTicket_16 : decode cX10_makeTicket 16 = .ok (.iload 4, 2) := by decide +kernel
theorem dX10_makeTicket_18 : decode cX10_makeTicket 18 = .ok (.iastore, 1) := by decide +kernel
theorem dX10_makeTicket_19 : decode cX10_makeTicket 19 = .ok (.aload_n 0, 1) := by decide +kernel
theorem dX10_makeTicket_20 : decode cX10_makeTicket 20 = .ok (.getfield 44, 3) := by decide +kernel
theorem dX10_makeTicket_23 : decode cX10_makeTicket 23 = .ok (.iload 7, 2) := by decide +kernel
theorem dX10_makeTicket_25 : decode cX10_makeTicket 25 = .ok (.iload 5, 2) := by decide +kernel
theorem dX10_makeTicket_27 : decode cX10_makeTicket 27 = .ok (.iastore, 1) := by decide +kernel
theorem dX10_makeTicket_28 : decode cX10_makeTicket 28 = .ok (.aload_n 0, 1) := by decide +kernel
theorem dX10_makeTicket_29 : decode cX10_makeTicket 29 = .ok (.getfield 47, 3) := by decide +kernel
theorem dX10_makeTicket_32 : decode cX10_makeTicket 32 = .ok (.iload 7, 2) := by decide +kernel
theorem dX10_makeTicket_34 : decode cX10_makeTicket 34 = .ok (.iload 6, 2) := by decide +kernel
theorem dX10_makeTicket_36 : decode cX10_makeTicket 36 = .ok (.iastore, 1) := by decide +kernel
theorem dX10_makeTicket_37 : decode cX10_makeTicket 37 = .ok (.iload 7, 2) := by decide +kernel
theorem dX10_makeTicket_39 : decode cX10_makeTicket 39 = .ok (.ireturn, 1) := by decide +kernel
theorem dX10_makePart_0 : decode cX10_makePart 0 = .ok (.aload_n 0, 1) := by decide +kernel
theorem dX10_makePart_1 : decode cX10_makePart 1 = .ok (.iconst 3, 1) := by decide +kernel
theorem dX10_makePart_2 : decode cX10_makePart 2 = .ok (.iload_n 1, 1) := by decide +kernel
theorem dX10_makePart_3 : decode cX10_makePart 3 = .ok (.iconst (-1), 1) := by decide +kernel
theorem dX10_makePart_4 : decode cX10_makePart 4 = .ok (.iload_n 2, 1) := by decide +kernel
theorem dX10_makePart_5 : decode cX10_makePart 5 = .ok (.invokevirtual 105, 3) := by decide +kernel
theorem dX10_makePart_8 : decode cX10_makePart 8 = .ok (.istore 6, 2) := by decide +kernel
theorem dX10_makePart_10 : decode cX10_makePart 10 = .ok (.aload_n 0, 1) := by decide +kernel
theorem dX10_makePart_11 : decode cX10_makePart 11 = .ok (.getfield 41, 3) := by decide +kernel
theorem dX10_makePart_14 : decode cX10_makePart 14 = .ok (.iload 6, 2) := by decide +kernel
theorem dX10_makePart_16 : decode cX10_makePart 16 = .ok (.iload_n 3, 1) := by decide +kernel
theorem dX10_makePart_17 : decode cX10_makePart 17 = .ok (.iastore, 1) := by decide +kernel
theorem dX10_makePart_18 : decode cX10_makePart 18 = .ok (.aload_n 0, 1) := by decide +kernel
theorem dX10_makePart_19 : decode cX10_makePart 19 = .ok (.getfield 44, 3) := by decide +kernel
theorem dX10_makePart_22 : decode cX10_makePart 22 = .ok (.iload 6, 2) := by decide +kernel
theorem dX10_makePart_24 : decode cX10_makePart 24 = .ok (.iload 4, 2) := by decide +kernel
theorem dX10_makePart_26 : decode cX10_makePart 26 = .ok (.iastore, 1) := by decide +kernel
theorem dX10_makePart_27 : decode cX10_makePart 27 = .ok (.aload_n 0, 1) := by decide +kernel
theorem dX10_makePart_28 : decode cX10_makePart 28 = .ok (.getfield 47, 3) := by decide +kernel
theorem dX10_makePart_31 : decode cX10_makePart 31 = .ok (.iload 6, 2) := by decide +kernel
theorem dX10_makePart_33 : decode cX10_makePart 33 = .ok (.iload 5, 2) := by decide +kernel
theorem dX10_makePart_35 : decode cX10_makePart 35 = .ok (.iastore, 1) := by decide +kernel
theorem dX10_makePart_36 : decode cX10_makePart 36 = .ok (.iload 6, 2) := by decide +kernel
theorem dX10_makePart_38 : decode cX10_makePart 38 = .ok (.ireturn, 1) := by decide +kernel
theorem dX10_makeClaim_0 : decode cX10_makeClaim 0 = .ok (.aload_n 0, 1) := by decide +kernel
theorem dX10_makeClaim_1 : decode cX10_makeClaim 1 = .ok (.iconst 4, 1) := by decide +kernel
theorem dX10_makeClaim_2 : decode cX10_makeClaim 2 = .ok (.iload_n 1, 1) := by decide +kernel
theorem dX10_makeClaim_3 : decode cX10_makeClaim 3 = .ok (.iload_n 2, 1) := by decide +kernel
theorem dX10_makeClaim_4 : decode cX10_makeClaim 4 = .ok (.iconst (-1), 1) := by decide +kernel
theorem dX10_makeClaim_5 : decode cX10_makeClaim 5 = .ok (.invokevirtual 105, 3) := by decide +kernel
theorem dX10_makeClaim_8 : decode cX10_makeClaim 8 = .ok (.istore 5, 2) := by decide +kernel
theorem dX10_makeClaim_10 : decode cX10_makeClaim 10 = .ok (.aload_n 0, 1) := by decide +kernel
theorem dX10_makeClaim_11 : decode cX10_makeClaim 11 = .ok (.getfield 41, 3) := by decide +kernel
theorem dX10_makeClaim_14 : decode cX10_makeClaim 14 = .ok (.iload 5, 2) := by decide +kernel
theorem dX10_makeClaim_16 : decode cX10_makeClaim 16 = .ok (.iload_n 3, 1) := by decide +kernel
theorem dX10_makeClaim_17 : decode cX10_makeClaim 17 = .ok (.iastore, 1) := by decide +kernel
theorem dX10_makeClaim_18 : decode cX10_makeClaim 18 = .ok (.aload_n 0, 1) := by decide +kernel
theorem dX10_makeClaim_19 : decode cX10_makeClaim 19 = .ok (.getfield 44, 3) := by decide +kernel
theorem dX10_makeClaim_22 : decode cX10_makeClaim 22 = .ok (.iload 5, 2) := by decide +kernel
theorem dX10_makeClaim_24 : decode cX10_makeClaim 24 = .ok (.iload 4, 2) := by decide +kernel
theorem dX10_makeClaim_26 : decode cX10_makeClaim 26 = .ok (.iastore, 1) := by decide +kernel
theorem dX10_makeClaim_27 : decode cX10_makeClaim 27 = .ok (.iload 5, 2) := by decide +kernel
theorem dX10_makeClaim_29 : decode cX10_makeClaim 29 = .ok (.ireturn, 1) := by decide +kernel
theorem dX10_opens_0 : decode cX10_opens 0 = .ok (.iload_n 2, 1) := by decide +kernel
theorem dX10_opens_1 : decode cX10_opens 1 = .ok (.iconst 0, 1) := by decide +kernel
theorem dX10_opens_2 : decode cX10_opens 2 = .ok (.aload_n 0, 1) := by decide +kernel
theorem dX10_opens_3 : decode cX10_opens 3 = .ok (.getfield 102, 3) := by decide +kernel
theorem dX10_opens_6 : decode cX10_opens 6 = .ok (.iconst 1, 1) := by decide +kernel
theorem dX10_opens_7 : decode cX10_opens 7 = .ok (.isub, 1) := by decide +kernel
theorem dX10_opens_8 : decode cX10_opens 8 = .ok (.invokestatic 87, 3) := by decide +kernel
theorem dX10_opens_11 : decode cX10_opens 11 = .ok (.ifCond .eq 31, 3) := by decide +kernel
theorem dX10_opens_14 : decode cX10_opens 14 = .ok (.aload_n 0, 1) := by decide +kernel
theorem dX10_opens_15 : decode cX10_opens 15 = .ok (.getfield 29, 3) := by decide +kernel
theorem dX10_opens_18 : decode cX10_opens 18 = .ok (.iload_n 2, 1) := by decide +kernel
theorem dX10_opens_19 : decode cX10_opens 19 = .ok (.iaload, 1) := by decide +kernel
theorem dX10_opens_20 : decode cX10_opens 20 = .ok (.iload_n 3, 1) := by decide +kernel
theorem dX10_opens_21 : decode cX10_opens 21 = .ok (.if_icmp .ne 21, 3) := by decide +kernel
theorem dX10_opens_24 : decode cX10_opens 24 = .ok (.iload_n 1, 1) := by decide +kernel
theorem dX10_opens_25 : decode cX10_opens 25 = .ok (.ifCond .lt 17, 3) := by decide +kernel
theorem dX10_opens_28 : decode cX10_opens 28 = .ok (.aload_n 0, 1) := by decide +kernel
theorem dX10_opens_29 : decode cX10_opens 29 = .ok (.getfield 32, 3) := by decide +kernel
theorem dX10_opens_32 : decode cX10_opens 32 = .ok (.iload_n 2, 1) := by decide +kernel
theorem dX10_opens_33 : decode cX10_opens 33 = .ok (.iaload, 1) := by decide +kernel
theorem dX10_opens_34 : decode cX10_opens 34 = .ok (.iload_n 1, 1) := by decide +kernel
theorem dX10_opens_35 : decode cX10_opens 35 = .ok (.if_icmp .ne 7, 3) := by decide +kernel
theorem dX10_opens_38 : decode cX10_opens 38 = .ok (.iconst 1, 1) := by decide +kernel
theorem dX10_opens_39 : decode cX10_opens 39 = .ok (.goto 4, 3) := by decide +kernel
theorem dX10_opens_42 : decode cX10_opens 42 = .ok (.iconst 0, 1) := by decide +kernel
theorem dX10_opens_43 : decode cX10_opens 43 = .ok (.ireturn, 1) := by decide +kernel
theorem dX10_request_0 : decode cX10_request 0 = .ok (.aload_n 0, 1) := by decide +kernel
theorem dX10_request_1 : decode cX10_request 1 = .ok (.dup, 1) := by decide +kernel
theorem dX10_request_2 : decode cX10_request 2 = .ok (.getfield 109, 3) := by decide +kernel
theorem dX10_request_5 : decode cX10_request 5 = .ok (.iconst 1, 1) := by decide +kernel
theorem dX10_request_6 : decode cX10_request 6 = .ok (.iadd, 1) := by decide +kernel
theorem dX10_request_7 : decode cX10_request 7 = .ok (.putfield 109, 3) := by decide +kernel
theorem dX10_request_10 : decode cX10_request 10 = .ok (.aload_n 0, 1) := by decide +kernel
theorem dX10_request_11 : decode cX10_request 11 = .ok (.getfield 59, 3) := by decide +kernel
theorem dX10_request_14 : decode cX10_request 14 = .ok (.iload_n 1, 1) := by decide +kernel
theorem dX10_request_15 : decode cX10_request 15 = .ok (.aload_n 0, 1) := by decide +kernel
theorem dX10_request_16 : decode cX10_request 16 = .ok (.getfield 109, 3) := by decide +kernel
theorem dX10_request_19 : decode cX10_request 19 = .ok (.iastore, 1) := by decide +kernel
theorem dX10_request_20 : decode cX10_request 20 = .ok (.aload_n 0, 1) := by decide +kernel
theorem dX10_request_21 : decode cX10_request 21 = .ok (.getfield 62, 3) := by decide +kernel
theorem dX10_request_24 : decode cX10_request 24 = .ok (.iload_n 1, 1) := by decide +kernel
theorem dX10_request_25 : decode cX10_request 25 = .ok (.iload_n 2, 1) := by decide +kernel
theorem dX10_request_26 : decode cX10_request 26 = .ok (.iastore, 1) := by decide +kernel
theorem dX10_request_27 : decode cX10_request 27 = .ok (.aload_n 0, 1) := by decide +kernel
theorem dX10_request_28 : decode cX10_request 28 = .ok (.getfield 65, 3) := by decide +kernel
theorem dX10_request_31 : decode cX10_request 31 = .ok (.iload_n 1, 1) := by decide +kernel
theorem dX10_request_32 : decode cX10_request 32 = .ok (.iload_n 3, 1) := by decide +kernel
theorem dX10_request_33 : decode cX10_request 33 = .ok (.iastore, 1) := by decide +kernel
theorem dX10_request_34 : decode cX10_request 34 = .ok (.return_, 1) := by decide +kernel
theorem dX10_login_0 : decode cX10_login 0 = .ok (.aload_n 0, 1) := by decide +kernel
theorem dX10_login_1 : decode cX10_login 1 = .ok (.iload_n 1, 1) := by decide +kernel
theorem dX10_login_2 : decode cX10_login 2 = .ok (.invokevirtual 112, 3) := by decide +kernel
theorem dX10_login_5 : decode cX10_login 5 = .ok (.ifCond .eq 21, 3) := by decide +kernel
theorem dX10_login_8 : decode cX10_login 8 = .ok (.aload_n 0, 1) := by decide +kernel
theorem dX10_login_9 : decode cX10_login 9 = .ok (.getfield 13, 3) := by decide +kernel
theorem dX10_login_12 : decode cX10_login 12 = .ok (.iload_n 1, 1) := by decide +kernel
theorem dX10_login_13 : decode cX10_login 13 = .ok (.iaload, 1) := by decide +kernel
theorem dX10_login_14 : decode cX10_login 14 = .ok (.ifCond .lt 12, 3) := by decide +kernel
theorem dX10_login_17 : decode cX10_login 17 = .ok (.iload_n 2, 1) := by decide +kernel
theorem dX10_login_18 : decode cX10_login 18 = .ok (.iconst 0, 1) := by decide +kernel
theorem dX10_login_19 : decode cX10_login 19 = .ok (.iconst 1, 1) := by decide +kernel
theorem dX10_login_20 : decode cX10_login 20 = .ok (.invokestatic 87, 3) := by decide +kernel
theorem dX10_login_23 : decode cX10_login 23 = .ok (.ifCond .ne 5, 3) := by decide +kernel
theorem dX10_login_26 : decode cX10_login 26 = .ok (.iconst (-1), 1) := by decide +kernel
theorem dX10_login_27 : decode cX10_login 27 = .ok (.ireturn, 1) := by decide +kernel
theorem dX10_login_28 : decode cX10_login 28 = .ok (.aload_n 0, 1) := by decide +kernel
theorem dX10_login_29 : decode cX10_login 29 = .ok (.getfield 102, 3) := by decide +kernel
theorem dX10_login_32 : decode cX10_login 32 = .ok (.sipush 150, 3) := by decide +kernel
theorem dX10_login_35 : decode cX10_login 35 = .ok (.if_icmp .lt 6, 3) := by decide +kernel
theorem dX10_login_38 : decode cX10_login 38 = .ok (.bipush (-7), 2) := by decide +kernel
theorem dX10_login_40 : decode cX10_login 40 = .ok (.ireturn, 1) := by decide +kernel
theorem dX10_login_41 : decode cX10_login 41 = .ok (.aload_n 0, 1) := by decide +kernel
theorem dX10_login_42 : decode cX10_login 42 = .ok (.iload_n 1, 1) := by decide +kernel
theorem dX10_login_43 : decode cX10_login 43 = .ok (.iload_n 2, 1) := by decide +kernel
theorem dX10_login_44 : decode cX10_login 44 = .ok (.aload_n 0, 1) := by decide +kernel
theorem dX10_login_45 : decode cX10_login 45 = .ok (.getfield 13, 3) := by decide +kernel
theorem dX10_login_48 : decode cX10_login 48 = .ok (.iload_n 1, 1) := by decide +kernel
theorem dX10_login_49 : decode cX10_login 49 = .ok (.iaload, 1) := by decide +kernel
theorem dX10_login_50 : decode cX10_login 50 = .ok (.invokevirtual 115, 3) := by decide +kernel
theorem dX10_login_53 : decode cX10_login 53 = .ok (.aload_n 0, 1) := by decide +kernel
theorem dX10_login_54 : decode cX10_login 54 = .ok (.aload_n 0, 1) := by decide +kernel
theorem dX10_login_55 : decode cX10_login 55 = .ok (.getfield 13, 3) := by decide +kernel
theorem dX10_login_58 : decode cX10_login 58 = .ok (.iload_n 1, 1) := by decide +kernel
theorem dX10_login_59 : decode cX10_login 59 = .ok (.iaload, 1) := by decide +kernel
theorem dX10_login_60 : decode cX10_login 60 = .ok (.iload_n 1, 1) := by decide +kernel
theorem dX10_login_61 : decode cX10_login 61 = .ok (.aload_n 0, 1) := by decide +kernel
theorem dX10_login_62 : decode cX10_login 62 = .ok (.getfield 7, 3) := by decide +kernel
theorem dX10_login_65 : decode cX10_login 65 = .ok (.iload_n 1, 1) := by decide +kernel
theorem dX10_login_66 : decode cX10_login 66 = .ok (.iaload, 1) := by decide +kernel
theorem dX10_login_67 : decode cX10_login 67 = .ok (.invokevirtual 119, 3) := by decide +kernel
theorem dX10_login_70 : decode cX10_login 70 = .ok (.ireturn, 1) := by decide +kernel
theorem dX10_ask_0 : decode cX10_ask 0 = .ok (.aload_n 0, 1) := by decide +kernel
theorem dX10_ask_1 : decode cX10_ask 1 = .ok (.iload_n 1, 1) := by decide +kernel
theorem dX10_ask_2 : decode cX10_ask 2 = .ok (.invokevirtual 112, 3) := by decide +kernel
theorem dX10_ask_5 : decode cX10_ask 5 = .ok (.ifCond .eq 23, 3) := by decide +kernel
theorem dX10_ask_8 : decode cX10_ask 8 = .ok (.aload_n 0, 1) := by decide +kernel
theorem dX10_ask_9 : decode cX10_ask 9 = .ok (.getfield 68, 3) := by decide +kernel
theorem dX10_ask_12 : decode cX10_ask 12 = .ok (.iconst 2, 1) := by decide +kernel
theorem dX10_ask_13 : decode cX10_ask 13 = .ok (.iload_n 1, 1) := by decide +kernel
theorem dX10_ask_14 : decode cX10_ask 14 = .ok (.imul, 1) := by decide +kernel
theorem dX10_ask_15 : decode cX10_ask 15 = .ok (.iaload, 1) := by decide +kernel
theorem dX10_ask_16 : decode cX10_ask 16 = .ok (.ifCond .lt 12, 3) := by decide +kernel
theorem dX10_ask_19 : decode cX10_ask 19 = .ok (.iload_n 2, 1) := by decide +kernel
theorem dX10_ask_20 : decode cX10_ask 20 = .ok (.iconst 0, 1) := by decide +kernel
theorem dX10_ask_21 : decode cX10_ask 21 = .ok (.iconst 1, 1) := by decide +kernel
theorem dX10_ask_22 : decode cX10_ask 22 = .ok (.invokestatic 87, 3) := by decide +kernel
theorem dX10_ask_25 : decode cX10_ask 25 = .ok (.ifCond .ne 5, 3) := by decide +kernel
theorem dX10_ask_28 : decode cX10_ask 28 = .ok (.iconst (-1), 1) := by decide +kernel
theorem dX10_ask_29 : decode cX10_ask 29 = .ok (.ireturn, 1) := by decide +kernel
theorem dX10_ask_30 : decode cX10_ask 30 = .ok (.aload_n 0, 1) := by decide +kernel
theorem dX10_ask_31 : decode cX10_ask 31 = .ok (.getfield 102, 3) := by decide +kernel
theorem dX10_ask_34 : decode cX10_ask 34 = .ok (.sipush 150, 3) := by decide +kernel
theorem dX10_ask_37 : decode cX10_ask 37 = .ok (.if_icmp .lt 6, 3) := by decide +kernel
theorem dX10_ask_40 : decode cX10_ask 40 = .ok (.bipush (-7), 2) := by decide +kernel
theorem dX10_ask_42 : decode cX10_ask 42 = .ok (.ireturn, 1) := by decide +kernel
theorem dX10_ask_43 : decode cX10_ask 43 = .ok (.aload_n 0, 1) := by decide +kernel
theorem dX10_ask_44 : decode cX10_ask 44 = .ok (.iload_n 1, 1) := by decide +kernel
theorem dX10_ask_45 : decode cX10_ask 45 = .ok (.iload_n 2, 1) := by decide +kernel
theorem dX10_ask_46 : decode cX10_ask 46 = .ok (.aload_n 0, 1) := by decide +kernel
theorem dX10_ask_47 : decode cX10_ask 47 = .ok (.getfield 71, 3) := by decide +kernel
theorem dX10_ask_50 : decode cX10_ask 50 = .ok (.iconst 2, 1) := by decide +kernel
theorem dX10_ask_51 : decode cX10_ask 51 = .ok (.iload_n 1, 1) := by decide +kernel
theorem dX10_ask_52 : decode cX10_ask 52 = .ok (.imul, 1) := by decide +kernel
theorem dX10_ask_53 : decode cX10_ask 53 = .ok (.iaload, 1) := by decide +kernel
theorem dX10_ask_54 : decode cX10_ask 54 = .ok (.invokevirtual 115, 3) := by decide +kernel
theorem dX10_ask_57 : decode cX10_ask 57 = .ok (.aload_n 0, 1) := by decide +kernel
end
section
theorem dX10_ask_58 : decode cX10_ask 58 = .ok (.getfield 74, 3) := by decide +kernel
theorem dX10_ask_61 : decode cX10_ask 61 = .ok (.iload_n 1, 1) := by decide +kernel
theorem dX10_ask_62 : decode cX10_ask 62 = .ok (.dup2, 1) := by decide +kernel
theorem dX10_ask_63 : decode cX10_ask 63 = .ok (.iaload, 1) := by decide +kernel
theorem dX10_ask_64 : decode cX10_ask 64 = .ok (.iconst 1, 1) := by decide +kernel
theorem dX10_ask_65 : decode cX10_ask 65 = .ok (.iadd, 1) := by decide +kernel
theorem dX10_ask_66 : decode cX10_ask 66 = .ok (.iastore, 1) := by decide +kernel
theorem dX10_ask_67 : decode cX10_ask 67 = .ok (.aload_n 0, 1) := by decide +kernel
theorem dX10_ask_68 : decode cX10_ask 68 = .ok (.aload_n 0, 1) := by decide +kernel
theorem dX10_ask_69 : decode cX10_ask 69 = .ok (.getfield 71, 3) := by decide +kernel
theorem dX10_ask_72 : decode cX10_ask 72 = .ok (.iconst 2, 1) := by decide +kernel
theorem dX10_ask_73 : decode cX10_ask 73 = .ok (.iload_n 1, 1) := by decide +kernel
theorem dX10_ask_74 : decode cX10_ask 74 = .ok (.imul, 1) := by decide +kernel
theorem dX10_ask_75 : decode cX10_ask 75 = .ok (.iaload, 1) := by decide +kernel
theorem dX10_ask_76 : decode cX10_ask 76 = .ok (.iload_n 1, 1) := by decide +kernel
theorem dX10_ask_77 : decode cX10_ask 77 = .ok (.aload_n 0, 1) := by decide +kernel
theorem dX10_ask_78 : decode cX10_ask 78 = .ok (.getfield 7, 3) := by decide +kernel
theorem dX10_ask_81 : decode cX10_ask 81 = .ok (.iload_n 1, 1) := by decide +kernel
theorem dX10_ask_82 : decode cX10_ask 82 = .ok (.iaload, 1) := by decide +kernel
theorem dX10_ask_83 : decode cX10_ask 83 = .ok (.aload_n 0, 1) := by decide +kernel
theorem dX10_ask_84 : decode cX10_ask 84 = .ok (.getfield 74, 3) := by decide +kernel
theorem dX10_ask_87 : decode cX10_ask 87 = .ok (.iload_n 1, 1) := by decide +kernel
theorem dX10_ask_88 : decode cX10_ask 88 = .ok (.iaload, 1) := by decide +kernel
theorem dX10_ask_89 : decode cX10_ask 89 = .ok (.invokevirtual 123, 3) := by decide +kernel
theorem dX10_ask_92 : decode cX10_ask 92 = .ok (.ireturn, 1) := by decide +kernel
theorem dX10_receive_0 : decode cX10_receive 0 = .ok (.aload_n 0, 1) := by decide +kernel
theorem dX10_receive_1 : decode cX10_receive 1 = .ok (.iload_n 1, 1) := by decide +kernel
theorem dX10_receive_2 : decode cX10_receive 2 = .ok (.invokevirtual 112, 3) := by decide +kernel
theorem dX10_receive_5 : decode cX10_receive 5 = .ok (.ifCond .eq 26, 3) := by decide +kernel
theorem dX10_receive_8 : decode cX10_receive 8 = .ok (.aload_n 0, 1) := by decide +kernel
theorem dX10_receive_9 : decode cX10_receive 9 = .ok (.getfield 59, 3) := by decide +kernel
theorem dX10_receive_12 : decode cX10_receive 12 = .ok (.iload_n 1, 1) := by decide +kernel
theorem dX10_receive_13 : decode cX10_receive 13 = .ok (.iaload, 1) := by decide +kernel
theorem dX10_receive_14 : decode cX10_receive 14 = .ok (.ifCond .eq 17, 3) := by decide +kernel
theorem dX10_receive_17 : decode cX10_receive 17 = .ok (.iload_n 3, 1) := by decide +kernel
theorem dX10_receive_18 : decode cX10_receive 18 = .ok (.iconst 0, 1) := by decide +kernel
theorem dX10_receive_19 : decode cX10_receive 19 = .ok (.aload_n 0, 1) := by decide +kernel
theorem dX10_receive_20 : decode cX10_receive 20 = .ok (.getfield 102, 3) := by decide +kernel
theorem dX10_receive_23 : decode cX10_receive 23 = .ok (.iconst 1, 1) := by decide +kernel
theorem dX10_receive_24 : decode cX10_receive 24 = .ok (.isub, 1) := by decide +kernel
theorem dX10_receive_25 : decode cX10_receive 25 = .ok (.invokestatic 87, 3) := by decide +kernel
theorem dX10_receive_28 : decode cX10_receive 28 = .ok (.ifCond .ne 5, 3) := by decide +kernel
theorem dX10_receive_31 : decode cX10_receive 31 = .ok (.iconst 0, 1) := by decide +kernel
theorem dX10_receive_32 : decode cX10_receive 32 = .ok (.ireturn, 1) := by decide +kernel
theorem dX10_receive_33 : decode cX10_receive 33 = .ok (.aload_n 0, 1) := by decide +kernel
theorem dX10_receive_34 : decode cX10_receive 34 = .ok (.aload_n 0, 1) := by decide +kernel
theorem dX10_receive_35 : decode cX10_receive 35 = .ok (.getfield 65, 3) := by decide +kernel
theorem dX10_receive_38 : decode cX10_receive 38 = .ok (.iload_n 1, 1) := by decide +kernel
theorem dX10_receive_39 : decode cX10_receive 39 = .ok (.iaload, 1) := by decide +kernel
theorem dX10_receive_40 : decode cX10_receive 40 = .ok (.iload_n 2, 1) := by decide +kernel
theorem dX10_receive_41 : decode cX10_receive 41 = .ok (.iconst 3, 1) := by decide +kernel
theorem dX10_receive_42 : decode cX10_receive 42 = .ok (.invokevirtual 126, 3) := by decide +kernel
theorem dX10_receive_45 : decode cX10_receive 45 = .ok (.ifCond .eq 33, 3) := by decide +kernel
theorem dX10_receive_48 : decode cX10_receive 48 = .ok (.aload_n 0, 1) := by decide +kernel
theorem dX10_receive_49 : decode cX10_receive 49 = .ok (.getfield 41, 3) := by decide +kernel
theorem dX10_receive_52 : decode cX10_receive 52 = .ok (.iload_n 2, 1) := by decide +kernel
theorem dX10_receive_53 : decode cX10_receive 53 = .ok (.iaload, 1) := by decide +kernel
theorem dX10_receive_54 : decode cX10_receive 54 = .ok (.aload_n 0, 1) := by decide +kernel
theorem dX10_receive_55 : decode cX10_receive 55 = .ok (.getfield 59, 3) := by decide +kernel
theorem dX10_receive_58 : decode cX10_receive 58 = .ok (.iload_n 1, 1) := by decide +kernel
theorem dX10_receive_59 : decode cX10_receive 59 = .ok (.iaload, 1) := by decide +kernel
theorem dX10_receive_60 : decode cX10_receive 60 = .ok (.if_icmp .ne 18, 3) := by decide +kernel
theorem dX10_receive_63 : decode cX10_receive 63 = .ok (.aload_n 0, 1) := by decide +kernel
theorem dX10_receive_64 : decode cX10_receive 64 = .ok (.getfield 44, 3) := by decide +kernel
theorem dX10_receive_67 : decode cX10_receive 67 = .ok (.iload_n 2, 1) := by decide +kernel
theorem dX10_receive_68 : decode cX10_receive 68 = .ok (.iaload, 1) := by decide +kernel
theorem dX10_receive_69 : decode cX10_receive 69 = .ok (.aload_n 0, 1) := by decide +kernel
theorem dX10_receive_70 : decode cX10_receive 70 = .ok (.getfield 62, 3) := by decide +kernel
theorem dX10_receive_73 : decode cX10_receive 73 = .ok (.iload_n 1, 1) := by decide +kernel
theorem dX10_receive_74 : decode cX10_receive 74 = .ok (.iaload, 1) := by decide +kernel
theorem dX10_receive_75 : decode cX10_receive 75 = .ok (.if_icmp .eq 5, 3) := by decide +kernel
theorem dX10_receive_78 : decode cX10_receive 78 = .ok (.iconst 0, 1) := by decide +kernel
theorem dX10_receive_79 : decode cX10_receive 79 = .ok (.ireturn, 1) := by decide +kernel
theorem dX10_receive_80 : decode cX10_receive 80 = .ok (.aload_n 0, 1) := by decide +kernel
theorem dX10_receive_81 : decode cX10_receive 81 = .ok (.getfield 68, 3) := by decide +kernel
theorem dX10_receive_84 : decode cX10_receive 84 = .ok (.iconst 2, 1) := by decide +kernel
theorem dX10_receive_85 : decode cX10_receive 85 = .ok (.iload_n 1, 1) := by decide +kernel
theorem dX10_receive_86 : decode cX10_receive 86 = .ok (.imul, 1) := by decide +kernel
theorem dX10_receive_87 : decode cX10_receive 87 = .ok (.aload_n 0, 1) := by decide +kernel
theorem dX10_receive_88 : decode cX10_receive 88 = .ok (.getfield 62, 3) := by decide +kernel
theorem dX10_receive_91 : decode cX10_receive 91 = .ok (.iload_n 1, 1) := by decide +kernel
theorem dX10_receive_92 : decode cX10_receive 92 = .ok (.iaload, 1) := by decide +kernel
theorem dX10_receive_93 : decode cX10_receive 93 = .ok (.iadd, 1) := by decide +kernel
theorem dX10_receive_94 : decode cX10_receive 94 = .ok (.iload_n 3, 1) := by decide +kernel
theorem dX10_receive_95 : decode cX10_receive 95 = .ok (.iastore, 1) := by decide +kernel
theorem dX10_receive_96 : decode cX10_receive 96 = .ok (.aload_n 0, 1) := by decide +kernel
theorem dX10_receive_97 : decode cX10_receive 97 = .ok (.getfield 71, 3) := by decide +kernel
theorem dX10_receive_100 : decode cX10_receive 100 = .ok (.iconst 2, 1) := by decide +kernel
theorem dX10_receive_101 : decode cX10_receive 101 = .ok (.iload_n 1, 1) := by decide +kernel
theorem dX10_receive_102 : decode cX10_receive 102 = .ok (.imul, 1) := by decide +kernel
theorem dX10_receive_103 : decode cX10_receive 103 = .ok (.aload_n 0, 1) := by decide +kernel
theorem dX10_receive_104 : decode cX10_receive 104 = .ok (.getfield 62, 3) := by decide +kernel
theorem dX10_receive_107 : decode cX10_receive 107 = .ok (.iload_n 1, 1) := by decide +kernel
theorem dX10_receive_108 : decode cX10_receive 108 = .ok (.iaload, 1) := by decide +kernel
theorem dX10_receive_109 : decode cX10_receive 109 = .ok (.iadd, 1) := by decide +kernel
theorem dX10_receive_110 : decode cX10_receive 110 = .ok (.aload_n 0, 1) := by decide +kernel
theorem dX10_receive_111 : decode cX10_receive 111 = .ok (.getfield 38, 3) := by decide +kernel
theorem dX10_receive_114 : decode cX10_receive 114 = .ok (.iload_n 2, 1) := by decide +kernel
theorem dX10_receive_115 : decode cX10_receive 115 = .ok (.iaload, 1) := by decide +kernel
theorem dX10_receive_116 : decode cX10_receive 116 = .ok (.iastore, 1) := by decide +kernel
theorem dX10_receive_117 : decode cX10_receive 117 = .ok (.aload_n 0, 1) := by decide +kernel
theorem dX10_receive_118 : decode cX10_receive 118 = .ok (.getfield 59, 3) := by decide +kernel
theorem dX10_receive_121 : decode cX10_receive 121 = .ok (.iload_n 1, 1) := by decide +kernel
theorem dX10_receive_122 : decode cX10_receive 122 = .ok (.iconst 0, 1) := by decide +kernel
theorem dX10_receive_123 : decode cX10_receive 123 = .ok (.iastore, 1) := by decide +kernel
theorem dX10_receive_124 : decode cX10_receive 124 = .ok (.iconst 1, 1) := by decide +kernel
theorem dX10_receive_125 : decode cX10_receive 125 = .ok (.ireturn, 1) := by decide +kernel
theorem dX10_order_0 : decode cX10_order 0 = .ok (.aload_n 0, 1) := by decide +kernel
theorem dX10_order_1 : decode cX10_order 1 = .ok (.iload_n 1, 1) := by decide +kernel
theorem dX10_order_2 : decode cX10_order 2 = .ok (.invokevirtual 112, 3) := by decide +kernel
theorem dX10_order_5 : decode cX10_order 5 = .ok (.ifCond .eq 34, 3) := by decide +kernel
theorem dX10_order_8 : decode cX10_order 8 = .ok (.aload_n 0, 1) := by decide +kernel
theorem dX10_order_9 : decode cX10_order 9 = .ok (.getfield 68, 3) := by decide +kernel
theorem dX10_order_12 : decode cX10_order 12 = .ok (.iconst 2, 1) := by decide +kernel
theorem dX10_order_13 : decode cX10_order 13 = .ok (.iload_n 1, 1) := by decide +kernel
theorem dX10_order_14 : decode cX10_order 14 = .ok (.imul, 1) := by decide +kernel
theorem dX10_order_15 : decode cX10_order 15 = .ok (.iconst 1, 1) := by decide +kernel
theorem dX10_order_16 : decode cX10_order 16 = .ok (.iadd, 1) := by decide +kernel
theorem dX10_order_17 : decode cX10_order 17 = .ok (.iaload, 1) := by decide +kernel
theorem dX10_order_18 : decode cX10_order 18 = .ok (.ifCond .lt 21, 3) := by decide +kernel
theorem dX10_order_21 : decode cX10_order 21 = .ok (.iload_n 2, 1) := by decide +kernel
theorem dX10_order_22 : decode cX10_order 22 = .ok (.iconst 1, 1) := by decide +kernel
theorem dX10_order_23 : decode cX10_order 23 = .ok (.iconst 3, 1) := by decide +kernel
theorem dX10_order_24 : decode cX10_order 24 = .ok (.invokestatic 87, 3) := by decide +kernel
theorem dX10_order_27 : decode cX10_order 27 = .ok (.ifCond .eq 12, 3) := by decide +kernel
theorem dX10_order_30 : decode cX10_order 30 = .ok (.iload_n 3, 1) := by decide +kernel
theorem dX10_order_31 : decode cX10_order 31 = .ok (.iconst 0, 1) := by decide +kernel
theorem dX10_order_32 : decode cX10_order 32 = .ok (.iconst 2, 1) := by decide +kernel
theorem dX10_order_33 : decode cX10_order 33 = .ok (.invokestatic 87, 3) := by decide +kernel
theorem dX10_order_36 : decode cX10_order 36 = .ok (.ifCond .ne 5, 3) := by decide +kernel
theorem dX10_order_39 : decode cX10_order 39 = .ok (.iconst (-1), 1) := by decide +kernel
theorem dX10_order_40 : decode cX10_order 40 = .ok (.ireturn, 1) := by decide +kernel
theorem dX10_order_41 : decode cX10_order 41 = .ok (.aload_n 0, 1) := by decide +kernel
theorem dX10_order_42 : decode cX10_order 42 = .ok (.getfield 102, 3) := by decide +kernel
theorem dX10_order_45 : decode cX10_order 45 = .ok (.sipush 150, 3) := by decide +kernel
theorem dX10_order_48 : decode cX10_order 48 = .ok (.if_icmp .lt 6, 3) := by decide +kernel
theorem dX10_order_51 : decode cX10_order 51 = .ok (.bipush (-7), 2) := by decide +kernel
theorem dX10_order_53 : decode cX10_order 53 = .ok (.ireturn, 1) := by decide +kernel
theorem dX10_order_54 : decode cX10_order 54 = .ok (.aload_n 0, 1) := by decide +kernel
theorem dX10_order_55 : decode cX10_order 55 = .ok (.getfield 74, 3) := by decide +kernel
theorem dX10_order_58 : decode cX10_order 58 = .ok (.iload_n 1, 1) := by decide +kernel
theorem dX10_order_59 : decode cX10_order 59 = .ok (.dup2, 1) := by decide +kernel
theorem dX10_order_60 : decode cX10_order 60 = .ok (.iaload, 1) := by decide +kernel
theorem dX10_order_61 : decode cX10_order 61 = .ok (.iconst 1, 1) := by decide +kernel
theorem dX10_order_62 : decode cX10_order 62 = .ok (.iadd, 1) := by decide +kernel
theorem dX10_order_63 : decode cX10_order 63 = .ok (.iastore, 1) := by decide +kernel
theorem dX10_order_64 : decode cX10_order 64 = .ok (.aload_n 0, 1) := by decide +kernel
theorem dX10_order_65 : decode cX10_order 65 = .ok (.aload_n 0, 1) := by decide +kernel
theorem dX10_order_66 : decode cX10_order 66 = .ok (.getfield 71, 3) := by decide +kernel
theorem dX10_order_69 : decode cX10_order 69 = .ok (.iconst 2, 1) := by decide +kernel
theorem dX10_order_70 : decode cX10_order 70 = .ok (.iload_n 1, 1) := by decide +kernel
theorem dX10_order_71 : decode cX10_order 71 = .ok (.imul, 1) := by decide +kernel
theorem dX10_order_72 : decode cX10_order 72 = .ok (.iconst 1, 1) := by decide +kernel
theorem dX10_order_73 : decode cX10_order 73 = .ok (.iadd, 1) := by decide +kernel
theorem dX10_order_74 : decode cX10_order 74 = .ok (.iaload, 1) := by decide +kernel
theorem dX10_order_75 : decode cX10_order 75 = .ok (.iload_n 1, 1) := by decide +kernel
theorem dX10_order_76 : decode cX10_order 76 = .ok (.aload_n 0, 1) := by decide +kernel
theorem dX10_order_77 : decode cX10_order 77 = .ok (.getfield 7, 3) := by decide +kernel
theorem dX10_order_80 : decode cX10_order 80 = .ok (.iload_n 1, 1) := by decide +kernel
theorem dX10_order_81 : decode cX10_order 81 = .ok (.iaload, 1) := by decide +kernel
theorem dX10_order_82 : decode cX10_order 82 = .ok (.aload_n 0, 1) := by decide +kernel
theorem dX10_order_83 : decode cX10_order 83 = .ok (.getfield 74, 3) := by decide +kernel
theorem dX10_order_86 : decode cX10_order 86 = .ok (.iload_n 1, 1) := by decide +kernel
theorem dX10_order_87 : decode cX10_order 87 = .ok (.iaload, 1) := by decide +kernel
theorem dX10_order_88 : decode cX10_order 88 = .ok (.invokevirtual 123, 3) := by decide +kernel
theorem dX10_order_91 : decode cX10_order 91 = .ok (.istore 5, 2) := by decide +kernel
theorem dX10_order_93 : decode cX10_order 93 = .ok (.aload_n 0, 1) := by decide +kernel
theorem dX10_order_94 : decode cX10_order 94 = .ok (.getfield 50, 3) := by decide +kernel
theorem dX10_order_97 : decode cX10_order 97 = .ok (.iload 5, 2) := by decide +kernel
theorem dX10_order_99 : decode cX10_order 99 = .ok (.iload_n 2, 1) := by decide +kernel
theorem dX10_order_100 : decode cX10_order 100 = .ok (.iastore, 1) := by decide +kernel
theorem dX10_order_101 : decode cX10_order 101 = .ok (.aload_n 0, 1) := by decide +kernel
theorem dX10_order_102 : decode cX10_order 102 = .ok (.getfield 53, 3) := by decide +kernel
theorem dX10_order_105 : decode cX10_order 105 = .ok (.iload 5, 2) := by decide +kernel
theorem dX10_order_107 : decode cX10_order 107 = .ok (.iload_n 3, 1) := by decide +kernel
theorem dX10_order_108 : decode cX10_order 108 = .ok (.iastore, 1) := by decide +kernel
theorem dX10_order_109 : decode cX10_order 109 = .ok (.aload_n 0, 1) := by decide +kernel
theorem dX10_order_110 : decode cX10_order 110 = .ok (.getfield 56, 3) := by decide +kernel
theorem dX10_order_113 : decode cX10_order 113 = .ok (.iload 5, 2) := by decide +kernel
theorem dX10_order_115 : decode cX10_order 115 = .ok (.iload 4, 2) := by decide +kernel
theorem dX10_order_117 : decode cX10_order 117 = .ok (.iastore, 1) := by decide +kernel
theorem dX10_order_118 : decode cX10_order 118 = .ok (.iload 5, 2) := by decide +kernel
theorem dX10_order_120 : decode cX10_order 120 = .ok (.ireturn, 1) := by decide +kernel
theorem dX10_least_0 : decode cX10_least 0 = .ok (.iload_n 0, 1) := by decide +kernel
theorem dX10_least_1 : decode cX10_least 1 = .ok (.iload_n 1, 1) := by decide +kernel
theorem dX10_least_2 : decode cX10_least 2 = .ok (.if_icmp .ge 7, 3) := by decide +kernel
theorem dX10_least_5 : decode cX10_least 5 = .ok (.iload_n 0, 1) := by decide +kernel
theorem dX10_least_6 : decode cX10_least 6 = .ok (.goto 4, 3) := by decide +kernel
theorem dX10_least_9 : decode cX10_least 9 = .ok (.iload_n 1, 1) := by decide +kernel
theorem dX10_least_10 : decode cX10_least 10 = .ok (.ireturn, 1) := by decide +kernel
theorem dX10_bothSeals_0 : decode cX10_bothSeals 0 = .ok (.aload_n 0, 1) := by decide +kernel
theorem dX10_bothSeals_1 : decode cX10_bothSeals 1 = .ok (.aload_n 0, 1) := by decide +kernel
theorem dX10_bothSeals_2 : decode cX10_bothSeals 2 = .ok (.getfield 20, 3) := by decide +kernel
theorem dX10_bothSeals_5 : decode cX10_bothSeals 5 = .ok (.iload_n 2, 1) := by decide +kernel
theorem dX10_bothSeals_6 : decode cX10_bothSeals 6 = .ok (.iaload, 1) := by decide +kernel
theorem dX10_bothSeals_7 : decode cX10_bothSeals 7 = .ok (.iload_n 1, 1) := by decide +kernel
theorem dX10_bothSeals_8 : decode cX10_bothSeals 8 = .ok (.aload_n 0, 1) := by decide +kernel
theorem dX10_bothSeals_9 : decode cX10_bothSeals 9 = .ok (.getfield 91, 3) := by decide +kernel
theorem dX10_bothSeals_12 : decode cX10_bothSeals 12 = .ok (.aload_n 0, 1) := by decide +kernel
theorem dX10_bothSeals_13 : decode cX10_bothSeals 13 = .ok (.getfield 7, 3) := by decide +kernel
theorem dX10_bothSeals_16 : decode cX10_bothSeals 16 = .ok (.iconst 0, 1) := by decide +kernel
theorem dX10_bothSeals_17 : decode cX10_bothSeals 17 = .ok (.iaload, 1) := by decide +kernel
theorem dX10_bothSeals_18 : decode cX10_bothSeals 18 = .ok (.iload 4, 2) := by decide +kernel
theorem dX10_bothSeals_20 : decode cX10_bothSeals 20 = .ok (.iload 5, 2) := by decide +kernel
theorem dX10_bothSeals_22 : decode cX10_bothSeals 22 = .ok (.invokevirtual 129, 3) := by decide +kernel
theorem dX10_bothSeals_25 : decode cX10_bothSeals 25 = .ok (.pop, 1) := by decide +kernel
theorem dX10_bothSeals_26 : decode cX10_bothSeals 26 = .ok (.aload_n 0, 1) := by decide +kernel
theorem dX10_bothSeals_27 : decode cX10_bothSeals 27 = .ok (.iload 6, 2) := by decide +kernel
theorem dX10_bothSeals_29 : decode cX10_bothSeals 29 = .ok (.aload_n 0, 1) := by decide +kernel
theorem dX10_bothSeals_30 : decode cX10_bothSeals 30 = .ok (.getfield 91, 3) := by decide +kernel
theorem dX10_bothSeals_33 : decode cX10_bothSeals 33 = .ok (.iload_n 3, 1) := by decide +kernel
theorem dX10_bothSeals_34 : decode cX10_bothSeals 34 = .ok (.iload_n 2, 1) := by decide +kernel
theorem dX10_bothSeals_35 : decode cX10_bothSeals 35 = .ok (.iload 4, 2) := by decide +kernel
theorem dX10_bothSeals_37 : decode cX10_bothSeals 37 = .ok (.invokevirtual 133, 3) := by decide +kernel
theorem dX10_bothSeals_40 : decode cX10_bothSeals 40 = .ok (.istore 7, 2) := by decide +kernel
theorem dX10_bothSeals_42 : decode cX10_bothSeals 42 = .ok (.aload_n 0, 1) := by decide +kernel
theorem dX10_bothSeals_43 : decode cX10_bothSeals 43 = .ok (.dup, 1) := by decide +kernel
theorem dX10_bothSeals_44 : decode cX10_bothSeals 44 = .ok (.getfield 91, 3) := by decide +kernel
theorem dX10_bothSeals_47 : decode cX10_bothSeals 47 = .ok (.iconst 1, 1) := by decide +kernel
theorem dX10_bothSeals_48 : decode cX10_bothSeals 48 = .ok (.iadd, 1) := by decide +kernel
theorem dX10_bothSeals_49 : decode cX10_bothSeals 49 = .ok (.putfield 91, 3) := by decide +kernel
theorem dX10_bothSeals_52 : decode cX10_bothSeals 52 = .ok (.iload 7, 2) := by decide +kernel
theorem dX10_bothSeals_54 : decode cX10_bothSeals 54 = .ok (.iconst 1, 1) := by decide +kernel
theorem dX10_bothSeals_55 : decode cX10_bothSeals 55 = .ok (.isub, 1) := by decide +kernel
theorem dX10_bothSeals_56 : decode cX10_bothSeals 56 = .ok (.ireturn, 1) := by decide +kernel
theorem dX10_issue_0 : decode cX10_issue 0 = .ok (.aload_n 0, 1) := by decide +kernel
theorem dX10_issue_1 : decode cX10_issue 1 = .ok (.iload_n 1, 1) := by decide +kernel
theorem dX10_issue_2 : decode cX10_issue 2 = .ok (.invokevirtual 112, 3) := by decide +kernel
theorem dX10_issue_5 : decode cX10_issue 5 = .ok (.ifCond .eq 34, 3) := by decide +kernel
theorem dX10_issue_8 : decode cX10_issue 8 = .ok (.aload_n 0, 1) := by decide +kernel
theorem dX10_issue_9 : decode cX10_issue 9 = .ok (.iload_n 1, 1) := by decide +kernel
theorem dX10_issue_10 : decode cX10_issue 10 = .ok (.invokevirtual 94, 3) := by decide +kernel
theorem dX10_issue_13 : decode cX10_issue 13 = .ok (.ifCond .eq 26, 3) := by decide +kernel
theorem dX10_issue_16 : decode cX10_issue 16 = .ok (.iload_n 2, 1) := by decide +kernel
theorem dX10_issue_17 : decode cX10_issue 17 = .ok (.iconst 0, 1) := by decide +kernel
theorem dX10_issue_18 : decode cX10_issue 18 = .ok (.iconst 1, 1) := by decide +kernel
theorem dX10_issue_19 : decode cX10_issue 19 = .ok (.invokestatic 87, 3) := by decide +kernel
theorem dX10_issue_22 : decode cX10_issue 22 = .ok (.ifCond .eq 17, 3) := by decide +kernel
theorem dX10_issue_25 : decode cX10_issue 25 = .ok (.aload_n 0, 1) := by decide +kernel
theorem dX10_issue_26 : decode cX10_issue 26 = .ok (.iload_n 2, 1) := by decide +kernel
theorem dX10_issue_27 : decode cX10_issue 27 = .ok (.invokevirtual 94, 3) := by decide +kernel
theorem dX10_issue_30 : decode cX10_issue 30 = .ok (.ifCond .eq 9, 3) := by decide +kernel
theorem dX10_issue_33 : decode cX10_issue 33 = .ok (.iload 5, 2) := by decide +kernel
theorem dX10_issue_35 : decode cX10_issue 35 = .ok (.iconst 1, 1) := by decide +kernel
theorem dX10_issue_36 : decode cX10_issue 36 = .ok (.if_icmp .ge 5, 3) := by decide +kernel
theorem dX10_issue_39 : decode cX10_issue 39 = .ok (.iconst (-1), 1) := by decide +kernel
theorem dX10_issue_40 : decode cX10_issue 40 = .ok (.ireturn, 1) := by decide +kernel
theorem dX10_issue_41 : decode cX10_issue 41 = .ok (.aload_n 0, 1) := by decide +kernel
theorem dX10_issue_42 : decode cX10_issue 42 = .ok (.aload_n 0, 1) := by decide +kernel
theorem dX10_issue_43 : decode cX10_issue 43 = .ok (.getfield 20, 3) := by decide +kernel
theorem dX10_issue_46 : decode cX10_issue 46 = .ok (.iload_n 1, 1) := by decide +kernel
theorem dX10_issue_47 : decode cX10_issue 47 = .ok (.iaload, 1) := by decide +kernel
theorem dX10_issue_48 : decode cX10_issue 48 = .ok (.iload 4, 2) := by decide +kernel
theorem dX10_issue_50 : decode cX10_issue 50 = .ok (.iconst 1, 1) := by decide +kernel
theorem dX10_issue_51 : decode cX10_issue 51 = .ok (.invokevirtual 126, 3) := by decide +kernel
theorem dX10_issue_54 : decode cX10_issue 54 = .ok (.ifCond .ne 6, 3) := by decide +kernel
theorem dX10_issue_57 : decode cX10_issue 57 = .ok (.bipush (-2), 2) := by decide +kernel
theorem dX10_issue_59 : decode cX10_issue 59 = .ok (.ireturn, 1) := by decide +kernel
theorem dX10_issue_60 : decode cX10_issue 60 = .ok (.aload_n 0, 1) := by decide +kernel
theorem dX10_issue_61 : decode cX10_issue 61 = .ok (.getfield 35, 3) := by decide +kernel
theorem dX10_issue_64 : decode cX10_issue 64 = .ok (.iload 4, 2) := by decide +kernel
theorem dX10_issue_66 : decode cX10_issue 66 = .ok (.iaload, 1) := by decide +kernel
theorem dX10_issue_67 : decode cX10_issue 67 = .ok (.iload_n 1, 1) := by decide +kernel
theorem dX10_issue_68 : decode cX10_issue 68 = .ok (.if_icmp .eq 6, 3) := by decide +kernel
theorem dX10_issue_71 : decode cX10_issue 71 = .ok (.bipush (-3), 2) := by decide +kernel
theorem dX10_issue_73 : decode cX10_issue 73 = .ok (.ireturn, 1) := by decide +kernel
theorem dX10_issue_74 : decode cX10_issue 74 = .ok (.aload_n 0, 1) := by decide +kernel
theorem dX10_issue_75 : decode cX10_issue 75 = .ok (.aload_n 0, 1) := by decide +kernel
theorem dX10_issue_76 : decode cX10_issue 76 = .ok (.getfield 41, 3) := by decide +kernel
theorem dX10_issue_79 : decode cX10_issue 79 = .ok (.iload 4, 2) := by decide +kernel
theorem dX10_issue_81 : decode cX10_issue 81 = .ok (.iaload, 1) := by decide +kernel
theorem dX10_issue_82 : decode cX10_issue 82 = .ok (.aload_n 0, 1) := by decide +kernel
theorem dX10_issue_83 : decode cX10_issue 83 = .ok (.getfield 7, 3) := by decide +kernel
theorem dX10_issue_86 : decode cX10_issue 86 = .ok (.iconst 0, 1) := by decide +kernel
theorem dX10_issue_87 : decode cX10_issue 87 = .ok (.iaload, 1) := by decide +kernel
theorem dX10_issue_88 : decode cX10_issue 88 = .ok (.invokevirtual 137, 3) := by decide +kernel
theorem dX10_issue_91 : decode cX10_issue 91 = .ok (.ifCond .ne 6, 3) := by decide +kernel
theorem dX10_issue_94 : decode cX10_issue 94 = .ok (.bipush (-4), 2) := by decide +kernel
theorem dX10_issue_96 : decode cX10_issue 96 = .ok (.ireturn, 1) := by decide +kernel
theorem dX10_issue_97 : decode cX10_issue 97 = .ok (.aload_n 0, 1) := by decide +kernel
theorem dX10_issue_98 : decode cX10_issue 98 = .ok (.getfield 91, 3) := by decide +kernel
theorem dX10_issue_101 : decode cX10_issue 101 = .ok (.sipush 200, 3) := by decide +kernel
theorem dX10_issue_104 : decode cX10_issue 104 = .ok (.if_icmp .ge 13, 3) := by decide +kernel
theorem dX10_issue_107 : decode cX10_issue 107 = .ok (.aload_n 0, 1) := by decide +kernel
theorem dX10_issue_108 : decode cX10_issue 108 = .ok (.getfield 102, 3) := by decide +kernel
theorem dX10_issue_111 : decode cX10_issue 111 = .ok (.sipush 148, 3) := by decide +kernel
theorem dX10_issue_114 : decode cX10_issue 114 = .ok (.if_icmp .le 6, 3) := by decide +kernel
theorem dX10_issue_117 : decode cX10_issue 117 = .ok (.bipush (-7), 2) := by decide +kernel
theorem dX10_issue_119 : decode cX10_issue 119 = .ok (.ireturn, 1) := by decide +kernel
theorem dX10_issue_120 : decode cX10_issue 120 = .ok (.iload 5, 2) := by decide +kernel
theorem dX10_issue_122 : decode cX10_issue 122 = .ok (.aload_n 0, 1) := by decide +kernel
theorem dX10_issue_123 : decode cX10_issue 123 = .ok (.getfield 23, 3) := by decide +kernel
theorem dX10_issue_126 : decode cX10_issue 126 = .ok (.iload_n 1, 1) := by decide +kernel
theorem dX10_issue_127 : decode cX10_issue 127 = .ok (.iaload, 1) := by decide +kernel
theorem dX10_issue_128 : decode cX10_issue 128 = .ok (.invokestatic 141, 3) := by decide +kernel
theorem dX10_issue_131 : decode cX10_issue 131 = .ok (.aload_n 0, 1) := by decide +kernel
theorem dX10_issue_132 : decode cX10_issue 132 = .ok (.getfield 23, 3) := by decide +kernel
theorem dX10_issue_135 : decode cX10_issue 135 = .ok (.iload_n 2, 1) := by decide +kernel
theorem dX10_issue_136 : decode cX10_issue 136 = .ok (.iaload, 1) := by decide +kernel
theorem dX10_issue_137 : decode cX10_issue 137 = .ok (.invokestatic 141, 3) := by decide +kernel
theorem dX10_issue_140 : decode cX10_issue 140 = .ok (.istore 6, 2) := by decide +kernel
theorem dX10_issue_142 : decode cX10_issue 142 = .ok (.aload_n 0, 1) := by decide +kernel
theorem dX10_issue_143 : decode cX10_issue 143 = .ok (.getfield 7, 3) := by decide +kernel
theorem dX10_issue_146 : decode cX10_issue 146 = .ok (.iconst 0, 1) := by decide +kernel
theorem dX10_issue_147 : decode cX10_issue 147 = .ok (.iaload, 1) := by decide +kernel
theorem dX10_issue_148 : decode cX10_issue 148 = .ok (.iload 6, 2) := by decide +kernel
theorem dX10_issue_150 : decode cX10_issue 150 = .ok (.iadd, 1) := by decide +kernel
theorem dX10_issue_151 : decode cX10_issue 151 = .ok (.istore 7, 2) := by decide +kernel
theorem dX10_issue_153 : decode cX10_issue 153 = .ok (.aload_n 0, 1) := by decide +kernel
theorem dX10_issue_154 : decode cX10_issue 154 = .ok (.iload_n 1, 1) := by decide +kernel
theorem dX10_issue_155 : decode cX10_issue 155 = .ok (.iload_n 2, 1) := by decide +kernel
theorem dX10_issue_156 : decode cX10_issue 156 = .ok (.iload_n 3, 1) := by decide +kernel
theorem dX10_issue_157 : decode cX10_issue 157 = .ok (.iload 7, 2) := by decide +kernel
theorem dX10_issue_159 : decode cX10_issue 159 = .ok (.iload_n 2, 1) := by decide +kernel
theorem dX10_issue_160 : decode cX10_issue 160 = .ok (.ifCond .ne 21, 3) := by decide +kernel
theorem dX10_issue_163 : decode cX10_issue 163 = .ok (.aload_n 0, 1) := by decide +kernel
theorem dX10_issue_164 : decode cX10_issue 164 = .ok (.getfield 7, 3) := by decide +kernel
theorem dX10_issue_167 : decode cX10_issue 167 = .ok (.iconst 0, 1) := by decide +kernel
theorem dX10_issue_168 : decode cX10_issue 168 = .ok (.iaload, 1) := by decide +kernel
theorem dX10_issue_169 : decode cX10_issue 169 = .ok (.iconst 5, 1) := by decide +kernel
theorem dX10_issue_170 : decode cX10_issue 170 = .ok (.aload_n 0, 1) := by decide +kernel
theorem dX10_issue_171 : decode cX10_issue 171 = .ok (.getfield 23, 3) := by decide +kernel
theorem dX10_issue_174 : decode cX10_issue 174 = .ok (.iload_n 1, 1) := by decide +kernel
theorem dX10_issue_175 : decode cX10_issue 175 = .ok (.iaload, 1) := by decide +kernel
theorem dX10_issue_176 : decode cX10_issue 176 = .ok (.imul, 1) := by decide +kernel
theorem dX10_issue_177 : decode cX10_issue 177 = .ok (.iadd, 1) := by decide +kernel
theorem dX10_issue_178 : decode cX10_issue 178 = .ok (.goto 5, 3) := by decide +kernel
theorem dX10_issue_181 : decode cX10_issue 181 = .ok (.iload 7, 2) := by decide +kernel
theorem dX10_issue_183 : decode cX10_issue 183 = .ok (.aload_n 0, 1) := by decide +kernel
theorem dX10_issue_184 : decode cX10_issue 184 = .ok (.getfield 20, 3) := by decide +kernel
theorem dX10_issue_187 : decode cX10_issue 187 = .ok (.iload_n 1, 1) := by decide +kernel
theorem dX10_issue_188 : decode cX10_issue 188 = .ok (.iaload, 1) := by decide +kernel
theorem dX10_issue_189 : decode cX10_issue 189 = .ok (.invokevirtual 144, 3) := by decide +kernel
theorem dX10_issue_192 : decode cX10_issue 192 = .ok (.ireturn, 1) := by decide +kernel
theorem dX10_grant_0 : decode cX10_grant 0 = .ok (.iload_n 3, 1) := by decide +kernel
theorem dX10_grant_1 : decode cX10_grant 1 = .ok (.iconst 0, 1) := by decide +kernel
theorem dX10_grant_2 : decode cX10_grant 2 = .ok (.iconst 1, 1) := by decide +kernel
theorem dX10_grant_3 : decode cX10_grant 3 = .ok (.invokestatic 87, 3) := by decide +kernel
theorem dX10_grant_6 : decode cX10_grant 6 = .ok (.ifCond .eq 25, 3) := by decide +kernel
theorem dX10_grant_9 : decode cX10_grant 9 = .ok (.aload_n 0, 1) := by decide +kernel
theorem dX10_grant_10 : decode cX10_grant 10 = .ok (.iload_n 3, 1) := by decide +kernel
theorem dX10_grant_11 : decode cX10_grant 11 = .ok (.invokevirtual 94, 3) := by decide +kernel
theorem dX10_grant_14 : decode cX10_grant 14 = .ok (.ifCond .eq 17, 3) := by decide +kernel
theorem dX10_grant_17 : decode cX10_grant 17 = .ok (.aload_n 0, 1) := by decide +kernel
theorem dX10_grant_18 : decode cX10_grant 18 = .ok (.iconst 0, 1) := by decide +kernel
theorem dX10_grant_19 : decode cX10_grant 19 = .ok (.invokevirtual 94, 3) := by decide +kernel
theorem dX10_grant_22 : decode cX10_grant 22 = .ok (.ifCond .eq 9, 3) := by decide +kernel
theorem dX10_grant_25 : decode cX10_grant 25 = .ok (.iload 5, 2) := by decide +kernel
theorem dX10_grant_27 : decode cX10_grant 27 = .ok (.iconst 1, 1) := by decide +kernel
theorem dX10_grant_28 : decode cX10_grant 28 = .ok (.if_icmp .ge 5, 3) := by decide +kernel
theorem dX10_grant_31 : decode cX10_grant 31 = .ok (.iconst (-1), 1) := by decide +kernel
theorem dX10_grant_32 : decode cX10_grant 32 = .ok (.ireturn, 1) := by decide +kernel
theorem dX10_grant_33 : decode cX10_grant 33 = .ok (.aload_n 0, 1) := by decide +kernel
theorem dX10_grant_34 : decode cX10_grant 34 = .ok (.aload_n 0, 1) := by decide +kernel
theorem dX10_grant_35 : decode cX10_grant 35 = .ok (.getfield 20, 3) := by decide +kernel
theorem dX10_grant_38 : decode cX10_grant 38 = .ok (.iconst 0, 1) := by decide +kernel
theorem dX10_grant_39 : decode cX10_grant 39 = .ok (.iaload, 1) := by decide +kernel
theorem dX10_grant_40 : decode cX10_grant 40 = .ok (.iload_n 1, 1) := by decide +kernel
theorem dX10_grant_41 : decode cX10_grant 41 = .ok (.iconst 2, 1) := by decide +kernel
theorem dX10_grant_42 : decode cX10_grant 42 = .ok (.invokevirtual 126, 3) := by decide +kernel
theorem dX10_grant_45 : decode cX10_grant 45 = .ok (.ifCond .ne 6, 3) := by decide +kernel
theorem dX10_grant_48 : decode cX10_grant 48 = .ok (.bipush (-2), 2) := by decide +kernel
theorem dX10_grant_50 : decode cX10_grant 50 = .ok (.ireturn, 1) := by decide +kernel
theorem dX10_grant_51 : decode cX10_grant 51 = .ok (.aload_n 0, 1) := by decide +kernel
theorem dX10_grant_52 : decode cX10_grant 52 = .ok (.aload_n 0, 1) := by decide +kernel
theorem dX10_grant_53 : decode cX10_grant 53 = .ok (.getfield 38, 3) := by decide +kernel
theorem dX10_grant_56 : decode cX10_grant 56 = .ok (.iload_n 1, 1) := by decide +kernel
theorem dX10_grant_57 : decode cX10_grant 57 = .ok (.iaload, 1) := by decide +kernel
theorem dX10_grant_58 : decode cX10_grant 58 = .ok (.iload_n 2, 1) := by decide +kernel
theorem dX10_grant_59 : decode cX10_grant 59 = .ok (.iconst 4, 1) := by decide +kernel
theorem dX10_grant_60 : decode cX10_grant 60 = .ok (.invokevirtual 126, 3) := by decide +kernel
theorem dX10_grant_63 : decode cX10_grant 63 = .ok (.ifCond .ne 6, 3) := by decide +kernel
theorem dX10_grant_66 : decode cX10_grant 66 = .ok (.bipush (-2), 2) := by decide +kernel
theorem dX10_grant_68 : decode cX10_grant 68 = .ok (.ireturn, 1) := by decide +kernel
theorem dX10_grant_69 : decode cX10_grant 69 = .ok (.aload_n 0, 1) := by decide +kernel
theorem dX10_grant_70 : decode cX10_grant 70 = .ok (.getfield 35, 3) := by decide +kernel
theorem dX10_grant_73 : decode cX10_grant 73 = .ok (.iload_n 1, 1) := by decide +kernel
theorem dX10_grant_74 : decode cX10_grant 74 = .ok (.iaload, 1) := by decide +kernel
theorem dX10_grant_75 : decode cX10_grant 75 = .ok (.istore 6, 2) := by decide +kernel
theorem dX10_grant_77 : decode cX10_grant 77 = .ok (.aload_n 0, 1) := by decide +kernel
theorem dX10_grant_78 : decode cX10_grant 78 = .ok (.getfield 35, 3) := by decide +kernel
theorem dX10_grant_81 : decode cX10_grant 81 = .ok (.iload_n 2, 1) := by decide +kernel
theorem dX10_grant_82 : decode cX10_grant 82 = .ok (.iaload, 1) := by decide +kernel
theorem dX10_grant_83 : decode cX10_grant 83 = .ok (.iload 6, 2) := by decide +kernel
theorem dX10_grant_85 : decode cX10_grant 85 = .ok (.if_icmp .ne 30, 3) := by decide +kernel
theorem dX10_grant_88 : decode cX10_grant 88 = .ok (.aload_n 0, 1) := by decide +kernel
theorem dX10_grant_89 : decode cX10_grant 89 = .ok (.getfield 50, 3) := by decide +kernel
theorem dX10_grant_92 : decode cX10_grant 92 = .ok (.iload_n 2, 1) := by decide +kernel
theorem dX10_grant_93 : decode cX10_grant 93 = .ok (.iaload, 1) := by decide +kernel
theorem dX10_grant_94 : decode cX10_grant 94 = .ok (.ifCond .ne 21, 3) := by decide +kernel
theorem dX10_grant_97 : decode cX10_grant 97 = .ok (.aload_n 0, 1) := by decide +kernel
theorem dX10_grant_98 : decode cX10_grant 98 = .ok (.iload 6, 2) := by decide +kernel
theorem dX10_grant_100 : decode cX10_grant 100 = .ok (.invokevirtual 112, 3) := by decide +kernel
theorem dX10_grant_103 : decode cX10_grant 103 = .ok (.ifCond .eq 12, 3) := by decide +kernel
theorem dX10_grant_106 : decode cX10_grant 106 = .ok (.aload_n 0, 1) := by decide +kernel
theorem dX10_grant_107 : decode cX10_grant 107 = .ok (.iload 6, 2) := by decide +kernel
theorem dX10_grant_109 : decode cX10_grant 109 = .ok (.invokevirtual 94, 3) := by decide +kernel
theorem dX10_grant_112 : decode cX10_grant 112 = .ok (.ifCond .ne 6, 3) := by decide +kernel
theorem dX10_grant_115 : decode cX10_grant 115 = .ok (.bipush (-3), 2) := by decide +kernel
theorem dX10_grant_117 : decode cX10_grant 117 = .ok (.ireturn, 1) := by decide +kernel
theorem dX10_grant_118 : decode cX10_grant 118 = .ok (.aload_n 0, 1) := by decide +kernel
theorem dX10_grant_119 : decode cX10_grant 119 = .ok (.aload_n 0, 1) := by decide +kernel
theorem dX10_grant_120 : decode cX10_grant 120 = .ok (.getfield 41, 3) := by decide +kernel
theorem dX10_grant_123 : decode cX10_grant 123 = .ok (.iload_n 2, 1) := by decide +kernel
theorem dX10_grant_124 : decode cX10_grant 124 = .ok (.iaload, 1) := by decide +kernel
theorem dX10_grant_125 : decode cX10_grant 125 = .ok (.aload_n 0, 1) := by decide +kernel
theorem dX10_grant_126 : decode cX10_grant 126 = .ok (.getfield 7, 3) := by decide +kernel
theorem dX10_grant_129 : decode cX10_grant 129 = .ok (.iconst 0, 1) := by decide +kernel
theorem dX10_grant_130 : decode cX10_grant 130 = .ok (.iaload, 1) := by decide +kernel
theorem dX10_grant_131 : decode cX10_grant 131 = .ok (.invokevirtual 137, 3) := by decide +kernel
theorem dX10_grant_134 : decode cX10_grant 134 = .ok (.ifCond .eq 18, 3) := by decide +kernel
theorem dX10_grant_137 : decode cX10_grant 137 = .ok (.aload_n 0, 1) := by decide +kernel
theorem dX10_grant_138 : decode cX10_grant 138 = .ok (.getfield 7, 3) := by decide +kernel
theorem dX10_grant_141 : decode cX10_grant 141 = .ok (.iconst 0, 1) := by decide +kernel
theorem dX10_grant_142 : decode cX10_grant 142 = .ok (.iaload, 1) := by decide +kernel
theorem dX10_grant_143 : decode cX10_grant 143 = .ok (.aload_n 0, 1) := by decide +kernel
theorem dX10_grant_144 : decode cX10_grant 144 = .ok (.getfield 44, 3) := by decide +kernel
theorem dX10_grant_147 : decode cX10_grant 147 = .ok (.iload_n 1, 1) := by decide +kernel
theorem dX10_grant_148 : decode cX10_grant 148 = .ok (.iaload, 1) := by decide +kernel
theorem dX10_grant_149 : decode cX10_grant 149 = .ok (.if_icmp .le 6, 3) := by decide +kernel
theorem dX10_grant_152 : decode cX10_grant 152 = .ok (.bipush (-4), 2) := by decide +kernel
theorem dX10_grant_154 : decode cX10_grant 154 = .ok (.ireturn, 1) := by decide +kernel
theorem dX10_grant_155 : decode cX10_grant 155 = .ok (.aload_n 0, 1) := by decide +kernel
theorem dX10_grant_156 : decode cX10_grant 156 = .ok (.getfield 91, 3) := by decide +kernel
theorem dX10_grant_159 : decode cX10_grant 159 = .ok (.sipush 200, 3) := by decide +kernel
theorem dX10_grant_162 : decode cX10_grant 162 = .ok (.if_icmp .ge 13, 3) := by decide +kernel
theorem dX10_grant_165 : decode cX10_grant 165 = .ok (.aload_n 0, 1) := by decide +kernel
theorem dX10_grant_166 : decode cX10_grant 166 = .ok (.getfield 102, 3) := by decide +kernel
theorem dX10_grant_169 : decode cX10_grant 169 = .ok (.sipush 148, 3) := by decide +kernel
theorem dX10_grant_172 : decode cX10_grant 172 = .ok (.if_icmp .le 6, 3) := by decide +kernel
theorem dX10_grant_175 : decode cX10_grant 175 = .ok (.bipush (-7), 2) := by decide +kernel
theorem dX10_grant_177 : decode cX10_grant 177 = .ok (.ireturn, 1) := by decide +kernel
theorem dX10_grant_178 : decode cX10_grant 178 = .ok (.iload 5, 2) := by decide +kernel
theorem dX10_grant_180 : decode cX10_grant 180 = .ok (.aload_n 0, 1) := by decide +kernel
theorem dX10_grant_181 : decode cX10_grant 181 = .ok (.getfield 23, 3) := by decide +kernel
theorem dX10_grant_184 : decode cX10_grant 184 = .ok (.iload 6, 2) := by decide +kernel
theorem dX10_grant_186 : decode cX10_grant 186 = .ok (.iaload, 1) := by decide +kernel
theorem dX10_grant_187 : decode cX10_grant 187 = .ok (.invokestatic 141, 3) := by decide +kernel
theorem dX10_grant_190 : decode cX10_grant 190 = .ok (.aload_n 0, 1) := by decide +kernel
theorem dX10_grant_191 : decode cX10_grant 191 = .ok (.getfield 23, 3) := by decide +kernel
theorem dX10_grant_194 : decode cX10_grant 194 = .ok (.iload_n 3, 1) := by decide +kernel
theorem dX10_grant_195 : decode cX10_grant 195 = .ok (.iaload, 1) := by decide +kernel
theorem dX10_grant_196 : decode cX10_grant 196 = .ok (.invokestatic 141, 3) := by decide +kernel
theorem dX10_grant_199 : decode cX10_grant 199 = .ok (.istore 7, 2) := by decide +kernel
theorem dX10_grant_201 : decode cX10_grant 201 = .ok (.aload_n 0, 1) := by decide +kernel
theorem dX10_grant_202 : decode cX10_grant 202 = .ok (.getfield 7, 3) := by decide +kernel
theorem dX10_grant_205 : decode cX10_grant 205 = .ok (.iconst 0, 1) := by decide +kernel
theorem dX10_grant_206 : decode cX10_grant 206 = .ok (.iaload, 1) := by decide +kernel
theorem dX10_grant_207 : decode cX10_grant 207 = .ok (.iload 7, 2) := by decide +kernel
theorem dX10_grant_209 : decode cX10_grant 209 = .ok (.iadd, 1) := by decide +kernel
theorem dX10_grant_210 : decode cX10_grant 210 = .ok (.iload_n 3, 1) := by decide +kernel
theorem dX10_grant_211 : decode cX10_grant 211 = .ok (.iconst 1, 1) := by decide +kernel
theorem dX10_grant_212 : decode cX10_grant 212 = .ok (.if_icmp .ne 12, 3) := by decide +kernel
theorem dX10_grant_215 : decode cX10_grant 215 = .ok (.aload_n 0, 1) := by decide +kernel
theorem dX10_grant_216 : decode cX10_grant 216 = .ok (.getfield 44, 3) := by decide +kernel
theorem dX10_grant_219 : decode cX10_grant 219 = .ok (.iload_n 1, 1) := by decide +kernel
theorem dX10_grant_220 : decode cX10_grant 220 = .ok (.iaload, 1) := by decide +kernel
theorem dX10_grant_221 : decode cX10_grant 221 = .ok (.goto 9, 3) := by decide +kernel
theorem dX10_grant_224 : decode cX10_grant 224 = .ok (.aload_n 0, 1) := by decide +kernel
theorem dX10_grant_225 : decode cX10_grant 225 = .ok (.getfield 47, 3) := by decide +kernel
theorem dX10_grant_228 : decode cX10_grant 228 = .ok (.iload_n 1, 1) := by decide +kernel
theorem dX10_grant_229 : decode cX10_grant 229 = .ok (.iaload, 1) := by decide +kernel
theorem dX10_grant_230 : decode cX10_grant 230 = .ok (.invokestatic 141, 3) := by decide +kernel
theorem dX10_grant_233 : decode cX10_grant 233 = .ok (.istore 8, 2) := by decide +kernel
theorem dX10_grant_235 : decode cX10_grant 235 = .ok (.aload_n 0, 1) := by decide +kernel
theorem dX10_grant_236 : decode cX10_grant 236 = .ok (.iload 6, 2) := by decide +kernel
theorem dX10_grant_238 : decode cX10_grant 238 = .ok (.iload_n 3, 1) := by decide +kernel
theorem dX10_grant_239 : decode cX10_grant 239 = .ok (.iload 4, 2) := by decide +kernel
theorem dX10_grant_241 : decode cX10_grant 241 = .ok (.iload 8, 2) := by decide +kernel
theorem dX10_grant_243 : decode cX10_grant 243 = .ok (.iload_n 3, 1) := by decide +kernel
theorem dX10_grant_244 : decode cX10_grant 244 = .ok (.iconst 1, 1) := by decide +kernel
theorem dX10_grant_245 : decode cX10_grant 245 = .ok (.if_icmp .ne 8, 3) := by decide +kernel
theorem dX10_grant_248 : decode cX10_grant 248 = .ok (.iload 8, 2) := by decide +kernel
theorem dX10_grant_250 : decode cX10_grant 250 = .ok (.goto 9, 3) := by decide +kernel
theorem dX10_grant_253 : decode cX10_grant 253 = .ok (.aload_n 0, 1) := by decide +kernel
theorem dX10_grant_254 : decode cX10_grant 254 = .ok (.getfield 47, 3) := by decide +kernel
theorem dX10_grant_257 : decode cX10_grant 257 = .ok (.iload_n 1, 1) := by decide +kernel
theorem dX10_grant_258 : decode cX10_grant 258 = .ok (.iaload, 1) := by decide +kernel
theorem dX10_grant_259 : decode cX10_grant 259 = .ok (.aload_n 0, 1) := by decide +kernel
theorem dX10_grant_260 : decode cX10_grant 260 = .ok (.getfield 38, 3) := by decide +kernel
theorem dX10_grant_263 : decode cX10_grant 263 = .ok (.iload_n 1, 1) := by decide +kernel
theorem dX10_grant_264 : decode cX10_grant 264 = .ok (.iaload, 1) := by decide +kernel
theorem dX10_grant_265 : decode cX10_grant 265 = .ok (.invokevirtual 144, 3) := by decide +kernel
theorem dX10_grant_268 : decode cX10_grant 268 = .ok (.ireturn, 1) := by decide +kernel
theorem dX10_forgetOld_0 : decode cX10_forgetOld 0 = .ok (.iconst 0, 1) := by decide +kernel
theorem dX10_forgetOld_1 : decode cX10_forgetOld 1 = .ok (.istore_n 1, 1) := by decide +kernel
theorem dX10_forgetOld_2 : decode cX10_forgetOld 2 = .ok (.iconst 0, 1) := by decide +kernel
theorem dX10_forgetOld_3 : decode cX10_forgetOld 3 = .ok (.istore_n 2, 1) := by decide +kernel
theorem dX10_forgetOld_4 : decode cX10_forgetOld 4 = .ok (.iload_n 2, 1) := by decide +kernel
theorem dX10_forgetOld_5 : decode cX10_forgetOld 5 = .ok (.aload_n 0, 1) := by decide +kernel
theorem dX10_forgetOld_6 : decode cX10_forgetOld 6 = .ok (.getfield 147, 3) := by decide +kernel
theorem dX10_forgetOld_9 : decode cX10_forgetOld 9 = .ok (.if_icmp .ge 49, 3) := by decide +kernel
theorem dX10_forgetOld_12 : decode cX10_forgetOld 12 = .ok (.aload_n 0, 1) := by decide +kernel
theorem dX10_forgetOld_13 : decode cX10_forgetOld 13 = .ok (.getfield 41, 3) := by decide +kernel
theorem dX10_forgetOld_16 : decode cX10_forgetOld 16 = .ok (.aload_n 0, 1) := by decide +kernel
theorem dX10_forgetOld_17 : decode cX10_forgetOld 17 = .ok (.getfield 80, 3) := by decide +kernel
theorem dX10_forgetOld_20 : decode cX10_forgetOld 20 = .ok (.iload_n 2, 1) := by decide +kernel
theorem dX10_forgetOld_21 : decode cX10_forgetOld 21 = .ok (.iaload, 1) := by decide +kernel
theorem dX10_forgetOld_22 : decode cX10_forgetOld 22 = .ok (.iaload, 1) := by decide +kernel
theorem dX10_forgetOld_23 : decode cX10_forgetOld 23 = .ok (.aload_n 0, 1) := by decide +kernel
theorem dX10_forgetOld_24 : decode cX10_forgetOld 24 = .ok (.getfield 7, 3) := by decide +kernel
theorem dX10_forgetOld_27 : decode cX10_forgetOld 27 = .ok (.iconst 1, 1) := by decide +kernel
theorem dX10_forgetOld_28 : decode cX10_forgetOld 28 = .ok (.iaload, 1) := by decide +kernel
theorem dX10_forgetOld_29 : decode cX10_forgetOld 29 = .ok (.aload_n 0, 1) := by decide +kernel
theorem dX10_forgetOld_30 : decode cX10_forgetOld 30 = .ok (.getfield 83, 3) := by decide +kernel
theorem dX10_forgetOld_33 : decode cX10_forgetOld 33 = .ok (.isub, 1) := by decide +kernel
theorem dX10_forgetOld_34 : decode cX10_forgetOld 34 = .ok (.if_icmp .lt 18, 3) := by decide +kernel
theorem dX10_forgetOld_37 : decode cX10_forgetOld 37 = .ok (.aload_n 0, 1) := by decide +kernel
theorem dX10_forgetOld_38 : decode cX10_forgetOld 38 = .ok (.getfield 80, 3) := by decide +kernel
theorem dX10_forgetOld_41 : decode cX10_forgetOld 41 = .ok (.iload_n 1, 1) := by decide +kernel
theorem dX10_forgetOld_42 : decode cX10_forgetOld 42 = .ok (.aload_n 0, 1) := by decide +kernel
theorem dX10_forgetOld_43 : decode cX10_forgetOld 43 = .ok (.getfield 80, 3) := by decide +kernel
theorem dX10_forgetOld_46 : decode cX10_forgetOld 46 = .ok (.iload_n 2, 1) := by decide +kernel
theorem dX10_forgetOld_47 : decode cX10_forgetOld 47 = .ok (.iaload, 1) := by decide +kernel
theorem dX10_forgetOld_48 : decode cX10_forgetOld 48 = .ok (.iastore, 1) := by decide +kernel
theorem dX10_forgetOld_49 : decode cX10_forgetOld 49 = .ok (.iinc 1 1, 3) := by decide +kernel
theorem dX10_forgetOld_52 : decode cX10_forgetOld 52 = .ok (.iinc 2 1, 3) := by decide +kernel
theorem dX10_forgetOld_55 : decode cX10_forgetOld 55 = .ok (.goto (-51), 3) := by decide +kernel
theorem dX10_forgetOld_58 : decode cX10_forgetOld 58 = .ok (.aload_n 0, 1) := by decide +kernel
theorem dX10_forgetOld_59 : decode cX10_forgetOld 59 = .ok (.iload_n 1, 1) := by decide +kernel
theorem dX10_forgetOld_60 : decode cX10_forgetOld 60 = .ok (.putfield 147, 3) := by decide +kernel
theorem dX10_forgetOld_63 : decode cX10_forgetOld 63 = .ok (.return_, 1) := by decide +kernel
theorem dX10_same_0 : decode cX10_same 0 = .ok (.aload_n 0, 1) := by decide +kernel
theorem dX10_same_1 : decode cX10_same 1 = .ok (.getfield 32, 3) := by decide +kernel
theorem dX10_same_4 : decode cX10_same 4 = .ok (.iload_n 1, 1) := by decide +kernel
theorem dX10_same_5 : decode cX10_same 5 = .ok (.iaload, 1) := by decide +kernel
theorem dX10_same_6 : decode cX10_same 6 = .ok (.aload_n 0, 1) := by decide +kernel
theorem dX10_same_7 : decode cX10_same 7 = .ok (.getfield 32, 3) := by decide +kernel
theorem dX10_same_10 : decode cX10_same 10 = .ok (.iload_n 2, 1) := by decide +kernel
theorem dX10_same_11 : decode cX10_same 11 = .ok (.iaload, 1) := by decide +kernel
theorem dX10_same_12 : decode cX10_same 12 = .ok (.if_icmp .ne 52, 3) := by decide +kernel
theorem dX10_same_15 : decode cX10_same 15 = .ok (.aload_n 0, 1) := by decide +kernel
theorem dX10_same_16 : decode cX10_same 16 = .ok (.getfield 35, 3) := by decide +kernel
theorem dX10_same_19 : decode cX10_same 19 = .ok (.iload_n 1, 1) := by decide +kernel
theorem dX10_same_20 : decode cX10_same 20 = .ok (.iaload, 1) := by decide +kernel
theorem dX10_same_21 : decode cX10_same 21 = .ok (.aload_n 0, 1) := by decide +kernel
theorem dX10_same_22 : decode cX10_same 22 = .ok (.getfield 35, 3) := by decide +kernel
theorem dX10_same_25 : decode cX10_same 25 = .ok (.iload_n 2, 1) := by decide +kernel
theorem dX10_same_26 : decode cX10_same 26 = .ok (.iaload, 1) := by decide +kernel
theorem dX10_same_27 : decode cX10_same 27 = .ok (.if_icmp .ne 37, 3) := by decide +kernel
theorem dX10_same_30 : decode cX10_same 30 = .ok (.aload_n 0, 1) := by decide +kernel
theorem dX10_same_31 : decode cX10_same 31 = .ok (.getfield 41, 3) := by decide +kernel
theorem dX10_same_34 : decode cX10_same 34 = .ok (.iload_n 1, 1) := by decide +kernel
theorem dX10_same_35 : decode cX10_same 35 = .ok (.iaload, 1) := by decide +kernel
theorem dX10_same_36 : decode cX10_same 36 = .ok (.aload_n 0, 1) := by decide +kernel
theorem dX10_same_37 : decode cX10_same 37 = .ok (.getfield 41, 3) := by decide +kernel
theorem dX10_same_40 : decode cX10_same 40 = .ok (.iload_n 2, 1) := by decide +kernel
theorem dX10_same_41 : decode cX10_same 41 = .ok (.iaload, 1) := by decide +kernel
theorem dX10_same_42 : decode cX10_same 42 = .ok (.if_icmp .ne 22, 3) := by decide +kernel
theorem dX10_same_45 : decode cX10_same 45 = .ok (.aload_n 0, 1) := by decide +kernel
theorem dX10_same_46 : decode cX10_same 46 = .ok (.getfield 44, 3) := by decide +kernel
theorem dX10_same_49 : decode cX10_same 49 = .ok (.iload_n 1, 1) := by decide +kernel
theorem dX10_same_50 : decode cX10_same 50 = .ok (.iaload, 1) := by decide +kernel
theorem dX10_same_51 : decode cX10_same 51 = .ok (.aload_n 0, 1) := by decide +kernel
theorem dX10_same_52 : decode cX10_same 52 = .ok (.getfield 44, 3) := by decide +kernel
theorem dX10_same_55 : decode cX10_same 55 = .ok (.iload_n 2, 1) := by decide +kernel
theorem dX10_same_56 : decode cX10_same 56 = .ok (.iaload, 1) := by decide +kernel
theorem dX10_same_57 : decode cX10_same 57 = .ok (.if_icmp .ne 7, 3) := by decide +kernel
theorem dX10_same_60 : decode cX10_same 60 = .ok (.iconst 1, 1) := by decide +kernel
theorem dX10_same_61 : decode cX10_same 61 = .ok (.goto 4, 3) := by decide +kernel
theorem dX10_same_64 : decode cX10_same 64 = .ok (.iconst 0, 1) := by decide +kernel
theorem dX10_same_65 : decode cX10_same 65 = .ok (.istore_n 3, 1) := by decide +kernel
theorem dX10_same_66 : decode cX10_same 66 = .ok (.iload_n 3, 1) := by decide +kernel
theorem dX10_same_67 : decode cX10_same 67 = .ok (.ifCond .eq 52, 3) := by decide +kernel
theorem dX10_same_70 : decode cX10_same 70 = .ok (.aload_n 0, 1) := by decide +kernel
theorem dX10_same_71 : decode cX10_same 71 = .ok (.getfield 50, 3) := by decide +kernel
theorem dX10_same_74 : decode cX10_same 74 = .ok (.iload_n 1, 1) := by decide +kernel
theorem dX10_same_75 : decode cX10_same 75 = .ok (.iaload, 1) := by decide +kernel
theorem dX10_same_76 : decode cX10_same 76 = .ok (.aload_n 0, 1) := by decide +kernel
theorem dX10_same_77 : decode cX10_same 77 = .ok (.getfield 50, 3) := by decide +kernel
theorem dX10_same_80 : decode cX10_same 80 = .ok (.iload_n 2, 1) := by decide +kernel
theorem dX10_same_81 : decode cX10_same 81 = .ok (.iaload, 1) := by decide +kernel
theorem dX10_same_82 : decode cX10_same 82 = .ok (.if_icmp .ne 37, 3) := by decide +kernel
theorem dX10_same_85 : decode cX10_same 85 = .ok (.aload_n 0, 1) := by decide +kernel
theorem dX10_same_86 : decode cX10_same 86 = .ok (.getfield 53, 3) := by decide +kernel
theorem dX10_same_89 : decode cX10_same 89 = .ok (.iload_n 1, 1) := by decide +kernel
theorem dX10_same_90 : decode cX10_same 90 = .ok (.iaload, 1) := by decide +kernel
theorem dX10_same_91 : decode cX10_same 91 = .ok (.aload_n 0, 1) := by decide +kernel
theorem dX10_same_92 : decode cX10_same 92 = .ok (.getfield 53, 3) := by decide +kernel
theorem dX10_same_95 : decode cX10_same 95 = .ok (.iload_n 2, 1) := by decide +kernel
theorem dX10_same_96 : decode cX10_same 96 = .ok (.iaload, 1) := by decide +kernel
theorem dX10_same_97 : decode cX10_same 97 = .ok (.if_icmp .ne 22, 3) := by decide +kernel
theorem dX10_same_100 : decode cX10_same 100 = .ok (.aload_n 0, 1) := by decide +kernel
theorem dX10_same_101 : decode cX10_same 101 = .ok (.getfield 56, 3) := by decide +kernel
theorem dX10_same_104 : decode cX10_same 104 = .ok (.iload_n 1, 1) := by decide +kernel
theorem dX10_same_105 : decode cX10_same 105 = .ok (.iaload, 1) := by decide +kernel
theorem dX10_same_106 : decode cX10_same 106 = .ok (.aload_n 0, 1) := by decide +kernel
theorem dX10_same_107 : decode cX10_same 107 = .ok (.getfield 56, 3) := by decide +kernel
theorem dX10_same_110 : decode cX10_same 110 = .ok (.iload_n 2, 1) := by decide +kernel
theorem dX10_same_111 : decode cX10_same 111 = .ok (.iaload, 1) := by decide +kernel
theorem dX10_same_112 : decode cX10_same 112 = .ok (.if_icmp .ne 7, 3) := by decide +kernel
theorem dX10_same_115 : decode cX10_same 115 = .ok (.iconst 1, 1) := by decide +kernel
theorem dX10_same_116 : decode cX10_same 116 = .ok (.goto 4, 3) := by decide +kernel
theorem dX10_same_119 : decode cX10_same 119 = .ok (.iconst 0, 1) := by decide +kernel
theorem dX10_same_120 : decode cX10_same 120 = .ok (.ireturn, 1) := by decide +kernel
theorem dX10_serve_0 : decode cX10_serve 0 = .ok (.aload_n 0, 1) := by decide +kernel
theorem dX10_serve_1 : decode cX10_serve 1 = .ok (.invokevirtual 150, 3) := by decide +kernel
theorem dX10_serve_4 : decode cX10_serve 4 = .ok (.aload_n 0, 1) := by decide +kernel
theorem dX10_serve_5 : decode cX10_serve 5 = .ok (.aload_n 0, 1) := by decide +kernel
theorem dX10_serve_6 : decode cX10_serve 6 = .ok (.getfield 13, 3) := by decide +kernel
theorem dX10_serve_9 : decode cX10_serve 9 = .ok (.iconst 1, 1) := by decide +kernel
theorem dX10_serve_10 : decode cX10_serve 10 = .ok (.iaload, 1) := by decide +kernel
theorem dX10_serve_11 : decode cX10_serve 11 = .ok (.iload_n 1, 1) := by decide +kernel
theorem dX10_serve_12 : decode cX10_serve 12 = .ok (.iconst 2, 1) := by decide +kernel
theorem dX10_serve_13 : decode cX10_serve 13 = .ok (.invokevirtual 126, 3) := by decide +kernel
theorem dX10_serve_16 : decode cX10_serve 16 = .ok (.ifCond .ne 6, 3) := by decide +kernel
theorem dX10_serve_19 : decode cX10_serve 19 = .ok (.bipush (-2), 2) := by decide +kernel
theorem dX10_serve_21 : decode cX10_serve 21 = .ok (.ireturn, 1) := by decide +kernel
theorem dX10_serve_22 : decode cX10_serve 22 = .ok (.aload_n 0, 1) := by decide +kernel
theorem dX10_serve_23 : decode cX10_serve 23 = .ok (.aload_n 0, 1) := by decide +kernel
theorem dX10_serve_24 : decode cX10_serve 24 = .ok (.getfield 38, 3) := by decide +kernel
theorem dX10_serve_27 : decode cX10_serve 27 = .ok (.iload_n 1, 1) := by decide +kernel
theorem dX10_serve_28 : decode cX10_serve 28 = .ok (.iaload, 1) := by decide +kernel
theorem dX10_serve_29 : decode cX10_serve 29 = .ok (.iload_n 2, 1) := by decide +kernel
theorem dX10_serve_30 : decode cX10_serve 30 = .ok (.iconst 4, 1) := by decide +kernel
theorem dX10_serve_31 : decode cX10_serve 31 = .ok (.invokevirtual 126, 3) := by decide +kernel
theorem dX10_serve_34 : decode cX10_serve 34 = .ok (.ifCond .ne 6, 3) := by decide +kernel
theorem dX10_serve_37 : decode cX10_serve 37 = .ok (.bipush (-2), 2) := by decide +kernel
theorem dX10_serve_39 : decode cX10_serve 39 = .ok (.ireturn, 1) := by decide +kernel
theorem dX10_serve_40 : decode cX10_serve 40 = .ok (.aload_n 0, 1) := by decide +kernel
theorem dX10_serve_41 : decode cX10_serve 41 = .ok (.getfield 35, 3) := by decide +kernel
theorem dX10_serve_44 : decode cX10_serve 44 = .ok (.iload_n 1, 1) := by decide +kernel
theorem dX10_serve_45 : decode cX10_serve 45 = .ok (.iaload, 1) := by decide +kernel
theorem dX10_serve_46 : decode cX10_serve 46 = .ok (.istore_n 3, 1) := by decide +kernel
theorem dX10_serve_47 : decode cX10_serve 47 = .ok (.aload_n 0, 1) := by decide +kernel
theorem dX10_serve_48 : decode cX10_serve 48 = .ok (.getfield 35, 3) := by decide +kernel
theorem dX10_serve_51 : decode cX10_serve 51 = .ok (.iload_n 2, 1) := by decide +kernel
theorem dX10_serve_52 : decode cX10_serve 52 = .ok (.iaload, 1) := by decide +kernel
theorem dX10_serve_53 : decode cX10_serve 53 = .ok (.iload_n 3, 1) := by decide +kernel
theorem dX10_serve_54 : decode cX10_serve 54 = .ok (.if_icmp .ne 12, 3) := by decide +kernel
theorem dX10_serve_57 : decode cX10_serve 57 = .ok (.aload_n 0, 1) := by decide +kernel
theorem dX10_serve_58 : decode cX10_serve 58 = .ok (.getfield 50, 3) := by decide +kernel
theorem dX10_serve_61 : decode cX10_serve 61 = .ok (.iload_n 2, 1) := by decide +kernel
theorem dX10_serve_62 : decode cX10_serve 62 = .ok (.iaload, 1) := by decide +kernel
theorem dX10_serve_63 : decode cX10_serve 63 = .ok (.ifCond .ne 6, 3) := by decide +kernel
theorem dX10_serve_66 : decode cX10_serve 66 = .ok (.bipush (-3), 2) := by decide +kernel
theorem dX10_serve_68 : decode cX10_serve 68 = .ok (.ireturn, 1) := by decide +kernel
theorem dX10_serve_69 : decode cX10_serve 69 = .ok (.aload_n 0, 1) := by decide +kernel
theorem dX10_serve_70 : decode cX10_serve 70 = .ok (.aload_n 0, 1) := by decide +kernel
theorem dX10_serve_71 : decode cX10_serve 71 = .ok (.getfield 41, 3) := by decide +kernel
theorem dX10_serve_74 : decode cX10_serve 74 = .ok (.iload_n 2, 1) := by decide +kernel
theorem dX10_serve_75 : decode cX10_serve 75 = .ok (.iaload, 1) := by decide +kernel
theorem dX10_serve_76 : decode cX10_serve 76 = .ok (.aload_n 0, 1) := by decide +kernel
theorem dX10_serve_77 : decode cX10_serve 77 = .ok (.getfield 7, 3) := by decide +kernel
theorem dX10_serve_80 : decode cX10_serve 80 = .ok (.iconst 1, 1) := by decide +kernel
theorem dX10_serve_81 : decode cX10_serve 81 = .ok (.iaload, 1) := by decide +kernel
theorem dX10_serve_82 : decode cX10_serve 82 = .ok (.invokevirtual 137, 3) := by decide +kernel
theorem dX10_serve_85 : decode cX10_serve 85 = .ok (.ifCond .eq 38, 3) := by decide +kernel
theorem dX10_serve_88 : decode cX10_serve 88 = .ok (.aload_n 0, 1) := by decide +kernel
theorem dX10_serve_89 : decode cX10_serve 89 = .ok (.getfield 7, 3) := by decide +kernel
theorem dX10_serve_92 : decode cX10_serve 92 = .ok (.iconst 1, 1) := by decide +kernel
theorem dX10_serve_93 : decode cX10_serve 93 = .ok (.iaload, 1) := by decide +kernel
theorem dX10_serve_94 : decode cX10_serve 94 = .ok (.aload_n 0, 1) := by decide +kernel
theorem dX10_serve_95 : decode cX10_serve 95 = .ok (.getfield 44, 3) := by decide +kernel
theorem dX10_serve_98 : decode cX10_serve 98 = .ok (.iload_n 1, 1) := by decide +kernel
theorem dX10_serve_99 : decode cX10_serve 99 = .ok (.iaload, 1) := by decide +kernel
theorem dX10_serve_100 : decode cX10_serve 100 = .ok (.if_icmp .gt 23, 3) := by decide +kernel
theorem dX10_serve_103 : decode cX10_serve 103 = .ok (.aload_n 0, 1) := by decide +kernel
theorem dX10_serve_104 : decode cX10_serve 104 = .ok (.getfield 41, 3) := by decide +kernel
theorem dX10_serve_107 : decode cX10_serve 107 = .ok (.iload_n 1, 1) := by decide +kernel
theorem dX10_serve_108 : decode cX10_serve 108 = .ok (.iaload, 1) := by decide +kernel
theorem dX10_serve_109 : decode cX10_serve 109 = .ok (.aload_n 0, 1) := by decide +kernel
theorem dX10_serve_110 : decode cX10_serve 110 = .ok (.getfield 7, 3) := by decide +kernel
theorem dX10_serve_113 : decode cX10_serve 113 = .ok (.iconst 1, 1) := by decide +kernel
theorem dX10_serve_114 : decode cX10_serve 114 = .ok (.iaload, 1) := by decide +kernel
theorem dX10_serve_115 : decode cX10_serve 115 = .ok (.aload_n 0, 1) := by decide +kernel
theorem dX10_serve_116 : decode cX10_serve 116 = .ok (.getfield 83, 3) := by decide +kernel
theorem dX10_serve_119 : decode cX10_serve 119 = .ok (.iadd, 1) := by decide +kernel
theorem dX10_serve_120 : decode cX10_serve 120 = .ok (.if_icmp .le 6, 3) := by decide +kernel
theorem dX10_serve_123 : decode cX10_serve 123 = .ok (.bipush (-4), 2) := by decide +kernel
theorem dX10_serve_125 : decode cX10_serve 125 = .ok (.ireturn, 1) := by decide +kernel
theorem dX10_serve_126 : decode cX10_serve 126 = .ok (.iconst 0, 1) := by decide +kernel
theorem dX10_serve_127 : decode cX10_serve 127 = .ok (.istore 4, 2) := by decide +kernel
theorem dX10_serve_129 : decode cX10_serve 129 = .ok (.iconst 0, 1) := by decide +kernel
theorem dX10_serve_130 : decode cX10_serve 130 = .ok (.istore 5, 2) := by decide +kernel
theorem dX10_serve_132 : decode cX10_serve 132 = .ok (.iload 5, 2) := by decide +kernel
theorem dX10_serve_134 : decode cX10_serve 134 = .ok (.aload_n 0, 1) := by decide +kernel
theorem dX10_serve_135 : decode cX10_serve 135 = .ok (.getfield 147, 3) := by decide +kernel
theorem dX10_serve_138 : decode cX10_serve 138 = .ok (.if_icmp .ge 36, 3) := by decide +kernel
theorem dX10_serve_141 : decode cX10_serve 141 = .ok (.iload 4, 2) := by decide +kernel
theorem dX10_serve_143 : decode cX10_serve 143 = .ok (.ifCond .ne 18, 3) := by decide +kernel
theorem dX10_serve_146 : decode cX10_serve 146 = .ok (.aload_n 0, 1) := by decide +kernel
theorem dX10_serve_147 : decode cX10_serve 147 = .ok (.aload_n 0, 1) := by decide +kernel
theorem dX10_serve_148 : decode cX10_serve 148 = .ok (.getfield 80, 3) := by decide +kernel
theorem dX10_serve_151 : decode cX10_serve 151 = .ok (.iload 5, 2) := by decide +kernel
theorem dX10_serve_153 : decode cX10_serve 153 = .ok (.iaload, 1) := by decide +kernel
theorem dX10_serve_154 : decode cX10_serve 154 = .ok (.iload_n 2, 1) := by decide +kernel
theorem dX10_serve_155 : decode cX10_serve 155 = .ok (.invokevirtual 153, 3) := by decide +kernel
theorem dX10_serve_158 : decode cX10_serve 158 = .ok (.ifCond .eq 7, 3) := by decide +kernel
theorem dX10_serve_161 : decode cX10_serve 161 = .ok (.iconst 1, 1) := by decide +kernel
theorem dX10_serve_162 : decode cX10_serve 162 = .ok (.goto 4, 3) := by decide +kernel
theorem dX10_serve_165 : decode cX10_serve 165 = .ok (.iconst 0, 1) := by decide +kernel
theorem dX10_serve_166 : decode cX10_serve 166 = .ok (.istore 4, 2) := by decide +kernel
theorem dX10_serve_168 : decode cX10_serve 168 = .ok (.iinc 5 1, 3) := by decide +kernel
theorem dX10_serve_171 : decode cX10_serve 171 = .ok (.goto (-39), 3) := by decide +kernel
theorem dX10_serve_174 : decode cX10_serve 174 = .ok (.iload 4, 2) := by decide +kernel
theorem dX10_serve_176 : decode cX10_serve 176 = .ok (.ifCond .eq 6, 3) := by decide +kernel
theorem dX10_serve_179 : decode cX10_serve 179 = .ok (.bipush (-5), 2) := by decide +kernel
theorem dX10_serve_181 : decode cX10_serve 181 = .ok (.ireturn, 1) := by decide +kernel
theorem dX10_serve_182 : decode cX10_serve 182 = .ok (.aload_n 0, 1) := by decide +kernel
end
section
theorem dX10_serve_183 : decode cX10_serve 183 = .ok (.getfield 53, 3) := by decide +kernel
theorem dX10_serve_186 : decode cX10_serve 186 = .ok (.iload_n 2, 1) := by decide +kernel
theorem dX10_serve_187 : decode cX10_serve 187 = .ok (.iaload, 1) := by decide +kernel
theorem dX10_serve_188 : decode cX10_serve 188 = .ok (.istore 5, 2) := by decide +kernel
theorem dX10_serve_190 : decode cX10_serve 190 = .ok (.aload_n 0, 1) := by decide +kernel
theorem dX10_serve_191 : decode cX10_serve 191 = .ok (.iload_n 3, 1) := by decide +kernel
theorem dX10_serve_192 : decode cX10_serve 192 = .ok (.invokevirtual 94, 3) := by decide +kernel
theorem dX10_serve_195 : decode cX10_serve 195 = .ok (.ifCond .eq 17, 3) := by decide +kernel
theorem dX10_serve_198 : decode cX10_serve 198 = .ok (.aload_n 0, 1) := by decide +kernel
theorem dX10_serve_199 : decode cX10_serve 199 = .ok (.getfield 26, 3) := by decide +kernel
theorem dX10_serve_202 : decode cX10_serve 202 = .ok (.iconst 3, 1) := by decide +kernel
theorem dX10_serve_203 : decode cX10_serve 203 = .ok (.iload_n 3, 1) := by decide +kernel
theorem dX10_serve_204 : decode cX10_serve 204 = .ok (.imul, 1) := by decide +kernel
theorem dX10_serve_205 : decode cX10_serve 205 = .ok (.iload 5, 2) := by decide +kernel
theorem dX10_serve_207 : decode cX10_serve 207 = .ok (.iadd, 1) := by decide +kernel
theorem dX10_serve_208 : decode cX10_serve 208 = .ok (.iaload, 1) := by decide +kernel
theorem dX10_serve_209 : decode cX10_serve 209 = .ok (.goto 4, 3) := by decide +kernel
theorem dX10_serve_212 : decode cX10_serve 212 = .ok (.iconst 0, 1) := by decide +kernel
theorem dX10_serve_213 : decode cX10_serve 213 = .ok (.istore 6, 2) := by decide +kernel
theorem dX10_serve_215 : decode cX10_serve 215 = .ok (.iload 6, 2) := by decide +kernel
theorem dX10_serve_217 : decode cX10_serve 217 = .ok (.aload_n 0, 1) := by decide +kernel
theorem dX10_serve_218 : decode cX10_serve 218 = .ok (.getfield 50, 3) := by decide +kernel
theorem dX10_serve_221 : decode cX10_serve 221 = .ok (.iload_n 2, 1) := by decide +kernel
theorem dX10_serve_222 : decode cX10_serve 222 = .ok (.iaload, 1) := by decide +kernel
theorem dX10_serve_223 : decode cX10_serve 223 = .ok (.iand, 1) := by decide +kernel
theorem dX10_serve_224 : decode cX10_serve 224 = .ok (.aload_n 0, 1) := by decide +kernel
theorem dX10_serve_225 : decode cX10_serve 225 = .ok (.getfield 50, 3) := by decide +kernel
theorem dX10_serve_228 : decode cX10_serve 228 = .ok (.iload_n 2, 1) := by decide +kernel
theorem dX10_serve_229 : decode cX10_serve 229 = .ok (.iaload, 1) := by decide +kernel
theorem dX10_serve_230 : decode cX10_serve 230 = .ok (.if_icmp .eq 6, 3) := by decide +kernel
theorem dX10_serve_233 : decode cX10_serve 233 = .ok (.bipush (-6), 2) := by decide +kernel
theorem dX10_serve_235 : decode cX10_serve 235 = .ok (.ireturn, 1) := by decide +kernel
theorem dX10_serve_236 : decode cX10_serve 236 = .ok (.aload_n 0, 1) := by decide +kernel
theorem dX10_serve_237 : decode cX10_serve 237 = .ok (.getfield 147, 3) := by decide +kernel
theorem dX10_serve_240 : decode cX10_serve 240 = .ok (.bipush 12, 2) := by decide +kernel
theorem dX10_serve_242 : decode cX10_serve 242 = .ok (.if_icmp .ne 6, 3) := by decide +kernel
theorem dX10_serve_245 : decode cX10_serve 245 = .ok (.bipush (-7), 2) := by decide +kernel
theorem dX10_serve_247 : decode cX10_serve 247 = .ok (.ireturn, 1) := by decide +kernel
theorem dX10_serve_248 : decode cX10_serve 248 = .ok (.aload_n 0, 1) := by decide +kernel
theorem dX10_serve_249 : decode cX10_serve 249 = .ok (.getfield 80, 3) := by decide +kernel
theorem dX10_serve_252 : decode cX10_serve 252 = .ok (.aload_n 0, 1) := by decide +kernel
theorem dX10_serve_253 : decode cX10_serve 253 = .ok (.getfield 147, 3) := by decide +kernel
theorem dX10_serve_256 : decode cX10_serve 256 = .ok (.iload_n 2, 1) := by decide +kernel
theorem dX10_serve_257 : decode cX10_serve 257 = .ok (.iastore, 1) := by decide +kernel
theorem dX10_serve_258 : decode cX10_serve 258 = .ok (.aload_n 0, 1) := by decide +kernel
theorem dX10_serve_259 : decode cX10_serve 259 = .ok (.dup, 1) := by decide +kernel
theorem dX10_serve_260 : decode cX10_serve 260 = .ok (.getfield 147, 3) := by decide +kernel
theorem dX10_serve_263 : decode cX10_serve 263 = .ok (.iconst 1, 1) := by decide +kernel
theorem dX10_serve_264 : decode cX10_serve 264 = .ok (.iadd, 1) := by decide +kernel
theorem dX10_serve_265 : decode cX10_serve 265 = .ok (.putfield 147, 3) := by decide +kernel
theorem dX10_serve_268 : decode cX10_serve 268 = .ok (.aload_n 0, 1) := by decide +kernel
theorem dX10_serve_269 : decode cX10_serve 269 = .ok (.getfield 77, 3) := by decide +kernel
theorem dX10_serve_272 : decode cX10_serve 272 = .ok (.iload 5, 2) := by decide +kernel
theorem dX10_serve_274 : decode cX10_serve 274 = .ok (.aload_n 0, 1) := by decide +kernel
theorem dX10_serve_275 : decode cX10_serve 275 = .ok (.getfield 50, 3) := by decide +kernel
theorem dX10_serve_278 : decode cX10_serve 278 = .ok (.iload_n 2, 1) := by decide +kernel
theorem dX10_serve_279 : decode cX10_serve 279 = .ok (.iaload, 1) := by decide +kernel
theorem dX10_serve_280 : decode cX10_serve 280 = .ok (.iconst 2, 1) := by decide +kernel
theorem dX10_serve_281 : decode cX10_serve 281 = .ok (.if_icmp .ne 12, 3) := by decide +kernel
theorem dX10_serve_284 : decode cX10_serve 284 = .ok (.aload_n 0, 1) := by decide +kernel
theorem dX10_serve_285 : decode cX10_serve 285 = .ok (.getfield 56, 3) := by decide +kernel
theorem dX10_serve_288 : decode cX10_serve 288 = .ok (.iload_n 2, 1) := by decide +kernel
theorem dX10_serve_289 : decode cX10_serve 289 = .ok (.iaload, 1) := by decide +kernel
theorem dX10_serve_290 : decode cX10_serve 290 = .ok (.goto 37, 3) := by decide +kernel
theorem dX10_serve_293 : decode cX10_serve 293 = .ok (.aload_n 0, 1) := by decide +kernel
theorem dX10_serve_294 : decode cX10_serve 294 = .ok (.getfield 50, 3) := by decide +kernel
theorem dX10_serve_297 : decode cX10_serve 297 = .ok (.iload_n 2, 1) := by decide +kernel
theorem dX10_serve_298 : decode cX10_serve 298 = .ok (.iaload, 1) := by decide +kernel
theorem dX10_serve_299 : decode cX10_serve 299 = .ok (.iconst 3, 1) := by decide +kernel
theorem dX10_serve_300 : decode cX10_serve 300 = .ok (.if_icmp .ne 20, 3) := by decide +kernel
theorem dX10_serve_303 : decode cX10_serve 303 = .ok (.aload_n 0, 1) := by decide +kernel
theorem dX10_serve_304 : decode cX10_serve 304 = .ok (.getfield 77, 3) := by decide +kernel
theorem dX10_serve_307 : decode cX10_serve 307 = .ok (.iload 5, 2) := by decide +kernel
theorem dX10_serve_309 : decode cX10_serve 309 = .ok (.iaload, 1) := by decide +kernel
theorem dX10_serve_310 : decode cX10_serve 310 = .ok (.aload_n 0, 1) := by decide +kernel
theorem dX10_serve_311 : decode cX10_serve 311 = .ok (.getfield 56, 3) := by decide +kernel
theorem dX10_serve_314 : decode cX10_serve 314 = .ok (.iload_n 2, 1) := by decide +kernel
theorem dX10_serve_315 : decode cX10_serve 315 = .ok (.iaload, 1) := by decide +kernel
theorem dX10_serve_316 : decode cX10_serve 316 = .ok (.iadd, 1) := by decide +kernel
theorem dX10_serve_317 : decode cX10_serve 317 = .ok (.goto 10, 3) := by decide +kernel
theorem dX10_serve_320 : decode cX10_serve 320 = .ok (.aload_n 0, 1) := by decide +kernel
theorem dX10_serve_321 : decode cX10_serve 321 = .ok (.getfield 77, 3) := by decide +kernel
theorem dX10_serve_324 : decode cX10_serve 324 = .ok (.iload 5, 2) := by decide +kernel
theorem dX10_serve_326 : decode cX10_serve 326 = .ok (.iaload, 1) := by decide +kernel
theorem dX10_serve_327 : decode cX10_serve 327 = .ok (.iastore, 1) := by decide +kernel
theorem dX10_serve_328 : decode cX10_serve 328 = .ok (.aload_n 0, 1) := by decide +kernel
theorem dX10_serve_329 : decode cX10_serve 329 = .ok (.aload_n 0, 1) := by decide +kernel
theorem dX10_serve_330 : decode cX10_serve 330 = .ok (.getfield 77, 3) := by decide +kernel
theorem dX10_serve_333 : decode cX10_serve 333 = .ok (.iload 5, 2) := by decide +kernel
theorem dX10_serve_335 : decode cX10_serve 335 = .ok (.iaload, 1) := by decide +kernel
theorem dX10_serve_336 : decode cX10_serve 336 = .ok (.putfield 156, 3) := by decide +kernel
theorem dX10_serve_339 : decode cX10_serve 339 = .ok (.iconst 0, 1) := by decide +kernel
theorem dX10_serve_340 : decode cX10_serve 340 = .ok (.ireturn, 1) := by decide +kernel
theorem dX10_answer_0 : decode cX10_answer 0 = .ok (.aload_n 0, 1) := by decide +kernel
theorem dX10_answer_1 : decode cX10_answer 1 = .ok (.getfield 156, 3) := by decide +kernel
theorem dX10_answer_4 : decode cX10_answer 4 = .ok (.ireturn, 1) := by decide +kernel
theorem dX10_steal_0 : decode cX10_steal 0 = .ok (.iload_n 1, 1) := by decide +kernel
theorem dX10_steal_1 : decode cX10_steal 1 = .ok (.iconst 0, 1) := by decide +kernel
theorem dX10_steal_2 : decode cX10_steal 2 = .ok (.iconst 5, 1) := by decide +kernel
theorem dX10_steal_3 : decode cX10_steal 3 = .ok (.invokestatic 87, 3) := by decide +kernel
theorem dX10_steal_6 : decode cX10_steal 6 = .ok (.ifCond .eq 12, 3) := by decide +kernel
theorem dX10_steal_9 : decode cX10_steal 9 = .ok (.aload_n 0, 1) := by decide +kernel
theorem dX10_steal_10 : decode cX10_steal 10 = .ok (.getfield 13, 3) := by decide +kernel
theorem dX10_steal_13 : decode cX10_steal 13 = .ok (.iload_n 1, 1) := by decide +kernel
theorem dX10_steal_14 : decode cX10_steal 14 = .ok (.iaload, 1) := by decide +kernel
theorem dX10_steal_15 : decode cX10_steal 15 = .ok (.ifCond .ge 5, 3) := by decide +kernel
theorem dX10_steal_18 : decode cX10_steal 18 = .ok (.iconst (-1), 1) := by decide +kernel
theorem dX10_steal_19 : decode cX10_steal 19 = .ok (.ireturn, 1) := by decide +kernel
theorem dX10_steal_20 : decode cX10_steal 20 = .ok (.aload_n 0, 1) := by decide +kernel
theorem dX10_steal_21 : decode cX10_steal 21 = .ok (.getfield 16, 3) := by decide +kernel
theorem dX10_steal_24 : decode cX10_steal 24 = .ok (.aload_n 0, 1) := by decide +kernel
theorem dX10_steal_25 : decode cX10_steal 25 = .ok (.getfield 13, 3) := by decide +kernel
theorem dX10_steal_28 : decode cX10_steal 28 = .ok (.iload_n 1, 1) := by decide +kernel
theorem dX10_steal_29 : decode cX10_steal 29 = .ok (.iaload, 1) := by decide +kernel
theorem dX10_steal_30 : decode cX10_steal 30 = .ok (.iconst 1, 1) := by decide +kernel
theorem dX10_steal_31 : decode cX10_steal 31 = .ok (.bastore, 1) := by decide +kernel
theorem dX10_steal_32 : decode cX10_steal 32 = .ok (.aload_n 0, 1) := by decide +kernel
theorem dX10_steal_33 : decode cX10_steal 33 = .ok (.getfield 13, 3) := by decide +kernel
theorem dX10_steal_36 : decode cX10_steal 36 = .ok (.iload_n 1, 1) := by decide +kernel
theorem dX10_steal_37 : decode cX10_steal 37 = .ok (.iaload, 1) := by decide +kernel
theorem dX10_steal_38 : decode cX10_steal 38 = .ok (.ireturn, 1) := by decide +kernel
theorem dX10_learn_0 : decode cX10_learn 0 = .ok (.iload_n 1, 1) := by decide +kernel
theorem dX10_learn_1 : decode cX10_learn 1 = .ok (.iconst 0, 1) := by decide +kernel
theorem dX10_learn_2 : decode cX10_learn 2 = .ok (.aload_n 0, 1) := by decide +kernel
theorem dX10_learn_3 : decode cX10_learn 3 = .ok (.getfield 102, 3) := by decide +kernel
theorem dX10_learn_6 : decode cX10_learn 6 = .ok (.iconst 1, 1) := by decide +kernel
theorem dX10_learn_7 : decode cX10_learn 7 = .ok (.isub, 1) := by decide +kernel
theorem dX10_learn_8 : decode cX10_learn 8 = .ok (.invokestatic 87, 3) := by decide +kernel
theorem dX10_learn_11 : decode cX10_learn 11 = .ok (.ifCond .ne 5, 3) := by decide +kernel
theorem dX10_learn_14 : decode cX10_learn 14 = .ok (.iconst (-1), 1) := by decide +kernel
theorem dX10_learn_15 : decode cX10_learn 15 = .ok (.ireturn, 1) := by decide +kernel
theorem dX10_learn_16 : decode cX10_learn 16 = .ok (.aload_n 0, 1) := by decide +kernel
theorem dX10_learn_17 : decode cX10_learn 17 = .ok (.getfield 16, 3) := by decide +kernel
theorem dX10_learn_20 : decode cX10_learn 20 = .ok (.aload_n 0, 1) := by decide +kernel
theorem dX10_learn_21 : decode cX10_learn 21 = .ok (.getfield 32, 3) := by decide +kernel
theorem dX10_learn_24 : decode cX10_learn 24 = .ok (.iload_n 1, 1) := by decide +kernel
theorem dX10_learn_25 : decode cX10_learn 25 = .ok (.iaload, 1) := by decide +kernel
theorem dX10_learn_26 : decode cX10_learn 26 = .ok (.baload, 1) := by decide +kernel
theorem dX10_learn_27 : decode cX10_learn 27 = .ok (.ifCond .ne 6, 3) := by decide +kernel
theorem dX10_learn_30 : decode cX10_learn 30 = .ok (.bipush (-2), 2) := by decide +kernel
theorem dX10_learn_32 : decode cX10_learn 32 = .ok (.ireturn, 1) := by decide +kernel
theorem dX10_learn_33 : decode cX10_learn 33 = .ok (.aload_n 0, 1) := by decide +kernel
theorem dX10_learn_34 : decode cX10_learn 34 = .ok (.getfield 29, 3) := by decide +kernel
theorem dX10_learn_37 : decode cX10_learn 37 = .ok (.iload_n 1, 1) := by decide +kernel
theorem dX10_learn_38 : decode cX10_learn 38 = .ok (.iaload, 1) := by decide +kernel
theorem dX10_learn_39 : decode cX10_learn 39 = .ok (.iconst 2, 1) := by decide +kernel
theorem dX10_learn_40 : decode cX10_learn 40 = .ok (.if_icmp .eq 15, 3) := by decide +kernel
theorem dX10_learn_43 : decode cX10_learn 43 = .ok (.aload_n 0, 1) := by decide +kernel
theorem dX10_learn_44 : decode cX10_learn 44 = .ok (.getfield 29, 3) := by decide +kernel
theorem dX10_learn_47 : decode cX10_learn 47 = .ok (.iload_n 1, 1) := by decide +kernel
theorem dX10_learn_48 : decode cX10_learn 48 = .ok (.iaload, 1) := by decide +kernel
theorem dX10_learn_49 : decode cX10_learn 49 = .ok (.iconst 3, 1) := by decide +kernel
theorem dX10_learn_50 : decode cX10_learn 50 = .ok (.if_icmp .eq 5, 3) := by decide +kernel
theorem dX10_learn_53 : decode cX10_learn 53 = .ok (.iconst 0, 1) := by decide +kernel
theorem dX10_learn_54 : decode cX10_learn 54 = .ok (.ireturn, 1) := by decide +kernel
theorem dX10_learn_55 : decode cX10_learn 55 = .ok (.aload_n 0, 1) := by decide +kernel
theorem dX10_learn_56 : decode cX10_learn 56 = .ok (.getfield 16, 3) := by decide +kernel
theorem dX10_learn_59 : decode cX10_learn 59 = .ok (.aload_n 0, 1) := by decide +kernel
theorem dX10_learn_60 : decode cX10_learn 60 = .ok (.getfield 38, 3) := by decide +kernel
theorem dX10_learn_63 : decode cX10_learn 63 = .ok (.iload_n 1, 1) := by decide +kernel
theorem dX10_learn_64 : decode cX10_learn 64 = .ok (.iaload, 1) := by decide +kernel
theorem dX10_learn_65 : decode cX10_learn 65 = .ok (.iconst 1, 1) := by decide +kernel
theorem dX10_learn_66 : decode cX10_learn 66 = .ok (.bastore, 1) := by decide +kernel
theorem dX10_learn_67 : decode cX10_learn 67 = .ok (.aload_n 0, 1) := by decide +kernel
theorem dX10_learn_68 : decode cX10_learn 68 = .ok (.getfield 38, 3) := by decide +kernel
theorem dX10_learn_71 : decode cX10_learn 71 = .ok (.iload_n 1, 1) := by decide +kernel
theorem dX10_learn_72 : decode cX10_learn 72 = .ok (.iaload, 1) := by decide +kernel
theorem dX10_learn_73 : decode cX10_learn 73 = .ok (.ireturn, 1) := by decide +kernel
theorem dX10_isStolen_0 : decode cX10_isStolen 0 = .ok (.iload_n 1, 1) := by decide +kernel
theorem dX10_isStolen_1 : decode cX10_isStolen 1 = .ok (.iconst 0, 1) := by decide +kernel
theorem dX10_isStolen_2 : decode cX10_isStolen 2 = .ok (.aload_n 0, 1) := by decide +kernel
theorem dX10_isStolen_3 : decode cX10_isStolen 3 = .ok (.getfield 91, 3) := by decide +kernel
theorem dX10_isStolen_6 : decode cX10_isStolen 6 = .ok (.iconst 1, 1) := by decide +kernel
theorem dX10_isStolen_7 : decode cX10_isStolen 7 = .ok (.isub, 1) := by decide +kernel
theorem dX10_isStolen_8 : decode cX10_isStolen 8 = .ok (.invokestatic 87, 3) := by decide +kernel
theorem dX10_isStolen_11 : decode cX10_isStolen 11 = .ok (.ifCond .eq 16, 3) := by decide +kernel
theorem dX10_isStolen_14 : decode cX10_isStolen 14 = .ok (.aload_n 0, 1) := by decide +kernel
theorem dX10_isStolen_15 : decode cX10_isStolen 15 = .ok (.getfield 16, 3) := by decide +kernel
theorem dX10_isStolen_18 : decode cX10_isStolen 18 = .ok (.iload_n 1, 1) := by decide +kernel
theorem dX10_isStolen_19 : decode cX10_isStolen 19 = .ok (.baload, 1) := by decide +kernel
theorem dX10_isStolen_20 : decode cX10_isStolen 20 = .ok (.ifCond .eq 7, 3) := by decide +kernel
theorem dX10_isStolen_23 : decode cX10_isStolen 23 = .ok (.iconst 1, 1) := by decide +kernel
theorem dX10_isStolen_24 : decode cX10_isStolen 24 = .ok (.goto 4, 3) := by decide +kernel
theorem dX10_isStolen_27 : decode cX10_isStolen 27 = .ok (.iconst 0, 1) := by decide +kernel
theorem dX10_isStolen_28 : decode cX10_isStolen 28 = .ok (.ireturn, 1) := by decide +kernel
theorem dX10_forge_0 : decode cX10_forge 0 = .ok (.iload_n 2, 1) := by decide +kernel
theorem dX10_forge_1 : decode cX10_forge 1 = .ok (.iconst 1, 1) := by decide +kernel
theorem dX10_forge_2 : decode cX10_forge 2 = .ok (.iconst 4, 1) := by decide +kernel
theorem dX10_forge_3 : decode cX10_forge 3 = .ok (.invokestatic 87, 3) := by decide +kernel
theorem dX10_forge_6 : decode cX10_forge 6 = .ok (.ifCond .eq 17, 3) := by decide +kernel
theorem dX10_forge_9 : decode cX10_forge 9 = .ok (.iload_n 2, 1) := by decide +kernel
theorem dX10_forge_10 : decode cX10_forge 10 = .ok (.iconst 3, 1) := by decide +kernel
theorem dX10_forge_11 : decode cX10_forge 11 = .ok (.if_icmp .eq 14, 3) := by decide +kernel
theorem dX10_forge_14 : decode cX10_forge 14 = .ok (.iload_n 3, 1) := by decide +kernel
theorem dX10_forge_15 : decode cX10_forge 15 = .ok (.iconst 0, 1) := by decide +kernel
theorem dX10_forge_16 : decode cX10_forge 16 = .ok (.iconst 5, 1) := by decide +kernel
theorem dX10_forge_17 : decode cX10_forge 17 = .ok (.invokestatic 87, 3) := by decide +kernel
theorem dX10_forge_20 : decode cX10_forge 20 = .ok (.ifCond .ne 5, 3) := by decide +kernel
theorem dX10_forge_23 : decode cX10_forge 23 = .ok (.iconst (-1), 1) := by decide +kernel
theorem dX10_forge_24 : decode cX10_forge 24 = .ok (.ireturn, 1) := by decide +kernel
theorem dX10_forge_25 : decode cX10_forge 25 = .ok (.aload_n 0, 1) := by decide +kernel
theorem dX10_forge_26 : decode cX10_forge 26 = .ok (.iload_n 1, 1) := by decide +kernel
theorem dX10_forge_27 : decode cX10_forge 27 = .ok (.invokevirtual 159, 3) := by decide +kernel
theorem dX10_forge_30 : decode cX10_forge 30 = .ok (.ifCond .eq 22, 3) := by decide +kernel
theorem dX10_forge_33 : decode cX10_forge 33 = .ok (.iload_n 2, 1) := by decide +kernel
theorem dX10_forge_34 : decode cX10_forge 34 = .ok (.iconst 2, 1) := by decide +kernel
theorem dX10_forge_35 : decode cX10_forge 35 = .ok (.if_icmp .eq 8, 3) := by decide +kernel
theorem dX10_forge_38 : decode cX10_forge 38 = .ok (.iload_n 2, 1) := by decide +kernel
theorem dX10_forge_39 : decode cX10_forge 39 = .ok (.iconst 3, 1) := by decide +kernel
theorem dX10_forge_40 : decode cX10_forge 40 = .ok (.if_icmp .ne 15, 3) := by decide +kernel
theorem dX10_forge_43 : decode cX10_forge 43 = .ok (.aload_n 0, 1) := by decide +kernel
theorem dX10_forge_44 : decode cX10_forge 44 = .ok (.iload 4, 2) := by decide +kernel
theorem dX10_forge_46 : decode cX10_forge 46 = .ok (.invokevirtual 159, 3) := by decide +kernel
theorem dX10_forge_49 : decode cX10_forge 49 = .ok (.ifCond .ne 6, 3) := by decide +kernel
theorem dX10_forge_52 : decode cX10_forge 52 = .ok (.bipush (-2), 2) := by decide +kernel
theorem dX10_forge_54 : decode cX10_forge 54 = .ok (.ireturn, 1) := by decide +kernel
theorem dX10_forge_55 : decode cX10_forge 55 = .ok (.aload_n 0, 1) := by decide +kernel
theorem dX10_forge_56 : decode cX10_forge 56 = .ok (.getfield 102, 3) := by decide +kernel
theorem dX10_forge_59 : decode cX10_forge 59 = .ok (.sipush 150, 3) := by decide +kernel
theorem dX10_forge_62 : decode cX10_forge 62 = .ok (.if_icmp .lt 6, 3) := by decide +kernel
theorem dX10_forge_65 : decode cX10_forge 65 = .ok (.bipush (-7), 2) := by decide +kernel
theorem dX10_forge_67 : decode cX10_forge 67 = .ok (.ireturn, 1) := by decide +kernel
theorem dX10_forge_68 : decode cX10_forge 68 = .ok (.iload_n 2, 1) := by decide +kernel
theorem dX10_forge_69 : decode cX10_forge 69 = .ok (.iconst 1, 1) := by decide +kernel
theorem dX10_forge_70 : decode cX10_forge 70 = .ok (.if_icmp .ne 12, 3) := by decide +kernel
theorem dX10_forge_73 : decode cX10_forge 73 = .ok (.aload_n 0, 1) := by decide +kernel
theorem dX10_forge_74 : decode cX10_forge 74 = .ok (.iload_n 1, 1) := by decide +kernel
theorem dX10_forge_75 : decode cX10_forge 75 = .ok (.iload_n 3, 1) := by decide +kernel
theorem dX10_forge_76 : decode cX10_forge 76 = .ok (.iload 5, 2) := by decide +kernel
theorem dX10_forge_78 : decode cX10_forge 78 = .ok (.invokevirtual 119, 3) := by decide +kernel
theorem dX10_forge_81 : decode cX10_forge 81 = .ok (.ireturn, 1) := by decide +kernel
theorem dX10_forge_82 : decode cX10_forge 82 = .ok (.iload_n 2, 1) := by decide +kernel
theorem dX10_forge_83 : decode cX10_forge 83 = .ok (.iconst 2, 1) := by decide +kernel
theorem dX10_forge_84 : decode cX10_forge 84 = .ok (.if_icmp .ne 17, 3) := by decide +kernel
theorem dX10_forge_87 : decode cX10_forge 87 = .ok (.aload_n 0, 1) := by decide +kernel
theorem dX10_forge_88 : decode cX10_forge 88 = .ok (.iload_n 1, 1) := by decide +kernel
theorem dX10_forge_89 : decode cX10_forge 89 = .ok (.iload_n 3, 1) := by decide +kernel
theorem dX10_forge_90 : decode cX10_forge 90 = .ok (.iload 4, 2) := by decide +kernel
theorem dX10_forge_92 : decode cX10_forge 92 = .ok (.iconst 0, 1) := by decide +kernel
theorem dX10_forge_93 : decode cX10_forge 93 = .ok (.iload 5, 2) := by decide +kernel
theorem dX10_forge_95 : decode cX10_forge 95 = .ok (.iload 5, 2) := by decide +kernel
theorem dX10_forge_97 : decode cX10_forge 97 = .ok (.invokevirtual 129, 3) := by decide +kernel
theorem dX10_forge_100 : decode cX10_forge 100 = .ok (.ireturn, 1) := by decide +kernel
theorem dX10_forge_101 : decode cX10_forge 101 = .ok (.iload_n 2, 1) := by decide +kernel
theorem dX10_forge_102 : decode cX10_forge 102 = .ok (.iconst 3, 1) := by decide +kernel
theorem dX10_forge_103 : decode cX10_forge 103 = .ok (.if_icmp .ne 16, 3) := by decide +kernel
theorem dX10_forge_106 : decode cX10_forge 106 = .ok (.aload_n 0, 1) := by decide +kernel
theorem dX10_forge_107 : decode cX10_forge 107 = .ok (.iload_n 1, 1) := by decide +kernel
theorem dX10_forge_108 : decode cX10_forge 108 = .ok (.iload 4, 2) := by decide +kernel
theorem dX10_forge_110 : decode cX10_forge 110 = .ok (.iload 5, 2) := by decide +kernel
theorem dX10_forge_112 : decode cX10_forge 112 = .ok (.iconst 1, 1) := by decide +kernel
theorem dX10_forge_113 : decode cX10_forge 113 = .ok (.ldc 162, 2) := by decide +kernel
theorem dX10_forge_115 : decode cX10_forge 115 = .ok (.invokevirtual 133, 3) := by decide +kernel
theorem dX10_forge_118 : decode cX10_forge 118 = .ok (.ireturn, 1) := by decide +kernel
theorem dX10_forge_119 : decode cX10_forge 119 = .ok (.aload_n 0, 1) := by decide +kernel
theorem dX10_forge_120 : decode cX10_forge 120 = .ok (.iload_n 1, 1) := by decide +kernel
theorem dX10_forge_121 : decode cX10_forge 121 = .ok (.iload_n 3, 1) := by decide +kernel
theorem dX10_forge_122 : decode cX10_forge 122 = .ok (.iload 5, 2) := by decide +kernel
theorem dX10_forge_124 : decode cX10_forge 124 = .ok (.iconst 0, 1) := by decide +kernel
theorem dX10_forge_125 : decode cX10_forge 125 = .ok (.invokevirtual 123, 3) := by decide +kernel
theorem dX10_forge_128 : decode cX10_forge 128 = .ok (.istore 6, 2) := by decide +kernel
theorem dX10_forge_130 : decode cX10_forge 130 = .ok (.aload_n 0, 1) := by decide +kernel
theorem dX10_forge_131 : decode cX10_forge 131 = .ok (.getfield 50, 3) := by decide +kernel
theorem dX10_forge_134 : decode cX10_forge 134 = .ok (.iload 6, 2) := by decide +kernel
theorem dX10_forge_136 : decode cX10_forge 136 = .ok (.iload 4, 2) := by decide +kernel
theorem dX10_forge_138 : decode cX10_forge 138 = .ok (.iconst 3, 1) := by decide +kernel
theorem dX10_forge_139 : decode cX10_forge 139 = .ok (.iand, 1) := by decide +kernel
theorem dX10_forge_140 : decode cX10_forge 140 = .ok (.iastore, 1) := by decide +kernel
theorem dX10_forge_141 : decode cX10_forge 141 = .ok (.aload_n 0, 1) := by decide +kernel
theorem dX10_forge_142 : decode cX10_forge 142 = .ok (.getfield 53, 3) := by decide +kernel
theorem dX10_forge_145 : decode cX10_forge 145 = .ok (.iload 6, 2) := by decide +kernel
theorem dX10_forge_147 : decode cX10_forge 147 = .ok (.iload 4, 2) := by decide +kernel
theorem dX10_forge_149 : decode cX10_forge 149 = .ok (.iconst 2, 1) := by decide +kernel
theorem dX10_forge_150 : decode cX10_forge 150 = .ok (.ishr, 1) := by decide +kernel
theorem dX10_forge_151 : decode cX10_forge 151 = .ok (.iconst 3, 1) := by decide +kernel
theorem dX10_forge_152 : decode cX10_forge 152 = .ok (.iand, 1) := by decide +kernel
theorem dX10_forge_153 : decode cX10_forge 153 = .ok (.iconst 3, 1) := by decide +kernel
theorem dX10_forge_154 : decode cX10_forge 154 = .ok (.irem, 1) := by decide +kernel
theorem dX10_forge_155 : decode cX10_forge 155 = .ok (.iastore, 1) := by decide +kernel
theorem dX10_forge_156 : decode cX10_forge 156 = .ok (.aload_n 0, 1) := by decide +kernel
theorem dX10_forge_157 : decode cX10_forge 157 = .ok (.getfield 56, 3) := by decide +kernel
theorem dX10_forge_160 : decode cX10_forge 160 = .ok (.iload 6, 2) := by decide +kernel
theorem dX10_forge_162 : decode cX10_forge 162 = .ok (.iload 4, 2) := by decide +kernel
theorem dX10_forge_164 : decode cX10_forge 164 = .ok (.iconst 4, 1) := by decide +kernel
theorem dX10_forge_165 : decode cX10_forge 165 = .ok (.ishr, 1) := by decide +kernel
theorem dX10_forge_166 : decode cX10_forge 166 = .ok (.iastore, 1) := by decide +kernel
theorem dX10_forge_167 : decode cX10_forge 167 = .ok (.iload 6, 2) := by decide +kernel
theorem dX10_forge_169 : decode cX10_forge 169 = .ok (.ireturn, 1) := by decide +kernel
theorem dX10_seal_0 : decode cX10_seal 0 = .ok (.iload_n 1, 1) := by decide +kernel
theorem dX10_seal_1 : decode cX10_seal 1 = .ok (.iconst 0, 1) := by decide +kernel
theorem dX10_seal_2 : decode cX10_seal 2 = .ok (.aload_n 0, 1) := by decide +kernel
theorem dX10_seal_3 : decode cX10_seal 3 = .ok (.getfield 102, 3) := by decide +kernel
theorem dX10_seal_6 : decode cX10_seal 6 = .ok (.iconst 1, 1) := by decide +kernel
theorem dX10_seal_7 : decode cX10_seal 7 = .ok (.isub, 1) := by decide +kernel
theorem dX10_seal_8 : decode cX10_seal 8 = .ok (.invokestatic 87, 3) := by decide +kernel
theorem dX10_seal_11 : decode cX10_seal 11 = .ok (.ifCond .eq 12, 3) := by decide +kernel
theorem dX10_seal_14 : decode cX10_seal 14 = .ok (.iload_n 2, 1) := by decide +kernel
theorem dX10_seal_15 : decode cX10_seal 15 = .ok (.iconst 0, 1) := by decide +kernel
theorem dX10_seal_16 : decode cX10_seal 16 = .ok (.iconst 2, 1) := by decide +kernel
theorem dX10_seal_17 : decode cX10_seal 17 = .ok (.invokestatic 87, 3) := by decide +kernel
theorem dX10_seal_20 : decode cX10_seal 20 = .ok (.ifCond .ne 5, 3) := by decide +kernel
theorem dX10_seal_23 : decode cX10_seal 23 = .ok (.iconst (-1), 1) := by decide +kernel
theorem dX10_seal_24 : decode cX10_seal 24 = .ok (.ireturn, 1) := by decide +kernel
theorem dX10_seal_25 : decode cX10_seal 25 = .ok (.aload_n 0, 1) := by decide +kernel
theorem dX10_seal_26 : decode cX10_seal 26 = .ok (.getfield 29, 3) := by decide +kernel
theorem dX10_seal_29 : decode cX10_seal 29 = .ok (.iload_n 1, 1) := by decide +kernel
theorem dX10_seal_30 : decode cX10_seal 30 = .ok (.iaload, 1) := by decide +kernel
theorem dX10_seal_31 : decode cX10_seal 31 = .ok (.istore_n 3, 1) := by decide +kernel
theorem dX10_seal_32 : decode cX10_seal 32 = .ok (.iload_n 2, 1) := by decide +kernel
theorem dX10_seal_33 : decode cX10_seal 33 = .ok (.ifCond .ne 5, 3) := by decide +kernel
theorem dX10_seal_36 : decode cX10_seal 36 = .ok (.iload_n 3, 1) := by decide +kernel
theorem dX10_seal_37 : decode cX10_seal 37 = .ok (.ireturn, 1) := by decide +kernel
theorem dX10_seal_38 : decode cX10_seal 38 = .ok (.iload_n 2, 1) := by decide +kernel
theorem dX10_seal_39 : decode cX10_seal 39 = .ok (.iconst 1, 1) := by decide +kernel
theorem dX10_seal_40 : decode cX10_seal 40 = .ok (.if_icmp .ne 33, 3) := by decide +kernel
theorem dX10_seal_43 : decode cX10_seal 43 = .ok (.iload_n 3, 1) := by decide +kernel
theorem dX10_seal_44 : decode cX10_seal 44 = .ok (.iconst 2, 1) := by decide +kernel
theorem dX10_seal_45 : decode cX10_seal 45 = .ok (.if_icmp .ne 12, 3) := by decide +kernel
theorem dX10_seal_48 : decode cX10_seal 48 = .ok (.aload_n 0, 1) := by decide +kernel
theorem dX10_seal_49 : decode cX10_seal 49 = .ok (.getfield 44, 3) := by decide +kernel
theorem dX10_seal_52 : decode cX10_seal 52 = .ok (.iload_n 1, 1) := by decide +kernel
theorem dX10_seal_53 : decode cX10_seal 53 = .ok (.iaload, 1) := by decide +kernel
theorem dX10_seal_54 : decode cX10_seal 54 = .ok (.goto 18, 3) := by decide +kernel
theorem dX10_seal_57 : decode cX10_seal 57 = .ok (.iload_n 3, 1) := by decide +kernel
theorem dX10_seal_58 : decode cX10_seal 58 = .ok (.iconst 3, 1) := by decide +kernel
theorem dX10_seal_59 : decode cX10_seal 59 = .ok (.if_icmp .ne 12, 3) := by decide +kernel
theorem dX10_seal_62 : decode cX10_seal 62 = .ok (.aload_n 0, 1) := by decide +kernel
theorem dX10_seal_63 : decode cX10_seal 63 = .ok (.getfield 47, 3) := by decide +kernel
theorem dX10_seal_66 : decode cX10_seal 66 = .ok (.iload_n 1, 1) := by decide +kernel
theorem dX10_seal_67 : decode cX10_seal 67 = .ok (.iaload, 1) := by decide +kernel
theorem dX10_seal_68 : decode cX10_seal 68 = .ok (.goto 4, 3) := by decide +kernel
theorem dX10_seal_71 : decode cX10_seal 71 = .ok (.iconst 0, 1) := by decide +kernel
theorem dX10_seal_72 : decode cX10_seal 72 = .ok (.ireturn, 1) := by decide +kernel
theorem dX10_seal_73 : decode cX10_seal 73 = .ok (.iload_n 3, 1) := by decide +kernel
theorem dX10_seal_74 : decode cX10_seal 74 = .ok (.iconst 1, 1) := by decide +kernel
theorem dX10_seal_75 : decode cX10_seal 75 = .ok (.if_icmp .eq 8, 3) := by decide +kernel
theorem dX10_seal_78 : decode cX10_seal 78 = .ok (.iload_n 3, 1) := by decide +kernel
theorem dX10_seal_79 : decode cX10_seal 79 = .ok (.iconst 4, 1) := by decide +kernel
theorem dX10_seal_80 : decode cX10_seal 80 = .ok (.if_icmp .ne 12, 3) := by decide +kernel
theorem dX10_seal_83 : decode cX10_seal 83 = .ok (.aload_n 0, 1) := by decide +kernel
theorem dX10_seal_84 : decode cX10_seal 84 = .ok (.getfield 41, 3) := by decide +kernel
theorem dX10_seal_87 : decode cX10_seal 87 = .ok (.iload_n 1, 1) := by decide +kernel
theorem dX10_seal_88 : decode cX10_seal 88 = .ok (.iaload, 1) := by decide +kernel
theorem dX10_seal_89 : decode cX10_seal 89 = .ok (.goto 4, 3) := by decide +kernel
theorem dX10_seal_92 : decode cX10_seal 92 = .ok (.iconst 0, 1) := by decide +kernel
theorem dX10_seal_93 : decode cX10_seal 93 = .ok (.ireturn, 1) := by decide +kernel
theorem dX10_look_0 : decode cX10_look 0 = .ok (.iload_n 1, 1) := by decide +kernel
theorem dX10_look_1 : decode cX10_look 1 = .ok (.tableswitch 165 0 7 #[47, 67, 87, 92, 111, 132, 155, 160], 47) := by decide +kernel
theorem dX10_look_48 : decode cX10_look 48 = .ok (.iload_n 2, 1) := by decide +kernel
theorem dX10_look_49 : decode cX10_look 49 = .ok (.iconst 0, 1) := by decide +kernel
theorem dX10_look_50 : decode cX10_look 50 = .ok (.iconst 2, 1) := by decide +kernel
theorem dX10_look_51 : decode cX10_look 51 = .ok (.invokestatic 87, 3) := by decide +kernel
theorem dX10_look_54 : decode cX10_look 54 = .ok (.ifCond .eq 12, 3) := by decide +kernel
theorem dX10_look_57 : decode cX10_look 57 = .ok (.aload_n 0, 1) := by decide +kernel
theorem dX10_look_58 : decode cX10_look 58 = .ok (.getfield 77, 3) := by decide +kernel
theorem dX10_look_61 : decode cX10_look 61 = .ok (.iload_n 2, 1) := by decide +kernel
theorem dX10_look_62 : decode cX10_look 62 = .ok (.iaload, 1) := by decide +kernel
theorem dX10_look_63 : decode cX10_look 63 = .ok (.goto 4, 3) := by decide +kernel
theorem dX10_look_66 : decode cX10_look 66 = .ok (.iconst (-1), 1) := by decide +kernel
theorem dX10_look_67 : decode cX10_look 67 = .ok (.ireturn, 1) := by decide +kernel
theorem dX10_look_68 : decode cX10_look 68 = .ok (.iload_n 2, 1) := by decide +kernel
theorem dX10_look_69 : decode cX10_look 69 = .ok (.iconst 0, 1) := by decide +kernel
theorem dX10_look_70 : decode cX10_look 70 = .ok (.iconst 5, 1) := by decide +kernel
theorem dX10_look_71 : decode cX10_look 71 = .ok (.invokestatic 87, 3) := by decide +kernel
theorem dX10_look_74 : decode cX10_look 74 = .ok (.ifCond .eq 12, 3) := by decide +kernel
theorem dX10_look_77 : decode cX10_look 77 = .ok (.aload_n 0, 1) := by decide +kernel
theorem dX10_look_78 : decode cX10_look 78 = .ok (.getfield 7, 3) := by decide +kernel
theorem dX10_look_81 : decode cX10_look 81 = .ok (.iload_n 2, 1) := by decide +kernel
theorem dX10_look_82 : decode cX10_look 82 = .ok (.iaload, 1) := by decide +kernel
theorem dX10_look_83 : decode cX10_look 83 = .ok (.goto 4, 3) := by decide +kernel
theorem dX10_look_86 : decode cX10_look 86 = .ok (.iconst (-1), 1) := by decide +kernel
theorem dX10_look_87 : decode cX10_look 87 = .ok (.ireturn, 1) := by decide +kernel
theorem dX10_look_88 : decode cX10_look 88 = .ok (.aload_n 0, 1) := by decide +kernel
theorem dX10_look_89 : decode cX10_look 89 = .ok (.getfield 147, 3) := by decide +kernel
theorem dX10_look_92 : decode cX10_look 92 = .ok (.ireturn, 1) := by decide +kernel
theorem dX10_look_93 : decode cX10_look 93 = .ok (.aload_n 0, 1) := by decide +kernel
theorem dX10_look_94 : decode cX10_look 94 = .ok (.iload_n 2, 1) := by decide +kernel
theorem dX10_look_95 : decode cX10_look 95 = .ok (.invokevirtual 112, 3) := by decide +kernel
theorem dX10_look_98 : decode cX10_look 98 = .ok (.ifCond .eq 12, 3) := by decide +kernel
theorem dX10_look_101 : decode cX10_look 101 = .ok (.aload_n 0, 1) := by decide +kernel
theorem dX10_look_102 : decode cX10_look 102 = .ok (.getfield 59, 3) := by decide +kernel
theorem dX10_look_105 : decode cX10_look 105 = .ok (.iload_n 2, 1) := by decide +kernel
theorem dX10_look_106 : decode cX10_look 106 = .ok (.iaload, 1) := by decide +kernel
theorem dX10_look_107 : decode cX10_look 107 = .ok (.goto 4, 3) := by decide +kernel
theorem dX10_look_110 : decode cX10_look 110 = .ok (.iconst (-1), 1) := by decide +kernel
theorem dX10_look_111 : decode cX10_look 111 = .ok (.ireturn, 1) := by decide +kernel
theorem dX10_look_112 : decode cX10_look 112 = .ok (.aload_n 0, 1) := by decide +kernel
theorem dX10_look_113 : decode cX10_look 113 = .ok (.iload_n 2, 1) := by decide +kernel
theorem dX10_look_114 : decode cX10_look 114 = .ok (.invokevirtual 112, 3) := by decide +kernel
theorem dX10_look_117 : decode cX10_look 117 = .ok (.ifCond .eq 14, 3) := by decide +kernel
theorem dX10_look_120 : decode cX10_look 120 = .ok (.aload_n 0, 1) := by decide +kernel
theorem dX10_look_121 : decode cX10_look 121 = .ok (.getfield 68, 3) := by decide +kernel
theorem dX10_look_124 : decode cX10_look 124 = .ok (.iconst 2, 1) := by decide +kernel
theorem dX10_look_125 : decode cX10_look 125 = .ok (.iload_n 2, 1) := by decide +kernel
theorem dX10_look_126 : decode cX10_look 126 = .ok (.imul, 1) := by decide +kernel
theorem dX10_look_127 : decode cX10_look 127 = .ok (.iaload, 1) := by decide +kernel
theorem dX10_look_128 : decode cX10_look 128 = .ok (.goto 4, 3) := by decide +kernel
theorem dX10_look_131 : decode cX10_look 131 = .ok (.iconst (-1), 1) := by decide +kernel
theorem dX10_look_132 : decode cX10_look 132 = .ok (.ireturn, 1) := by decide +kernel
theorem dX10_look_133 : decode cX10_look 133 = .ok (.aload_n 0, 1) := by decide +kernel
theorem dX10_look_134 : decode cX10_look 134 = .ok (.iload_n 2, 1) := by decide +kernel
theorem dX10_look_135 : decode cX10_look 135 = .ok (.invokevirtual 112, 3) := by decide +kernel
theorem dX10_look_138 : decode cX10_look 138 = .ok (.ifCond .eq 16, 3) := by decide +kernel
theorem dX10_look_141 : decode cX10_look 141 = .ok (.aload_n 0, 1) := by decide +kernel
theorem dX10_look_142 : decode cX10_look 142 = .ok (.getfield 68, 3) := by decide +kernel
theorem dX10_look_145 : decode cX10_look 145 = .ok (.iconst 2, 1) := by decide +kernel
theorem dX10_look_146 : decode cX10_look 146 = .ok (.iload_n 2, 1) := by decide +kernel
theorem dX10_look_147 : decode cX10_look 147 = .ok (.imul, 1) := by decide +kernel
theorem dX10_look_148 : decode cX10_look 148 = .ok (.iconst 1, 1) := by decide +kernel
theorem dX10_look_149 : decode cX10_look 149 = .ok (.iadd, 1) := by decide +kernel
theorem dX10_look_150 : decode cX10_look 150 = .ok (.iaload, 1) := by decide +kernel
theorem dX10_look_151 : decode cX10_look 151 = .ok (.goto 4, 3) := by decide +kernel
theorem dX10_look_154 : decode cX10_look 154 = .ok (.iconst (-1), 1) := by decide +kernel
theorem dX10_look_155 : decode cX10_look 155 = .ok (.ireturn, 1) := by decide +kernel
theorem dX10_look_156 : decode cX10_look 156 = .ok (.aload_n 0, 1) := by decide +kernel
theorem dX10_look_157 : decode cX10_look 157 = .ok (.getfield 102, 3) := by decide +kernel
theorem dX10_look_160 : decode cX10_look 160 = .ok (.ireturn, 1) := by decide +kernel
theorem dX10_look_161 : decode cX10_look 161 = .ok (.aload_n 0, 1) := by decide +kernel
theorem dX10_look_162 : decode cX10_look 162 = .ok (.getfield 91, 3) := by decide +kernel
theorem dX10_look_165 : decode cX10_look 165 = .ok (.ireturn, 1) := by decide +kernel
theorem dX10_look_166 : decode cX10_look 166 = .ok (.iconst (-1), 1) := by decide +kernel
theorem dX10_look_167 : decode cX10_look 167 = .ok (.ireturn, 1) := by decide +kernel
end
section
theorem dL_law_0 : decode cL_law 0 = .ok (.new 7, 3) := by decide +kernel
theorem dL_law_3 : decode cL_law 3 = .ok (.dup, 1) := by decide +kernel
theorem dL_law_4 : decode cL_law 4 = .ok (.aload_n 0, 1) := by decide +kernel
theorem dL_law_5 : decode cL_law 5 = .ok (.iconst 0, 1) := by decide +kernel
theorem dL_law_6 : decode cL_law 6 = .ok (.invokestatic 9, 3) := by decide +kernel
theorem dL_law_9 : decode cL_law 9 = .ok (.invokespecial 15, 3) := by decide +kernel
theorem dL_law_12 : decode cL_law 12 = .ok (.astore_n 1, 1) := by decide +kernel
theorem dL_law_13 : decode cL_law 13 = .ok (.new 18, 3) := by decide +kernel
theorem dL_law_16 : decode cL_law 16 = .ok (.dup, 1) := by decide +kernel
theorem dL_law_17 : decode cL_law 17 = .ok (.aload_n 0, 1) := by decide +kernel
theorem dL_law_18 : decode cL_law 18 = .ok (.iconst 0, 1) := by decide +kernel
theorem dL_law_19 : decode cL_law 19 = .ok (.invokestatic 9, 3) := by decide +kernel
theorem dL_law_22 : decode cL_law 22 = .ok (.invokespecial 20, 3) := by decide +kernel
theorem dL_law_25 : decode cL_law 25 = .ok (.astore_n 2, 1) := by decide +kernel
theorem dL_law_26 : decode cL_law 26 = .ok (.iconst 1, 1) := by decide +kernel
theorem dL_law_27 : decode cL_law 27 = .ok (.istore_n 3, 1) := by decide +kernel
theorem dL_law_28 : decode cL_law 28 = .ok (.iload_n 3, 1) := by decide +kernel
theorem dL_law_29 : decode cL_law 29 = .ok (.aload_n 0, 1) := by decide +kernel
theorem dL_law_30 : decode cL_law 30 = .ok (.arraylength, 1) := by decide +kernel
theorem dL_law_31 : decode cL_law 31 = .ok (.bipush 6, 2) := by decide +kernel
theorem dL_law_33 : decode cL_law 33 = .ok (.isub, 1) := by decide +kernel
theorem dL_law_34 : decode cL_law 34 = .ok (.if_icmp .gt 798, 3) := by decide +kernel
theorem dL_law_37 : decode cL_law 37 = .ok (.aload_n 0, 1) := by decide +kernel
theorem dL_law_38 : decode cL_law 38 = .ok (.iload_n 3, 1) := by decide +kernel
theorem dL_law_39 : decode cL_law 39 = .ok (.iaload, 1) := by decide +kernel
theorem dL_law_40 : decode cL_law 40 = .ok (.bipush 31, 2) := by decide +kernel
theorem dL_law_42 : decode cL_law 42 = .ok (.iand, 1) := by decide +kernel
theorem dL_law_43 : decode cL_law 43 = .ok (.tableswitch 783 0 19 #[93, 116, 139, 172, 215, 228, 241, 274, 307, 340, 383, 436, 499, 562, 595, 608, 631, 654, 717, 750], 93) := by decide +kernel
theorem dL_law_136 : decode cL_law 136 = .ok (.aload_n 1, 1) := by decide +kernel
theorem dL_law_137 : decode cL_law 137 = .ok (.aload_n 0, 1) := by decide +kernel
theorem dL_law_138 : decode cL_law 138 = .ok (.iload_n 3, 1) := by decide +kernel
theorem dL_law_139 : decode cL_law 139 = .ok (.iconst 1, 1) := by decide +kernel
theorem dL_law_140 : decode cL_law 140 = .ok (.iadd, 1) := by decide +kernel
theorem dL_law_141 : decode cL_law 141 = .ok (.iaload, 1) := by decide +kernel
theorem dL_law_142 : decode cL_law 142 = .ok (.invokevirtual 21, 3) := by decide +kernel
theorem dL_law_145 : decode cL_law 145 = .ok (.aload_n 2, 1) := by decide +kernel
theorem dL_law_146 : decode cL_law 146 = .ok (.aload_n 0, 1) := by decide +kernel
theorem dL_law_147 : decode cL_law 147 = .ok (.iload_n 3, 1) := by decide +kernel
theorem dL_law_148 : decode cL_law 148 = .ok (.iconst 1, 1) := by decide +kernel
theorem dL_law_149 : decode cL_law 149 = .ok (.iadd, 1) := by decide +kernel
theorem dL_law_150 : decode cL_law 150 = .ok (.iaload, 1) := by decide +kernel
theorem dL_law_151 : decode cL_law 151 = .ok (.invokevirtual 25, 3) := by decide +kernel
theorem dL_law_154 : decode cL_law 154 = .ok (.if_icmp .eq 672, 3) := by decide +kernel
theorem dL_law_157 : decode cL_law 157 = .ok (.iconst 0, 1) := by decide +kernel
theorem dL_law_158 : decode cL_law 158 = .ok (.ireturn, 1) := by decide +kernel
theorem dL_law_159 : decode cL_law 159 = .ok (.aload_n 1, 1) := by decide +kernel
theorem dL_law_160 : decode cL_law 160 = .ok (.aload_n 0, 1) := by decide +kernel
theorem dL_law_161 : decode cL_law 161 = .ok (.iload_n 3, 1) := by decide +kernel
theorem dL_law_162 : decode cL_law 162 = .ok (.iconst 1, 1) := by decide +kernel
theorem dL_law_163 : decode cL_law 163 = .ok (.iadd, 1) := by decide +kernel
theorem dL_law_164 : decode cL_law 164 = .ok (.iaload, 1) := by decide +kernel
theorem dL_law_165 : decode cL_law 165 = .ok (.invokevirtual 26, 3) := by decide +kernel
theorem dL_law_168 : decode cL_law 168 = .ok (.aload_n 2, 1) := by decide +kernel
theorem dL_law_169 : decode cL_law 169 = .ok (.aload_n 0, 1) := by decide +kernel
theorem dL_law_170 : decode cL_law 170 = .ok (.iload_n 3, 1) := by decide +kernel
theorem dL_law_171 : decode cL_law 171 = .ok (.iconst 1, 1) := by decide +kernel
theorem dL_law_172 : decode cL_law 172 = .ok (.iadd, 1) := by decide +kernel
theorem dL_law_173 : decode cL_law 173 = .ok (.iaload, 1) := by decide +kernel
theorem dL_law_174 : decode cL_law 174 = .ok (.invokevirtual 30, 3) := by decide +kernel
theorem dL_law_177 : decode cL_law 177 = .ok (.if_icmp .eq 649, 3) := by decide +kernel
theorem dL_law_180 : decode cL_law 180 = .ok (.iconst 0, 1) := by decide +kernel
theorem dL_law_181 : decode cL_law 181 = .ok (.ireturn, 1) := by decide +kernel
theorem dL_law_182 : decode cL_law 182 = .ok (.aload_n 1, 1) := by decide +kernel
theorem dL_law_183 : decode cL_law 183 = .ok (.aload_n 0, 1) := by decide +kernel
theorem dL_law_184 : decode cL_law 184 = .ok (.iload_n 3, 1) := by decide +kernel
theorem dL_law_185 : decode cL_law 185 = .ok (.iconst 1, 1) := by decide +kernel
theorem dL_law_186 : decode cL_law 186 = .ok (.iadd, 1) := by decide +kernel
theorem dL_law_187 : decode cL_law 187 = .ok (.iaload, 1) := by decide +kernel
theorem dL_law_188 : decode cL_law 188 = .ok (.aload_n 0, 1) := by decide +kernel
theorem dL_law_189 : decode cL_law 189 = .ok (.iload_n 3, 1) := by decide +kernel
theorem dL_law_190 : decode cL_law 190 = .ok (.iconst 2, 1) := by decide +kernel
theorem dL_law_191 : decode cL_law 191 = .ok (.iadd, 1) := by decide +kernel
theorem dL_law_192 : decode cL_law 192 = .ok (.iaload, 1) := by decide +kernel
theorem dL_law_193 : decode cL_law 193 = .ok (.invokevirtual 31, 3) := by decide +kernel
theorem dL_law_196 : decode cL_law 196 = .ok (.aload_n 2, 1) := by decide +kernel
theorem dL_law_197 : decode cL_law 197 = .ok (.aload_n 0, 1) := by decide +kernel
theorem dL_law_198 : decode cL_law 198 = .ok (.iload_n 3, 1) := by decide +kernel
theorem dL_law_199 : decode cL_law 199 = .ok (.iconst 1, 1) := by decide +kernel
theorem dL_law_200 : decode cL_law 200 = .ok (.iadd, 1) := by decide +kernel
theorem dL_law_201 : decode cL_law 201 = .ok (.iaload, 1) := by decide +kernel
theorem dL_law_202 : decode cL_law 202 = .ok (.aload_n 0, 1) := by decide +kernel
theorem dL_law_203 : decode cL_law 203 = .ok (.iload_n 3, 1) := by decide +kernel
theorem dL_law_204 : decode cL_law 204 = .ok (.iconst 2, 1) := by decide +kernel
theorem dL_law_205 : decode cL_law 205 = .ok (.iadd, 1) := by decide +kernel
theorem dL_law_206 : decode cL_law 206 = .ok (.iaload, 1) := by decide +kernel
theorem dL_law_207 : decode cL_law 207 = .ok (.invokevirtual 35, 3) := by decide +kernel
theorem dL_law_210 : decode cL_law 210 = .ok (.if_icmp .eq 616, 3) := by decide +kernel
theorem dL_law_213 : decode cL_law 213 = .ok (.iconst 0, 1) := by decide +kernel
theorem dL_law_214 : decode cL_law 214 = .ok (.ireturn, 1) := by decide +kernel
theorem dL_law_215 : decode cL_law 215 = .ok (.aload_n 1, 1) := by decide +kernel
theorem dL_law_216 : decode cL_law 216 = .ok (.aload_n 0, 1) := by decide +kernel
theorem dL_law_217 : decode cL_law 217 = .ok (.iload_n 3, 1) := by decide +kernel
theorem dL_law_218 : decode cL_law 218 = .ok (.iconst 1, 1) := by decide +kernel
theorem dL_law_219 : decode cL_law 219 = .ok (.iadd, 1) := by decide +kernel
theorem dL_law_220 : decode cL_law 220 = .ok (.iaload, 1) := by decide +kernel
theorem dL_law_221 : decode cL_law 221 = .ok (.aload_n 0, 1) := by decide +kernel
theorem dL_law_222 : decode cL_law 222 = .ok (.iload_n 3, 1) := by decide +kernel
theorem dL_law_223 : decode cL_law 223 = .ok (.iconst 2, 1) := by decide +kernel
theorem dL_law_224 : decode cL_law 224 = .ok (.iadd, 1) := by decide +kernel
theorem dL_law_225 : decode cL_law 225 = .ok (.iaload, 1) := by decide +kernel
theorem dL_law_226 : decode cL_law 226 = .ok (.aload_n 0, 1) := by decide +kernel
theorem dL_law_227 : decode cL_law 227 = .ok (.iload_n 3, 1) := by decide +kernel
theorem dL_law_228 : decode cL_law 228 = .ok (.iconst 3, 1) := by decide +kernel
theorem dL_law_229 : decode cL_law 229 = .ok (.iadd, 1) := by decide +kernel
theorem dL_law_230 : decode cL_law 230 = .ok (.iaload, 1) := by decide +kernel
theorem dL_law_231 : decode cL_law 231 = .ok (.invokevirtual 36, 3) := by decide +kernel
theorem dL_law_234 : decode cL_law 234 = .ok (.aload_n 2, 1) := by decide +kernel
theorem dL_law_235 : decode cL_law 235 = .ok (.aload_n 0, 1) := by decide +kernel
theorem dL_law_236 : decode cL_law 236 = .ok (.iload_n 3, 1) := by decide +kernel
theorem dL_law_237 : decode cL_law 237 = .ok (.iconst 1, 1) := by decide +kernel
theorem dL_law_238 : decode cL_law 238 = .ok (.iadd, 1) := by decide +kernel
theorem dL_law_239 : decode cL_law 239 = .ok (.iaload, 1) := by decide +kernel
theorem dL_law_240 : decode cL_law 240 = .ok (.aload_n 0, 1) := by decide +kernel
theorem dL_law_241 : decode cL_law 241 = .ok (.iload_n 3, 1) := by decide +kernel
theorem dL_law_242 : decode cL_law 242 = .ok (.iconst 2, 1) := by decide +kernel
theorem dL_law_243 : decode cL_law 243 = .ok (.iadd, 1) := by decide +kernel
theorem dL_law_244 : decode cL_law 244 = .ok (.iaload, 1) := by decide +kernel
theorem dL_law_245 : decode cL_law 245 = .ok (.aload_n 0, 1) := by decide +kernel
theorem dL_law_246 : decode cL_law 246 = .ok (.iload_n 3, 1) := by decide +kernel
theorem dL_law_247 : decode cL_law 247 = .ok (.iconst 3, 1) := by decide +kernel
theorem dL_law_248 : decode cL_law 248 = .ok (.iadd, 1) := by decide +kernel
theorem dL_law_249 : decode cL_law 249 = .ok (.iaload, 1) := by decide +kernel
theorem dL_law_250 : decode cL_law 250 = .ok (.invokevirtual 40, 3) := by decide +kernel
theorem dL_law_253 : decode cL_law 253 = .ok (.if_icmp .eq 573, 3) := by decide +kernel
theorem dL_law_256 : decode cL_law 256 = .ok (.iconst 0, 1) := by decide +kernel
theorem dL_law_257 : decode cL_law 257 = .ok (.ireturn, 1) := by decide +kernel
theorem dL_law_258 : decode cL_law 258 = .ok (.aload_n 1, 1) := by decide +kernel
theorem dL_law_259 : decode cL_law 259 = .ok (.invokevirtual 41, 3) := by decide +kernel
theorem dL_law_262 : decode cL_law 262 = .ok (.aload_n 2, 1) := by decide +kernel
theorem dL_law_263 : decode cL_law 263 = .ok (.invokevirtual 45, 3) := by decide +kernel
theorem dL_law_266 : decode cL_law 266 = .ok (.if_icmp .eq 560, 3) := by decide +kernel
theorem dL_law_269 : decode cL_law 269 = .ok (.iconst 0, 1) := by decide +kernel
theorem dL_law_270 : decode cL_law 270 = .ok (.ireturn, 1) := by decide +kernel
theorem dL_law_271 : decode cL_law 271 = .ok (.aload_n 1, 1) := by decide +kernel
theorem dL_law_272 : decode cL_law 272 = .ok (.invokevirtual 46, 3) := by decide +kernel
theorem dL_law_275 : decode cL_law 275 = .ok (.aload_n 2, 1) := by decide +kernel
theorem dL_law_276 : decode cL_law 276 = .ok (.invokevirtual 49, 3) := by decide +kernel
theorem dL_law_279 : decode cL_law 279 = .ok (.if_icmp .eq 547, 3) := by decide +kernel
theorem dL_law_282 : decode cL_law 282 = .ok (.iconst 0, 1) := by decide +kernel
theorem dL_law_283 : decode cL_law 283 = .ok (.ireturn, 1) := by decide +kernel
theorem dL_law_284 : decode cL_law 284 = .ok (.aload_n 1, 1) := by decide +kernel
theorem dL_law_285 : decode cL_law 285 = .ok (.aload_n 0, 1) := by decide +kernel
theorem dL_law_286 : decode cL_law 286 = .ok (.iload_n 3, 1) := by decide +kernel
theorem dL_law_287 : decode cL_law 287 = .ok (.iconst 1, 1) := by decide +kernel
theorem dL_law_288 : decode cL_law 288 = .ok (.iadd, 1) := by decide +kernel
theorem dL_law_289 : decode cL_law 289 = .ok (.iaload, 1) := by decide +kernel
theorem dL_law_290 : decode cL_law 290 = .ok (.aload_n 0, 1) := by decide +kernel
theorem dL_law_291 : decode cL_law 291 = .ok (.iload_n 3, 1) := by decide +kernel
theorem dL_law_292 : decode cL_law 292 = .ok (.iconst 2, 1) := by decide +kernel
theorem dL_law_293 : decode cL_law 293 = .ok (.iadd, 1) := by decide +kernel
theorem dL_law_294 : decode cL_law 294 = .ok (.iaload, 1) := by decide +kernel
theorem dL_law_295 : decode cL_law 295 = .ok (.invokevirtual 50, 3) := by decide +kernel
theorem dL_law_298 : decode cL_law 298 = .ok (.aload_n 2, 1) := by decide +kernel
theorem dL_law_299 : decode cL_law 299 = .ok (.aload_n 0, 1) := by decide +kernel
theorem dL_law_300 : decode cL_law 300 = .ok (.iload_n 3, 1) := by decide +kernel
theorem dL_law_301 : decode cL_law 301 = .ok (.iconst 1, 1) := by decide +kernel
theorem dL_law_302 : decode cL_law 302 = .ok (.iadd, 1) := by decide +kernel
theorem dL_law_303 : decode cL_law 303 = .ok (.iaload, 1) := by decide +kernel
theorem dL_law_304 : decode cL_law 304 = .ok (.aload_n 0, 1) := by decide +kernel
theorem dL_law_305 : decode cL_law 305 = .ok (.iload_n 3, 1) := by decide +kernel
end
section
theorem dL_law_306 : decode cL_law 306 = .ok (.iconst 2, 1) := by decide +kernel
theorem dL_law_307 : decode cL_law 307 = .ok (.iadd, 1) := by decide +kernel
theorem dL_law_308 : decode cL_law 308 = .ok (.iaload, 1) := by decide +kernel
theorem dL_law_309 : decode cL_law 309 = .ok (.invokevirtual 54, 3) := by decide +kernel
theorem dL_law_312 : decode cL_law 312 = .ok (.if_icmp .eq 514, 3) := by decide +kernel
theorem dL_law_315 : decode cL_law 315 = .ok (.iconst 0, 1) := by decide +kernel
theorem dL_law_316 : decode cL_law 316 = .ok (.ireturn, 1) := by decide +kernel
theorem dL_law_317 : decode cL_law 317 = .ok (.aload_n 1, 1) := by decide +kernel
theorem dL_law_318 : decode cL_law 318 = .ok (.aload_n 0, 1) := by decide +kernel
theorem dL_law_319 : decode cL_law 319 = .ok (.iload_n 3, 1) := by decide +kernel
theorem dL_law_320 : decode cL_law 320 = .ok (.iconst 1, 1) := by decide +kernel
theorem dL_law_321 : decode cL_law 321 = .ok (.iadd, 1) := by decide +kernel
theorem dL_law_322 : decode cL_law 322 = .ok (.iaload, 1) := by decide +kernel
theorem dL_law_323 : decode cL_law 323 = .ok (.aload_n 0, 1) := by decide +kernel
theorem dL_law_324 : decode cL_law 324 = .ok (.iload_n 3, 1) := by decide +kernel
theorem dL_law_325 : decode cL_law 325 = .ok (.iconst 2, 1) := by decide +kernel
theorem dL_law_326 : decode cL_law 326 = .ok (.iadd, 1) := by decide +kernel
theorem dL_law_327 : decode cL_law 327 = .ok (.iaload, 1) := by decide +kernel
theorem dL_law_328 : decode cL_law 328 = .ok (.invokevirtual 55, 3) := by decide +kernel
theorem dL_law_331 : decode cL_law 331 = .ok (.aload_n 2, 1) := by decide +kernel
theorem dL_law_332 : decode cL_law 332 = .ok (.aload_n 0, 1) := by decide +kernel
theorem dL_law_333 : decode cL_law 333 = .ok (.iload_n 3, 1) := by decide +kernel
theorem dL_law_334 : decode cL_law 334 = .ok (.iconst 1, 1) := by decide +kernel
theorem dL_law_335 : decode cL_law 335 = .ok (.iadd, 1) := by decide +kernel
theorem dL_law_336 : decode cL_law 336 = .ok (.iaload, 1) := by decide +kernel
theorem dL_law_337 : decode cL_law 337 = .ok (.aload_n 0, 1) := by decide +kernel
theorem dL_law_338 : decode cL_law 338 = .ok (.iload_n 3, 1) := by decide +kernel
theorem dL_law_339 : decode cL_law 339 = .ok (.iconst 2, 1) := by decide +kernel
theorem dL_law_340 : decode cL_law 340 = .ok (.iadd, 1) := by decide +kernel
theorem dL_law_341 : decode cL_law 341 = .ok (.iaload, 1) := by decide +kernel
theorem dL_law_342 : decode cL_law 342 = .ok (.invokevirtual 58, 3) := by decide +kernel
theorem dL_law_345 : decode cL_law 345 = .ok (.if_icmp .eq 481, 3) := by decide +kernel
theorem dL_law_348 : decode cL_law 348 = .ok (.iconst 0, 1) := by decide +kernel
theorem dL_law_349 : decode cL_law 349 = .ok (.ireturn, 1) := by decide +kernel
theorem dL_law_350 : decode cL_law 350 = .ok (.aload_n 1, 1) := by decide +kernel
theorem dL_law_351 : decode cL_law 351 = .ok (.aload_n 0, 1) := by decide +kernel
theorem dL_law_352 : decode cL_law 352 = .ok (.iload_n 3, 1) := by decide +kernel
theorem dL_law_353 : decode cL_law 353 = .ok (.iconst 1, 1) := by decide +kernel
theorem dL_law_354 : decode cL_law 354 = .ok (.iadd, 1) := by decide +kernel
theorem dL_law_355 : decode cL_law 355 = .ok (.iaload, 1) := by decide +kernel
theorem dL_law_356 : decode cL_law 356 = .ok (.aload_n 0, 1) := by decide +kernel
theorem dL_law_357 : decode cL_law 357 = .ok (.iload_n 3, 1) := by decide +kernel
theorem dL_law_358 : decode cL_law 358 = .ok (.iconst 2, 1) := by decide +kernel
theorem dL_law_359 : decode cL_law 359 = .ok (.iadd, 1) := by decide +kernel
theorem dL_law_360 : decode cL_law 360 = .ok (.iaload, 1) := by decide +kernel
theorem dL_law_361 : decode cL_law 361 = .ok (.invokevirtual 59, 3) := by decide +kernel
theorem dL_law_364 : decode cL_law 364 = .ok (.aload_n 2, 1) := by decide +kernel
theorem dL_law_365 : decode cL_law 365 = .ok (.aload_n 0, 1) := by decide +kernel
theorem dL_law_366 : decode cL_law 366 = .ok (.iload_n 3, 1) := by decide +kernel
theorem dL_law_367 : decode cL_law 367 = .ok (.iconst 1, 1) := by decide +kernel
theorem dL_law_368 : decode cL_law 368 = .ok (.iadd, 1) := by decide +kernel
theorem dL_law_369 : decode cL_law 369 = .ok (.iaload, 1) := by decide +kernel
theorem dL_law_370 : decode cL_law 370 = .ok (.aload_n 0, 1) := by decide +kernel
theorem dL_law_371 : decode cL_law 371 = .ok (.iload_n 3, 1) := by decide +kernel
theorem dL_law_372 : decode cL_law 372 = .ok (.iconst 2, 1) := by decide +kernel
theorem dL_law_373 : decode cL_law 373 = .ok (.iadd, 1) := by decide +kernel
theorem dL_law_374 : decode cL_law 374 = .ok (.iaload, 1) := by decide +kernel
theorem dL_law_375 : decode cL_law 375 = .ok (.invokevirtual 62, 3) := by decide +kernel
theorem dL_law_378 : decode cL_law 378 = .ok (.if_icmp .eq 448, 3) := by decide +kernel
theorem dL_law_381 : decode cL_law 381 = .ok (.iconst 0, 1) := by decide +kernel
theorem dL_law_382 : decode cL_law 382 = .ok (.ireturn, 1) := by decide +kernel
theorem dL_law_383 : decode cL_law 383 = .ok (.aload_n 1, 1) := by decide +kernel
theorem dL_law_384 : decode cL_law 384 = .ok (.aload_n 0, 1) := by decide +kernel
theorem dL_law_385 : decode cL_law 385 = .ok (.iload_n 3, 1) := by decide +kernel
theorem dL_law_386 : decode cL_law 386 = .ok (.iconst 1, 1) := by decide +kernel
theorem dL_law_387 : decode cL_law 387 = .ok (.iadd, 1) := by decide +kernel
theorem dL_law_388 : decode cL_law 388 = .ok (.iaload, 1) := by decide +kernel
theorem dL_law_389 : decode cL_law 389 = .ok (.aload_n 0, 1) := by decide +kernel
theorem dL_law_390 : decode cL_law 390 = .ok (.iload_n 3, 1) := by decide +kernel
theorem dL_law_391 : decode cL_law 391 = .ok (.iconst 2, 1) := by decide +kernel
theorem dL_law_392 : decode cL_law 392 = .ok (.iadd, 1) := by decide +kernel
theorem dL_law_393 : decode cL_law 393 = .ok (.iaload, 1) := by decide +kernel
theorem dL_law_394 : decode cL_law 394 = .ok (.aload_n 0, 1) := by decide +kernel
theorem dL_law_395 : decode cL_law 395 = .ok (.iload_n 3, 1) := by decide +kernel
theorem dL_law_396 : decode cL_law 396 = .ok (.iconst 3, 1) := by decide +kernel
theorem dL_law_397 : decode cL_law 397 = .ok (.iadd, 1) := by decide +kernel
theorem dL_law_398 : decode cL_law 398 = .ok (.iaload, 1) := by decide +kernel
theorem dL_law_399 : decode cL_law 399 = .ok (.invokevirtual 63, 3) := by decide +kernel
theorem dL_law_402 : decode cL_law 402 = .ok (.aload_n 2, 1) := by decide +kernel
theorem dL_law_403 : decode cL_law 403 = .ok (.aload_n 0, 1) := by decide +kernel
theorem dL_law_404 : decode cL_law 404 = .ok (.iload_n 3, 1) := by decide +kernel
theorem dL_law_405 : decode cL_law 405 = .ok (.iconst 1, 1) := by decide +kernel
theorem dL_law_406 : decode cL_law 406 = .ok (.iadd, 1) := by decide +kernel
theorem dL_law_407 : decode cL_law 407 = .ok (.iaload, 1) := by decide +kernel
theorem dL_law_408 : decode cL_law 408 = .ok (.aload_n 0, 1) := by decide +kernel
theorem dL_law_409 : decode cL_law 409 = .ok (.iload_n 3, 1) := by decide +kernel
theorem dL_law_410 : decode cL_law 410 = .ok (.iconst 2, 1) := by decide +kernel
theorem dL_law_411 : decode cL_law 411 = .ok (.iadd, 1) := by decide +kernel
theorem dL_law_412 : decode cL_law 412 = .ok (.iaload, 1) := by decide +kernel
theorem dL_law_413 : decode cL_law 413 = .ok (.aload_n 0, 1) := by decide +kernel
theorem dL_law_414 : decode cL_law 414 = .ok (.iload_n 3, 1) := by decide +kernel
theorem dL_law_415 : decode cL_law 415 = .ok (.iconst 3, 1) := by decide +kernel
theorem dL_law_416 : decode cL_law 416 = .ok (.iadd, 1) := by decide +kernel
theorem dL_law_417 : decode cL_law 417 = .ok (.iaload, 1) := by decide +kernel
theorem dL_law_418 : decode cL_law 418 = .ok (.invokevirtual 66, 3) := by decide +kernel
theorem dL_law_421 : decode cL_law 421 = .ok (.if_icmp .eq 405, 3) := by decide +kernel
theorem dL_law_424 : decode cL_law 424 = .ok (.iconst 0, 1) := by decide +kernel
theorem dL_law_425 : decode cL_law 425 = .ok (.ireturn, 1) := by decide +kernel
theorem dL_law_426 : decode cL_law 426 = .ok (.aload_n 1, 1) := by decide +kernel
theorem dL_law_427 : decode cL_law 427 = .ok (.aload_n 0, 1) := by decide +kernel
theorem dL_law_428 : decode cL_law 428 = .ok (.iload_n 3, 1) := by decide +kernel
theorem dL_law_429 : decode cL_law 429 = .ok (.iconst 1, 1) := by decide +kernel
theorem dL_law_430 : decode cL_law 430 = .ok (.iadd, 1) := by decide +kernel
theorem dL_law_431 : decode cL_law 431 = .ok (.iaload, 1) := by decide +kernel
theorem dL_law_432 : decode cL_law 432 = .ok (.aload_n 0, 1) := by decide +kernel
theorem dL_law_433 : decode cL_law 433 = .ok (.iload_n 3, 1) := by decide +kernel
theorem dL_law_434 : decode cL_law 434 = .ok (.iconst 2, 1) := by decide +kernel
theorem dL_law_435 : decode cL_law 435 = .ok (.iadd, 1) := by decide +kernel
theorem dL_law_436 : decode cL_law 436 = .ok (.iaload, 1) := by decide +kernel
theorem dL_law_437 : decode cL_law 437 = .ok (.aload_n 0, 1) := by decide +kernel
theorem dL_law_438 : decode cL_law 438 = .ok (.iload_n 3, 1) := by decide +kernel
theorem dL_law_439 : decode cL_law 439 = .ok (.iconst 3, 1) := by decide +kernel
theorem dL_law_440 : decode cL_law 440 = .ok (.iadd, 1) := by decide +kernel
theorem dL_law_441 : decode cL_law 441 = .ok (.iaload, 1) := by decide +kernel
theorem dL_law_442 : decode cL_law 442 = .ok (.aload_n 0, 1) := by decide +kernel
theorem dL_law_443 : decode cL_law 443 = .ok (.iload_n 3, 1) := by decide +kernel
theorem dL_law_444 : decode cL_law 444 = .ok (.iconst 4, 1) := by decide +kernel
theorem dL_law_445 : decode cL_law 445 = .ok (.iadd, 1) := by decide +kernel
theorem dL_law_446 : decode cL_law 446 = .ok (.iaload, 1) := by decide +kernel
theorem dL_law_447 : decode cL_law 447 = .ok (.invokevirtual 67, 3) := by decide +kernel
theorem dL_law_450 : decode cL_law 450 = .ok (.aload_n 2, 1) := by decide +kernel
theorem dL_law_451 : decode cL_law 451 = .ok (.aload_n 0, 1) := by decide +kernel
theorem dL_law_452 : decode cL_law 452 = .ok (.iload_n 3, 1) := by decide +kernel
theorem dL_law_453 : decode cL_law 453 = .ok (.iconst 1, 1) := by decide +kernel
theorem dL_law_454 : decode cL_law 454 = .ok (.iadd, 1) := by decide +kernel
theorem dL_law_455 : decode cL_law 455 = .ok (.iaload, 1) := by decide +kernel
theorem dL_law_456 : decode cL_law 456 = .ok (.aload_n 0, 1) := by decide +kernel
theorem dL_law_457 : decode cL_law 457 = .ok (.iload_n 3, 1) := by decide +kernel
theorem dL_law_458 : decode cL_law 458 = .ok (.iconst 2, 1) := by decide +kernel
theorem dL_law_459 : decode cL_law 459 = .ok (.iadd, 1) := by decide +kernel
theorem dL_law_460 : decode cL_law 460 = .ok (.iaload, 1) := by decide +kernel
theorem dL_law_461 : decode cL_law 461 = .ok (.aload_n 0, 1) := by decide +kernel
theorem dL_law_462 : decode cL_law 462 = .ok (.iload_n 3, 1) := by decide +kernel
theorem dL_law_463 : decode cL_law 463 = .ok (.iconst 3, 1) := by decide +kernel
theorem dL_law_464 : decode cL_law 464 = .ok (.iadd, 1) := by decide +kernel
theorem dL_law_465 : decode cL_law 465 = .ok (.iaload, 1) := by decide +kernel
theorem dL_law_466 : decode cL_law 466 = .ok (.aload_n 0, 1) := by decide +kernel
theorem dL_law_467 : decode cL_law 467 = .ok (.iload_n 3, 1) := by decide +kernel
theorem dL_law_468 : decode cL_law 468 = .ok (.iconst 4, 1) := by decide +kernel
theorem dL_law_469 : decode cL_law 469 = .ok (.iadd, 1) := by decide +kernel
theorem dL_law_470 : decode cL_law 470 = .ok (.iaload, 1) := by decide +kernel
theorem dL_law_471 : decode cL_law 471 = .ok (.invokevirtual 71, 3) := by decide +kernel
theorem dL_law_474 : decode cL_law 474 = .ok (.if_icmp .eq 352, 3) := by decide +kernel
theorem dL_law_477 : decode cL_law 477 = .ok (.iconst 0, 1) := by decide +kernel
theorem dL_law_478 : decode cL_law 478 = .ok (.ireturn, 1) := by decide +kernel
theorem dL_law_479 : decode cL_law 479 = .ok (.aload_n 1, 1) := by decide +kernel
theorem dL_law_480 : decode cL_law 480 = .ok (.aload_n 0, 1) := by decide +kernel
theorem dL_law_481 : decode cL_law 481 = .ok (.iload_n 3, 1) := by decide +kernel
theorem dL_law_482 : decode cL_law 482 = .ok (.iconst 1, 1) := by decide +kernel
theorem dL_law_483 : decode cL_law 483 = .ok (.iadd, 1) := by decide +kernel
theorem dL_law_484 : decode cL_law 484 = .ok (.iaload, 1) := by decide +kernel
theorem dL_law_485 : decode cL_law 485 = .ok (.aload_n 0, 1) := by decide +kernel
theorem dL_law_486 : decode cL_law 486 = .ok (.iload_n 3, 1) := by decide +kernel
theorem dL_law_487 : decode cL_law 487 = .ok (.iconst 2, 1) := by decide +kernel
theorem dL_law_488 : decode cL_law 488 = .ok (.iadd, 1) := by decide +kernel
theorem dL_law_489 : decode cL_law 489 = .ok (.iaload, 1) := by decide +kernel
theorem dL_law_490 : decode cL_law 490 = .ok (.aload_n 0, 1) := by decide +kernel
theorem dL_law_491 : decode cL_law 491 = .ok (.iload_n 3, 1) := by decide +kernel
theorem dL_law_492 : decode cL_law 492 = .ok (.iconst 3, 1) := by decide +kernel
theorem dL_law_493 : decode cL_law 493 = .ok (.iadd, 1) := by decide +kernel
end
section
theorem dL_law_494 : decode cL_law 494 = .ok (.iaload, 1) := by decide +kernel
theorem dL_law_495 : decode cL_law 495 = .ok (.aload_n 0, 1) := by decide +kernel
theorem dL_law_496 : decode cL_law 496 = .ok (.iload_n 3, 1) := by decide +kernel
theorem dL_law_497 : decode cL_law 497 = .ok (.iconst 4, 1) := by decide +kernel
theorem dL_law_498 : decode cL_law 498 = .ok (.iadd, 1) := by decide +kernel
theorem dL_law_499 : decode cL_law 499 = .ok (.iaload, 1) := by decide +kernel
theorem dL_law_500 : decode cL_law 500 = .ok (.aload_n 0, 1) := by decide +kernel
theorem dL_law_501 : decode cL_law 501 = .ok (.iload_n 3, 1) := by decide +kernel
theorem dL_law_502 : decode cL_law 502 = .ok (.iconst 5, 1) := by decide +kernel
theorem dL_law_503 : decode cL_law 503 = .ok (.iadd, 1) := by decide +kernel
theorem dL_law_504 : decode cL_law 504 = .ok (.iaload, 1) := by decide +kernel
theorem dL_law_505 : decode cL_law 505 = .ok (.invokevirtual 72, 3) := by decide +kernel
theorem dL_law_508 : decode cL_law 508 = .ok (.aload_n 2, 1) := by decide +kernel
theorem dL_law_509 : decode cL_law 509 = .ok (.aload_n 0, 1) := by decide +kernel
theorem dL_law_510 : decode cL_law 510 = .ok (.iload_n 3, 1) := by decide +kernel
theorem dL_law_511 : decode cL_law 511 = .ok (.iconst 1, 1) := by decide +kernel
theorem dL_law_512 : decode cL_law 512 = .ok (.iadd, 1) := by decide +kernel
theorem dL_law_513 : decode cL_law 513 = .ok (.iaload, 1) := by decide +kernel
theorem dL_law_514 : decode cL_law 514 = .ok (.aload_n 0, 1) := by decide +kernel
theorem dL_law_515 : decode cL_law 515 = .ok (.iload_n 3, 1) := by decide +kernel
theorem dL_law_516 : decode cL_law 516 = .ok (.iconst 2, 1) := by decide +kernel
theorem dL_law_517 : decode cL_law 517 = .ok (.iadd, 1) := by decide +kernel
theorem dL_law_518 : decode cL_law 518 = .ok (.iaload, 1) := by decide +kernel
theorem dL_law_519 : decode cL_law 519 = .ok (.aload_n 0, 1) := by decide +kernel
theorem dL_law_520 : decode cL_law 520 = .ok (.iload_n 3, 1) := by decide +kernel
theorem dL_law_521 : decode cL_law 521 = .ok (.iconst 3, 1) := by decide +kernel
theorem dL_law_522 : decode cL_law 522 = .ok (.iadd, 1) := by decide +kernel
theorem dL_law_523 : decode cL_law 523 = .ok (.iaload, 1) := by decide +kernel
theorem dL_law_524 : decode cL_law 524 = .ok (.aload_n 0, 1) := by decide +kernel
theorem dL_law_525 : decode cL_law 525 = .ok (.iload_n 3, 1) := by decide +kernel
theorem dL_law_526 : decode cL_law 526 = .ok (.iconst 4, 1) := by decide +kernel
theorem dL_law_527 : decode cL_law 527 = .ok (.iadd, 1) := by decide +kernel
theorem dL_law_528 : decode cL_law 528 = .ok (.iaload, 1) := by decide +kernel
theorem dL_law_529 : decode cL_law 529 = .ok (.aload_n 0, 1) := by decide +kernel
theorem dL_law_530 : decode cL_law 530 = .ok (.iload_n 3, 1) := by decide +kernel
theorem dL_law_531 : decode cL_law 531 = .ok (.iconst 5, 1) := by decide +kernel
theorem dL_law_532 : decode cL_law 532 = .ok (.iadd, 1) := by decide +kernel
theorem dL_law_533 : decode cL_law 533 = .ok (.iaload, 1) := by decide +kernel
theorem dL_law_534 : decode cL_law 534 = .ok (.invokevirtual 76, 3) := by decide +kernel
theorem dL_law_537 : decode cL_law 537 = .ok (.if_icmp .eq 289, 3) := by decide +kernel
theorem dL_law_540 : decode cL_law 540 = .ok (.iconst 0, 1) := by decide +kernel
theorem dL_law_541 : decode cL_law 541 = .ok (.ireturn, 1) := by decide +kernel
theorem dL_law_542 : decode cL_law 542 = .ok (.aload_n 1, 1) := by decide +kernel
theorem dL_law_543 : decode cL_law 543 = .ok (.aload_n 0, 1) := by decide +kernel
theorem dL_law_544 : decode cL_law 544 = .ok (.iload_n 3, 1) := by decide +kernel
theorem dL_law_545 : decode cL_law 545 = .ok (.iconst 1, 1) := by decide +kernel
theorem dL_law_546 : decode cL_law 546 = .ok (.iadd, 1) := by decide +kernel
theorem dL_law_547 : decode cL_law 547 = .ok (.iaload, 1) := by decide +kernel
theorem dL_law_548 : decode cL_law 548 = .ok (.aload_n 0, 1) := by decide +kernel
theorem dL_law_549 : decode cL_law 549 = .ok (.iload_n 3, 1) := by decide +kernel
theorem dL_law_550 : decode cL_law 550 = .ok (.iconst 2, 1) := by decide +kernel
theorem dL_law_551 : decode cL_law 551 = .ok (.iadd, 1) := by decide +kernel
theorem dL_law_552 : decode cL_law 552 = .ok (.iaload, 1) := by decide +kernel
theorem dL_law_553 : decode cL_law 553 = .ok (.aload_n 0, 1) := by decide +kernel
theorem dL_law_554 : decode cL_law 554 = .ok (.iload_n 3, 1) := by decide +kernel
theorem dL_law_555 : decode cL_law 555 = .ok (.iconst 3, 1) := by decide +kernel
theorem dL_law_556 : decode cL_law 556 = .ok (.iadd, 1) := by decide +kernel
theorem dL_law_557 : decode cL_law 557 = .ok (.iaload, 1) := by decide +kernel
theorem dL_law_558 : decode cL_law 558 = .ok (.aload_n 0, 1) := by decide +kernel
theorem dL_law_559 : decode cL_law 559 = .ok (.iload_n 3, 1) := by decide +kernel
theorem dL_law_560 : decode cL_law 560 = .ok (.iconst 4, 1) := by decide +kernel
theorem dL_law_561 : decode cL_law 561 = .ok (.iadd, 1) := by decide +kernel
theorem dL_law_562 : decode cL_law 562 = .ok (.iaload, 1) := by decide +kernel
theorem dL_law_563 : decode cL_law 563 = .ok (.aload_n 0, 1) := by decide +kernel
theorem dL_law_564 : decode cL_law 564 = .ok (.iload_n 3, 1) := by decide +kernel
theorem dL_law_565 : decode cL_law 565 = .ok (.iconst 5, 1) := by decide +kernel
theorem dL_law_566 : decode cL_law 566 = .ok (.iadd, 1) := by decide +kernel
theorem dL_law_567 : decode cL_law 567 = .ok (.iaload, 1) := by decide +kernel
theorem dL_law_568 : decode cL_law 568 = .ok (.invokevirtual 77, 3) := by decide +kernel
theorem dL_law_571 : decode cL_law 571 = .ok (.aload_n 2, 1) := by decide +kernel
theorem dL_law_572 : decode cL_law 572 = .ok (.aload_n 0, 1) := by decide +kernel
theorem dL_law_573 : decode cL_law 573 = .ok (.iload_n 3, 1) := by decide +kernel
theorem dL_law_574 : decode cL_law 574 = .ok (.iconst 1, 1) := by decide +kernel
theorem dL_law_575 : decode cL_law 575 = .ok (.iadd, 1) := by decide +kernel
theorem dL_law_576 : decode cL_law 576 = .ok (.iaload, 1) := by decide +kernel
theorem dL_law_577 : decode cL_law 577 = .ok (.aload_n 0, 1) := by decide +kernel
theorem dL_law_578 : decode cL_law 578 = .ok (.iload_n 3, 1) := by decide +kernel
theorem dL_law_579 : decode cL_law 579 = .ok (.iconst 2, 1) := by decide +kernel
theorem dL_law_580 : decode cL_law 580 = .ok (.iadd, 1) := by decide +kernel
theorem dL_law_581 : decode cL_law 581 = .ok (.iaload, 1) := by decide +kernel
theorem dL_law_582 : decode cL_law 582 = .ok (.aload_n 0, 1) := by decide +kernel
theorem dL_law_583 : decode cL_law 583 = .ok (.iload_n 3, 1) := by decide +kernel
theorem dL_law_584 : decode cL_law 584 = .ok (.iconst 3, 1) := by decide +kernel
theorem dL_law_585 : decode cL_law 585 = .ok (.iadd, 1) := by decide +kernel
theorem dL_law_586 : decode cL_law 586 = .ok (.iaload, 1) := by decide +kernel
theorem dL_law_587 : decode cL_law 587 = .ok (.aload_n 0, 1) := by decide +kernel
theorem dL_law_588 : decode cL_law 588 = .ok (.iload_n 3, 1) := by decide +kernel
theorem dL_law_589 : decode cL_law 589 = .ok (.iconst 4, 1) := by decide +kernel
theorem dL_law_590 : decode cL_law 590 = .ok (.iadd, 1) := by decide +kernel
theorem dL_law_591 : decode cL_law 591 = .ok (.iaload, 1) := by decide +kernel
theorem dL_law_592 : decode cL_law 592 = .ok (.aload_n 0, 1) := by decide +kernel
theorem dL_law_593 : decode cL_law 593 = .ok (.iload_n 3, 1) := by decide +kernel
theorem dL_law_594 : decode cL_law 594 = .ok (.iconst 5, 1) := by decide +kernel
theorem dL_law_595 : decode cL_law 595 = .ok (.iadd, 1) := by decide +kernel
theorem dL_law_596 : decode cL_law 596 = .ok (.iaload, 1) := by decide +kernel
theorem dL_law_597 : decode cL_law 597 = .ok (.invokevirtual 80, 3) := by decide +kernel
theorem dL_law_600 : decode cL_law 600 = .ok (.if_icmp .eq 226, 3) := by decide +kernel
theorem dL_law_603 : decode cL_law 603 = .ok (.iconst 0, 1) := by decide +kernel
theorem dL_law_604 : decode cL_law 604 = .ok (.ireturn, 1) := by decide +kernel
theorem dL_law_605 : decode cL_law 605 = .ok (.aload_n 1, 1) := by decide +kernel
theorem dL_law_606 : decode cL_law 606 = .ok (.aload_n 0, 1) := by decide +kernel
theorem dL_law_607 : decode cL_law 607 = .ok (.iload_n 3, 1) := by decide +kernel
theorem dL_law_608 : decode cL_law 608 = .ok (.iconst 1, 1) := by decide +kernel
theorem dL_law_609 : decode cL_law 609 = .ok (.iadd, 1) := by decide +kernel
theorem dL_law_610 : decode cL_law 610 = .ok (.iaload, 1) := by decide +kernel
theorem dL_law_611 : decode cL_law 611 = .ok (.aload_n 0, 1) := by decide +kernel
theorem dL_law_612 : decode cL_law 612 = .ok (.iload_n 3, 1) := by decide +kernel
theorem dL_law_613 : decode cL_law 613 = .ok (.iconst 2, 1) := by decide +kernel
theorem dL_law_614 : decode cL_law 614 = .ok (.iadd, 1) := by decide +kernel
theorem dL_law_615 : decode cL_law 615 = .ok (.iaload, 1) := by decide +kernel
theorem dL_law_616 : decode cL_law 616 = .ok (.invokevirtual 81, 3) := by decide +kernel
theorem dL_law_619 : decode cL_law 619 = .ok (.aload_n 2, 1) := by decide +kernel
theorem dL_law_620 : decode cL_law 620 = .ok (.aload_n 0, 1) := by decide +kernel
theorem dL_law_621 : decode cL_law 621 = .ok (.iload_n 3, 1) := by decide +kernel
theorem dL_law_622 : decode cL_law 622 = .ok (.iconst 1, 1) := by decide +kernel
theorem dL_law_623 : decode cL_law 623 = .ok (.iadd, 1) := by decide +kernel
theorem dL_law_624 : decode cL_law 624 = .ok (.iaload, 1) := by decide +kernel
theorem dL_law_625 : decode cL_law 625 = .ok (.aload_n 0, 1) := by decide +kernel
theorem dL_law_626 : decode cL_law 626 = .ok (.iload_n 3, 1) := by decide +kernel
theorem dL_law_627 : decode cL_law 627 = .ok (.iconst 2, 1) := by decide +kernel
theorem dL_law_628 : decode cL_law 628 = .ok (.iadd, 1) := by decide +kernel
theorem dL_law_629 : decode cL_law 629 = .ok (.iaload, 1) := by decide +kernel
theorem dL_law_630 : decode cL_law 630 = .ok (.invokevirtual 84, 3) := by decide +kernel
theorem dL_law_633 : decode cL_law 633 = .ok (.if_icmp .eq 193, 3) := by decide +kernel
theorem dL_law_636 : decode cL_law 636 = .ok (.iconst 0, 1) := by decide +kernel
theorem dL_law_637 : decode cL_law 637 = .ok (.ireturn, 1) := by decide +kernel
theorem dL_law_638 : decode cL_law 638 = .ok (.aload_n 1, 1) := by decide +kernel
theorem dL_law_639 : decode cL_law 639 = .ok (.invokevirtual 85, 3) := by decide +kernel
theorem dL_law_642 : decode cL_law 642 = .ok (.aload_n 2, 1) := by decide +kernel
theorem dL_law_643 : decode cL_law 643 = .ok (.invokevirtual 88, 3) := by decide +kernel
theorem dL_law_646 : decode cL_law 646 = .ok (.if_icmp .eq 180, 3) := by decide +kernel
theorem dL_law_649 : decode cL_law 649 = .ok (.iconst 0, 1) := by decide +kernel
theorem dL_law_650 : decode cL_law 650 = .ok (.ireturn, 1) := by decide +kernel
theorem dL_law_651 : decode cL_law 651 = .ok (.aload_n 1, 1) := by decide +kernel
theorem dL_law_652 : decode cL_law 652 = .ok (.aload_n 0, 1) := by decide +kernel
theorem dL_law_653 : decode cL_law 653 = .ok (.iload_n 3, 1) := by decide +kernel
theorem dL_law_654 : decode cL_law 654 = .ok (.iconst 1, 1) := by decide +kernel
theorem dL_law_655 : decode cL_law 655 = .ok (.iadd, 1) := by decide +kernel
theorem dL_law_656 : decode cL_law 656 = .ok (.iaload, 1) := by decide +kernel
theorem dL_law_657 : decode cL_law 657 = .ok (.invokevirtual 89, 3) := by decide +kernel
theorem dL_law_660 : decode cL_law 660 = .ok (.aload_n 2, 1) := by decide +kernel
theorem dL_law_661 : decode cL_law 661 = .ok (.aload_n 0, 1) := by decide +kernel
theorem dL_law_662 : decode cL_law 662 = .ok (.iload_n 3, 1) := by decide +kernel
theorem dL_law_663 : decode cL_law 663 = .ok (.iconst 1, 1) := by decide +kernel
theorem dL_law_664 : decode cL_law 664 = .ok (.iadd, 1) := by decide +kernel
theorem dL_law_665 : decode cL_law 665 = .ok (.iaload, 1) := by decide +kernel
theorem dL_law_666 : decode cL_law 666 = .ok (.invokevirtual 92, 3) := by decide +kernel
theorem dL_law_669 : decode cL_law 669 = .ok (.if_icmp .eq 157, 3) := by decide +kernel
theorem dL_law_672 : decode cL_law 672 = .ok (.iconst 0, 1) := by decide +kernel
theorem dL_law_673 : decode cL_law 673 = .ok (.ireturn, 1) := by decide +kernel
theorem dL_law_674 : decode cL_law 674 = .ok (.aload_n 1, 1) := by decide +kernel
theorem dL_law_675 : decode cL_law 675 = .ok (.aload_n 0, 1) := by decide +kernel
theorem dL_law_676 : decode cL_law 676 = .ok (.iload_n 3, 1) := by decide +kernel
theorem dL_law_677 : decode cL_law 677 = .ok (.iconst 1, 1) := by decide +kernel
theorem dL_law_678 : decode cL_law 678 = .ok (.iadd, 1) := by decide +kernel
theorem dL_law_679 : decode cL_law 679 = .ok (.iaload, 1) := by decide +kernel
theorem dL_law_680 : decode cL_law 680 = .ok (.invokevirtual 93, 3) := by decide +kernel
theorem dL_law_683 : decode cL_law 683 = .ok (.aload_n 2, 1) := by decide +kernel
theorem dL_law_684 : decode cL_law 684 = .ok (.aload_n 0, 1) := by decide +kernel
theorem dL_law_685 : decode cL_law 685 = .ok (.iload_n 3, 1) := by decide +kernel
end
section
theorem dL_law_686 : decode cL_law 686 = .ok (.iconst 1, 1) := by decide +kernel
theorem dL_law_687 : decode cL_law 687 = .ok (.iadd, 1) := by decide +kernel
theorem dL_law_688 : decode cL_law 688 = .ok (.iaload, 1) := by decide +kernel
theorem dL_law_689 : decode cL_law 689 = .ok (.invokevirtual 96, 3) := by decide +kernel
theorem dL_law_692 : decode cL_law 692 = .ok (.if_icmp .eq 134, 3) := by decide +kernel
theorem dL_law_695 : decode cL_law 695 = .ok (.iconst 0, 1) := by decide +kernel
theorem dL_law_696 : decode cL_law 696 = .ok (.ireturn, 1) := by decide +kernel
theorem dL_law_697 : decode cL_law 697 = .ok (.aload_n 1, 1) := by decide +kernel
theorem dL_law_698 : decode cL_law 698 = .ok (.aload_n 0, 1) := by decide +kernel
theorem dL_law_699 : decode cL_law 699 = .ok (.iload_n 3, 1) := by decide +kernel
theorem dL_law_700 : decode cL_law 700 = .ok (.iconst 1, 1) := by decide +kernel
theorem dL_law_701 : decode cL_law 701 = .ok (.iadd, 1) := by decide +kernel
theorem dL_law_702 : decode cL_law 702 = .ok (.iaload, 1) := by decide +kernel
theorem dL_law_703 : decode cL_law 703 = .ok (.aload_n 0, 1) := by decide +kernel
theorem dL_law_704 : decode cL_law 704 = .ok (.iload_n 3, 1) := by decide +kernel
theorem dL_law_705 : decode cL_law 705 = .ok (.iconst 2, 1) := by decide +kernel
theorem dL_law_706 : decode cL_law 706 = .ok (.iadd, 1) := by decide +kernel
theorem dL_law_707 : decode cL_law 707 = .ok (.iaload, 1) := by decide +kernel
theorem dL_law_708 : decode cL_law 708 = .ok (.aload_n 0, 1) := by decide +kernel
theorem dL_law_709 : decode cL_law 709 = .ok (.iload_n 3, 1) := by decide +kernel
theorem dL_law_710 : decode cL_law 710 = .ok (.iconst 3, 1) := by decide +kernel
theorem dL_law_711 : decode cL_law 711 = .ok (.iadd, 1) := by decide +kernel
theorem dL_law_712 : decode cL_law 712 = .ok (.iaload, 1) := by decide +kernel
theorem dL_law_713 : decode cL_law 713 = .ok (.aload_n 0, 1) := by decide +kernel
theorem dL_law_714 : decode cL_law 714 = .ok (.iload_n 3, 1) := by decide +kernel
theorem dL_law_715 : decode cL_law 715 = .ok (.iconst 4, 1) := by decide +kernel
theorem dL_law_716 : decode cL_law 716 = .ok (.iadd, 1) := by decide +kernel
theorem dL_law_717 : decode cL_law 717 = .ok (.iaload, 1) := by decide +kernel
theorem dL_law_718 : decode cL_law 718 = .ok (.aload_n 0, 1) := by decide +kernel
theorem dL_law_719 : decode cL_law 719 = .ok (.iload_n 3, 1) := by decide +kernel
theorem dL_law_720 : decode cL_law 720 = .ok (.iconst 5, 1) := by decide +kernel
theorem dL_law_721 : decode cL_law 721 = .ok (.iadd, 1) := by decide +kernel
theorem dL_law_722 : decode cL_law 722 = .ok (.iaload, 1) := by decide +kernel
theorem dL_law_723 : decode cL_law 723 = .ok (.invokevirtual 97, 3) := by decide +kernel
theorem dL_law_726 : decode cL_law 726 = .ok (.aload_n 2, 1) := by decide +kernel
theorem dL_law_727 : decode cL_law 727 = .ok (.aload_n 0, 1) := by decide +kernel
theorem dL_law_728 : decode cL_law 728 = .ok (.iload_n 3, 1) := by decide +kernel
theorem dL_law_729 : decode cL_law 729 = .ok (.iconst 1, 1) := by decide +kernel
theorem dL_law_730 : decode cL_law 730 = .ok (.iadd, 1) := by decide +kernel
theorem dL_law_731 : decode cL_law 731 = .ok (.iaload, 1) := by decide +kernel
theorem dL_law_732 : decode cL_law 732 = .ok (.aload_n 0, 1) := by decide +kernel
theorem dL_law_733 : decode cL_law 733 = .ok (.iload_n 3, 1) := by decide +kernel
theorem dL_law_734 : decode cL_law 734 = .ok (.iconst 2, 1) := by decide +kernel
theorem dL_law_735 : decode cL_law 735 = .ok (.iadd, 1) := by decide +kernel
theorem dL_law_736 : decode cL_law 736 = .ok (.iaload, 1) := by decide +kernel
theorem dL_law_737 : decode cL_law 737 = .ok (.aload_n 0, 1) := by decide +kernel
theorem dL_law_738 : decode cL_law 738 = .ok (.iload_n 3, 1) := by decide +kernel
theorem dL_law_739 : decode cL_law 739 = .ok (.iconst 3, 1) := by decide +kernel
theorem dL_law_740 : decode cL_law 740 = .ok (.iadd, 1) := by decide +kernel
theorem dL_law_741 : decode cL_law 741 = .ok (.iaload, 1) := by decide +kernel
theorem dL_law_742 : decode cL_law 742 = .ok (.aload_n 0, 1) := by decide +kernel
theorem dL_law_743 : decode cL_law 743 = .ok (.iload_n 3, 1) := by decide +kernel
theorem dL_law_744 : decode cL_law 744 = .ok (.iconst 4, 1) := by decide +kernel
theorem dL_law_745 : decode cL_law 745 = .ok (.iadd, 1) := by decide +kernel
theorem dL_law_746 : decode cL_law 746 = .ok (.iaload, 1) := by decide +kernel
theorem dL_law_747 : decode cL_law 747 = .ok (.aload_n 0, 1) := by decide +kernel
theorem dL_law_748 : decode cL_law 748 = .ok (.iload_n 3, 1) := by decide +kernel
theorem dL_law_749 : decode cL_law 749 = .ok (.iconst 5, 1) := by decide +kernel
theorem dL_law_750 : decode cL_law 750 = .ok (.iadd, 1) := by decide +kernel
theorem dL_law_751 : decode cL_law 751 = .ok (.iaload, 1) := by decide +kernel
theorem dL_law_752 : decode cL_law 752 = .ok (.invokevirtual 100, 3) := by decide +kernel
theorem dL_law_755 : decode cL_law 755 = .ok (.if_icmp .eq 71, 3) := by decide +kernel
theorem dL_law_758 : decode cL_law 758 = .ok (.iconst 0, 1) := by decide +kernel
theorem dL_law_759 : decode cL_law 759 = .ok (.ireturn, 1) := by decide +kernel
theorem dL_law_760 : decode cL_law 760 = .ok (.aload_n 1, 1) := by decide +kernel
theorem dL_law_761 : decode cL_law 761 = .ok (.aload_n 0, 1) := by decide +kernel
theorem dL_law_762 : decode cL_law 762 = .ok (.iload_n 3, 1) := by decide +kernel
theorem dL_law_763 : decode cL_law 763 = .ok (.iconst 1, 1) := by decide +kernel
theorem dL_law_764 : decode cL_law 764 = .ok (.iadd, 1) := by decide +kernel
theorem dL_law_765 : decode cL_law 765 = .ok (.iaload, 1) := by decide +kernel
theorem dL_law_766 : decode cL_law 766 = .ok (.aload_n 0, 1) := by decide +kernel
theorem dL_law_767 : decode cL_law 767 = .ok (.iload_n 3, 1) := by decide +kernel
theorem dL_law_768 : decode cL_law 768 = .ok (.iconst 2, 1) := by decide +kernel
theorem dL_law_769 : decode cL_law 769 = .ok (.iadd, 1) := by decide +kernel
theorem dL_law_770 : decode cL_law 770 = .ok (.iaload, 1) := by decide +kernel
theorem dL_law_771 : decode cL_law 771 = .ok (.invokevirtual 101, 3) := by decide +kernel
theorem dL_law_774 : decode cL_law 774 = .ok (.aload_n 2, 1) := by decide +kernel
theorem dL_law_775 : decode cL_law 775 = .ok (.aload_n 0, 1) := by decide +kernel
theorem dL_law_776 : decode cL_law 776 = .ok (.iload_n 3, 1) := by decide +kernel
theorem dL_law_777 : decode cL_law 777 = .ok (.iconst 1, 1) := by decide +kernel
theorem dL_law_778 : decode cL_law 778 = .ok (.iadd, 1) := by decide +kernel
theorem dL_law_779 : decode cL_law 779 = .ok (.iaload, 1) := by decide +kernel
theorem dL_law_780 : decode cL_law 780 = .ok (.aload_n 0, 1) := by decide +kernel
theorem dL_law_781 : decode cL_law 781 = .ok (.iload_n 3, 1) := by decide +kernel
theorem dL_law_782 : decode cL_law 782 = .ok (.iconst 2, 1) := by decide +kernel
theorem dL_law_783 : decode cL_law 783 = .ok (.iadd, 1) := by decide +kernel
theorem dL_law_784 : decode cL_law 784 = .ok (.iaload, 1) := by decide +kernel
theorem dL_law_785 : decode cL_law 785 = .ok (.invokevirtual 104, 3) := by decide +kernel
theorem dL_law_788 : decode cL_law 788 = .ok (.if_icmp .eq 38, 3) := by decide +kernel
theorem dL_law_791 : decode cL_law 791 = .ok (.iconst 0, 1) := by decide +kernel
theorem dL_law_792 : decode cL_law 792 = .ok (.ireturn, 1) := by decide +kernel
theorem dL_law_793 : decode cL_law 793 = .ok (.aload_n 1, 1) := by decide +kernel
theorem dL_law_794 : decode cL_law 794 = .ok (.aload_n 0, 1) := by decide +kernel
theorem dL_law_795 : decode cL_law 795 = .ok (.iload_n 3, 1) := by decide +kernel
theorem dL_law_796 : decode cL_law 796 = .ok (.iconst 1, 1) := by decide +kernel
theorem dL_law_797 : decode cL_law 797 = .ok (.iadd, 1) := by decide +kernel
theorem dL_law_798 : decode cL_law 798 = .ok (.iaload, 1) := by decide +kernel
theorem dL_law_799 : decode cL_law 799 = .ok (.aload_n 0, 1) := by decide +kernel
theorem dL_law_800 : decode cL_law 800 = .ok (.iload_n 3, 1) := by decide +kernel
theorem dL_law_801 : decode cL_law 801 = .ok (.iconst 2, 1) := by decide +kernel
theorem dL_law_802 : decode cL_law 802 = .ok (.iadd, 1) := by decide +kernel
theorem dL_law_803 : decode cL_law 803 = .ok (.iaload, 1) := by decide +kernel
theorem dL_law_804 : decode cL_law 804 = .ok (.invokevirtual 105, 3) := by decide +kernel
theorem dL_law_807 : decode cL_law 807 = .ok (.aload_n 2, 1) := by decide +kernel
theorem dL_law_808 : decode cL_law 808 = .ok (.aload_n 0, 1) := by decide +kernel
theorem dL_law_809 : decode cL_law 809 = .ok (.iload_n 3, 1) := by decide +kernel
theorem dL_law_810 : decode cL_law 810 = .ok (.iconst 1, 1) := by decide +kernel
theorem dL_law_811 : decode cL_law 811 = .ok (.iadd, 1) := by decide +kernel
theorem dL_law_812 : decode cL_law 812 = .ok (.iaload, 1) := by decide +kernel
theorem dL_law_813 : decode cL_law 813 = .ok (.aload_n 0, 1) := by decide +kernel
theorem dL_law_814 : decode cL_law 814 = .ok (.iload_n 3, 1) := by decide +kernel
theorem dL_law_815 : decode cL_law 815 = .ok (.iconst 2, 1) := by decide +kernel
theorem dL_law_816 : decode cL_law 816 = .ok (.iadd, 1) := by decide +kernel
theorem dL_law_817 : decode cL_law 817 = .ok (.iaload, 1) := by decide +kernel
theorem dL_law_818 : decode cL_law 818 = .ok (.invokevirtual 108, 3) := by decide +kernel
theorem dL_law_821 : decode cL_law 821 = .ok (.if_icmp .eq 5, 3) := by decide +kernel
theorem dL_law_824 : decode cL_law 824 = .ok (.iconst 0, 1) := by decide +kernel
theorem dL_law_825 : decode cL_law 825 = .ok (.ireturn, 1) := by decide +kernel
theorem dL_law_826 : decode cL_law 826 = .ok (.iinc 3 6, 3) := by decide +kernel
theorem dL_law_829 : decode cL_law 829 = .ok (.goto (-801), 3) := by decide +kernel
theorem dL_law_832 : decode cL_law 832 = .ok (.iconst 1, 1) := by decide +kernel
theorem dL_law_833 : decode cL_law 833 = .ok (.ireturn, 1) := by decide +kernel
end
section
abbrev zw_cls : List vw_C := [(RX0, TX0, 3), (RX1, TX1, 5), (RX2, TX2, 4), (RX3, TX3, 3), (RX4, TX4, 5), (RX5, TX5, 3), (RX7, TX7, 6), (RX8, TX8, 6), (RX9, TX9, 12), (RX10, TX10, 30)]
abbrev zw_tys (dA : Nat → ClassId) : List (ClassId × FieldType) := [(dA 0, .int), (dA 1, .boolean), (dA 2, .object "TicketRealm$Claim"), (dA 3, .object "TicketRealm$Seal"), (dA 4, .object "TicketRealm$User"), (dA 5, .array .int)]
/-! worlds by roles: a cell is named by a role (a number), its address is 'ad role'; what it holds is a shape and ints -/
abbrev zw_Sh : Type := (Nat × List (Option (Option Nat))) ⊕ (Nat × Nat × Option (Nat → Option Nat))
abbrev zw_Y : Type := va_G × (Nat → ClassId)
def zw_vl (ad : Nat → Nat) (x : Int32) (t : Option (Option Nat)) : Value := match t with
  | none => .int x
  | some none => .null
  | some (some r) => .ref (ad r)
def zw_fs (ad : Nat → Nat) (x : Nat → Int32) : Nat → List (Option (Option Nat)) → List Value
  | _, [] => []
  | k, t :: ts => zw_vl ad (x k) t :: zw_fs ad x (k + 1) ts
theorem zw_fs_at (ad : Nat → Nat) (x : Nat → Int32) : ∀ (ts : List (Option (Option Nat))) (o k : Nat), (zw_fs ad x o ts)[k]? = (ts[k]?).map (zw_vl ad (x (o + k)))
  | [], o, k => by simp [zw_fs]
  | t :: ts, o, 0 => by simp [zw_fs]
  | t :: ts, o, k + 1 => by
    simp only [zw_fs, List.getElem?_cons_succ]
    rw [zw_fs_at ad x ts (o + 1) k, show o + 1 + k = o + (k + 1) by omega]
theorem zw_fs_len (ad : Nat → Nat) (x : Nat → Int32) : ∀ (ts : List (Option (Option Nat))) (o : Nat), (zw_fs ad x o ts).length = ts.length
  | [], o => rfl
  | t :: ts, o => by simp [zw_fs, zw_fs_len ad x ts (o + 1)]
theorem zw_fs_seti (ad : Nat → Nat) (x : Nat → Int32) (ts : List (Option (Option Nat))) (k : Nat) (v : Int32) (h : ts[k]? = some none) : (zw_fs ad x 0 ts).set k (.int v) = zw_fs ad (upd x k v) 0 ts := by
  have hk : k < ts.length := (List.getElem?_eq_some_iff.mp h).1
  apply List.ext_getElem?
  intro j
  rw [List.getElem?_set, zw_fs_at, zw_fs_at, zw_fs_len]
  by_cases hj : k = j
  · subst hj
    rw [if_pos rfl, if_pos hk, h]
    simp [zw_vl, upd]
  · rw [if_neg hj]
    simp [upd, Ne.symm hj]
theorem zw_fs_setr (ad : Nat → Nat) (x : Nat → Int32) (ts : List (Option (Option Nat))) (k r : Nat) (hk : k < ts.length) : (zw_fs ad x 0 ts).set k (.ref (ad r)) = zw_fs ad x 0 (ts.set k (some (some r))) := by
  apply List.ext_getElem?
  intro j
  rw [List.getElem?_set, zw_fs_at, zw_fs_at, zw_fs_len, List.getElem?_set]
  by_cases hj : k = j
  · subst hj
    simp [hk, zw_vl]
  · simp [hj]
theorem zw_fs_ad {ad ad' : Nat → Nat} (x : Nat → Int32) : ∀ (ts : List (Option (Option Nat))) (o : Nat), (∀ r, some (some r) ∈ ts → ad' r = ad r) → zw_fs ad' x o ts = zw_fs ad x o ts
  | [], o, _ => rfl
  | t :: ts, o, h => by
    simp only [zw_fs]
    rw [zw_fs_ad x ts (o + 1) (fun r hr => h r (List.mem_cons_of_mem _ hr))]
    congr 1
    match t with
    | none => rfl
    | some none => rfl
    | some (some r) => simp [zw_vl, h r List.mem_cons_self]
def zw_ce (dA : Nat → ClassId) (ad : Nat → Nat) (x : Nat → Int32) (e : zw_Sh) : va_E := match e with
  | .inl q => .inr (q.1, zw_fs ad x 0 q.2)
  | .inr (ti, n, none) => .inl (dA ti, n, .inl x)
  | .inr (ti, n, some f) => .inl (dA ti, n, .inr (.inr (.inr (.inr (fun i => (f i).map ad)))))
/-- e refers to the role r -/
def zw_re (e : zw_Sh) (r : Nat) : Prop := match e with
  | .inl q => some (some r) ∈ q.2
  | .inr (_, _, none) => False
  | .inr (_, _, some f) => ∃ i, f i = some r
theorem zw_ce_ad {dA : Nat → ClassId} {ad ad' : Nat → Nat} {x : Nat → Int32} {e : zw_Sh} (h : ∀ r, zw_re e r → ad' r = ad r) : zw_ce dA ad' x e = zw_ce dA ad x e := by
  match e with
  | .inl q => simp only [zw_ce]; rw [zw_fs_ad x q.2 0 h]
  | .inr (ti, n, none) => rfl
  | .inr (ti, n, some f) =>
    simp only [zw_ce]
    refine congrArg (fun z => (Sum.inl (dA ti, n, .inr (.inr (.inr (.inr z)))) : va_E)) (funext fun i => ?_)
    cases hf : f i with
    | none => rfl
    | some r => simp only [Option.map_some]; rw [h r ⟨i, hf⟩]
def zw_F (Y : zw_Y) (ad : Nat → Nat) (sh : Nat → Option zw_Sh) (g : Nat → Nat → Int32) (r : Nat) : Nat × va_E := (ad r, match sh r with | some e => zw_ce Y.2 ad (g r) e | none => .inr (0, []))
def zw_ok (Y : zw_Y) (N0 : Nat) (ad : Nat → Nat) (sh : Nat → Option zw_Sh) (g : Nat → Nat → Int32) (H : Heap) : Prop :=
  ∃ L : List Nat, L.Nodup ∧ (∀ r, r ∈ L ↔ sh r ≠ none) ∧ va_P Y.1 zw_cls (L.map (zw_F Y ad sh g)) H ∧ va_D (fun q => N0 ≤ q) (L.map (zw_F Y ad sh g)) ∧ ∀ r e, sh r = some e → ∀ r', zw_re e r' → sh r' ≠ none
def zw_St (Y : zw_Y) (N0 : Nat) (ad : Nat → Nat) (sh : Nat → Option zw_Sh) (g : Nat → Nat → Int32) (s : State) (H : Heap) (locs : List Loc) : Prop :=
  zw_ok Y N0 ad sh g H ∧ va_S (fun q => N0 ≤ q) s.heap H locs ∧ N0 ≤ s.heap.size
theorem zw_at {Y : zw_Y} {ad : Nat → Nat} {sh : Nat → Option zw_Sh} {g : Nat → Nat → Int32} {L : List Nat} (hL : ∀ r, r ∈ L ↔ sh r ≠ none) {r : Nat} {e : zw_Sh} (h : sh r = some e) : ∃ k : Nat, L[k]? = some r ∧ (L.map (zw_F Y ad sh g))[k]? = some (ad r, zw_ce Y.2 ad (g r) e) := by
  obtain ⟨k, hk⟩ := List.getElem?_of_mem ((hL r).mpr (by rw [h]; simp))
  refine ⟨k, hk, ?_⟩
  rw [List.getElem?_map, hk]
  simp [zw_F, h]
theorem zw_set {α : Type} {L : List Nat} {F F' : Nat → α} {k r : Nat} {a : α} (hn : L.Nodup) (hk : L[k]? = some r) (h1 : F' r = a) (h2 : ∀ q, q ∈ L → q ≠ r → F' q = F q) : (L.map F).set k a = L.map F' := by
  have hkl : k < L.length := (List.getElem?_eq_some_iff.mp hk).1
  apply List.ext_getElem?
  intro j
  rw [List.getElem?_set, List.getElem?_map, List.getElem?_map, List.length_map]
  by_cases hj : k = j
  · subst hj
    rw [if_pos rfl, if_pos hkl, hk]
    simp [h1]
  · rw [if_neg hj]
    cases hq : L[j]? with
    | none => rfl
    | some q =>
      have hne : q ≠ r := by
        intro e
        subst e
        exact hj ((List.getElem?_inj hkl hn).mp (hk.trans hq.symm))
      simp [h2 q (List.mem_of_getElem? hq) hne]
/-- the world behind a store into the cell of role r -/
theorem zw_stored {Y : zw_Y} {N0 : Nat} {ad : Nat → Nat} {sh : Nat → Option zw_Sh} {g : Nat → Nat → Int32} {L : List Nat} {H1 : Heap} (hn : L.Nodup) (hL : ∀ r, r ∈ L ↔ sh r ≠ none) (hcl : ∀ r e, sh r = some e → ∀ r', zw_re e r' → sh r' ≠ none)
    {r k : Nat} {e0 e' : zw_Sh} {x' : Nat → Int32} (h0 : sh r = some e0) (hk : L[k]? = some r) (he : ∀ r', zw_re e' r' → sh r' ≠ none)
    (hP : va_P Y.1 zw_cls ((L.map (zw_F Y ad sh g)).set k (ad r, zw_ce Y.2 ad x' e')) H1) (hD : va_D (fun q => N0 ≤ q) ((L.map (zw_F Y ad sh g)).set k (ad r, zw_ce Y.2 ad x' e'))) : zw_ok Y N0 ad (va_up sh r (some e')) (va_up g r x') H1 := by
  have hs : (L.map (zw_F Y ad sh g)).set k (ad r, zw_ce Y.2 ad x' e') = L.map (zw_F Y ad (va_up sh r (some e')) (va_up g r x')) := by
    refine zw_set hn hk ?_ ?_
    · simp [zw_F, va_up]
    · intro q _ hq
      simp [zw_F, va_up, hq]
  rw [hs] at hP hD
  have hnn : ∀ q, va_up sh r (some e') q ≠ none ↔ sh q ≠ none := by
    intro q
    by_cases hq : q = r
    · subst hq; simp [va_up, h0]
    · simp [va_up, hq]
  refine ⟨L, hn, fun q => (hL q).trans (hnn q).symm, hP, hD, fun q e hq r' hr' => (hnn r').mpr ?_⟩
  by_cases hqr : q = r
  · subst hqr
    rw [va_up_self] at hq
    cases hq
    exact he r' hr'
  · rw [va_up_ne _ _ hqr] at hq
    exact hcl q e hq r' hr'
theorem zw_up_same {α : Type} {f : Nat → α} {k : Nat} {v : α} (h : f k = v) : va_up f k v = f := by
  funext j
  by_cases hj : j = k
  · subst hj; rw [va_up_self, h]
  · rw [va_up_ne _ _ hj]
/-- the world behind the making of a cell, of a role that was free -/
theorem zw_made {Y : zw_Y} {N0 : Nat} {ad : Nat → Nat} {sh : Nat → Option zw_Sh} {g : Nat → Nat → Int32} {L : List Nat} {H1 : Heap} (hn : L.Nodup) (hL : ∀ r, r ∈ L ↔ sh r ≠ none) (hcl : ∀ r e, sh r = some e → ∀ r', zw_re e r' → sh r' ≠ none)
    {r q : Nat} {e' : zw_Sh} {x' : Nat → Int32} (h0 : sh r = none) (he : ∀ r', ¬ zw_re e' r')
    (hP : va_P Y.1 zw_cls (L.map (zw_F Y ad sh g) ++ [(q, zw_ce Y.2 ad x' e')]) H1) (hD : va_D (fun q => N0 ≤ q) (L.map (zw_F Y ad sh g) ++ [(q, zw_ce Y.2 ad x' e')])) : zw_ok Y N0 (va_up ad r q) (va_up sh r (some e')) (va_up g r x') H1 := by
  have hrL : r ∉ L := fun h => (hL r).mp h h0
  have hs : L.map (zw_F Y ad sh g) ++ [(q, zw_ce Y.2 ad x' e')] = (L ++ [r]).map (zw_F Y (va_up ad r q) (va_up sh r (some e')) (va_up g r x')) := by
    rw [List.map_append]
    congr 1
    · apply List.map_congr_left
      intro j hj
      have hjr : j ≠ r := fun e => hrL (e ▸ hj)
      simp only [zw_F, va_up_ne _ _ hjr]
      congr 1
      cases hsj : sh j with
      | none => rfl
      | some e =>
        refine (zw_ce_ad fun r' hr' => va_up_ne _ _ ?_).symm
        intro e2
        subst e2
        exact hcl j e hsj r' hr' h0
    · simp only [List.map_cons, List.map_nil, zw_F, va_up_self]
      rw [zw_ce_ad (ad' := va_up ad r q) (ad := ad) (fun r' hr' => absurd hr' (he r'))]
  rw [hs] at hP hD
  refine ⟨L ++ [r], List.nodup_append.mpr ⟨hn, by simp, ?_⟩, fun j => ?_, hP, hD, fun j e hj r' hr' => ?_⟩
  · intro a ha b hb
    rw [List.mem_singleton] at hb
    subst hb
    exact fun e => hrL (e ▸ ha)
  · rw [List.mem_append, List.mem_singleton]
    by_cases hjr : j = r
    · subst hjr; simp [va_up]
    · simp [hjr, va_up, hL j]
  · by_cases hrr : r' = r
    · subst hrr; simp [va_up]
    · rw [va_up_ne _ _ hrr]
      by_cases hjr : j = r
      · subst hjr
        rw [va_up_self] at hj
        cases hj
        exact absurd hr' (he r')
      · rw [va_up_ne _ _ hjr] at hj
        exact hcl j e hj r' hr'
end
section
/-! the words of the tables that stay true: carried by every contract; the rest as facts of the state -/
def zt_good : List Cond := lw_tbl.filter goodWord
theorem zt_in {w : Cond} (h : w ∈ lw_tbl) (hg : goodWord w = true) : w ∈ zt_good := List.mem_filter.mpr ⟨h, hg⟩
theorem zt_goodin {ws : List Cond} (h : ∀ w ∈ ws, w ∈ zt_good) : GoodIn zt_good ws := fun w hw => ⟨h w hw, good_of_word (List.mem_filter.mp (h w hw)).2⟩
theorem zt_code {ws : List Cond} {c : Cond} (hc : c ∈ zt_good) (h : ∀ w ∈ ws, w ∈ zt_good) : GoodIn zt_good (ws ++ (c :: zt_good)) := zt_goodin fun w hw => by
  rcases List.mem_append.mp hw with h1 | h1
  · exact h w h1
  · rcases List.mem_cons.mp h1 with rfl | h2
    · exact hc
    · exact h2
def zt_cast : List (String × String) := [("TicketRealm$Part", "TicketRealm$Part"), ("TicketRealm$Proof", "TicketRealm$Proof"), ("TicketRealm$Ticket", "TicketRealm$Ticket"), ("TicketRealm$Claim", "TicketRealm$Claim"), ("TicketRealm$Claim", "TicketRealm$Seal"), ("TicketRealm$Part", "TicketRealm$Seal"), ("TicketRealm$Proof", "TicketRealm$Seal"), ("TicketRealm$Ticket", "TicketRealm$Seal")]
def zt_nest : List (String × Nat × MethodName × String) := [("TicketRealm", 34, ⟨"TicketRealm$FileService", "<init>", "()V"⟩, "TicketRealm"), ("TicketRealm$Book", 23, ⟨"TicketRealm", "isPrincipal", "(I)Z"⟩, "TicketRealm")]
def zt_nc : List (String × String) := [("TicketRealm$Proof", "TicketRealm$Part"), ("TicketRealm$Claim", "TicketRealm$Part"), ("TicketRealm$Ticket", "TicketRealm$Part"), ("TicketRealm$Claim", "TicketRealm$Proof"), ("TicketRealm$Ticket", "TicketRealm$Proof"), ("TicketRealm$Part", "TicketRealm$Proof"), ("TicketRealm$Proof", "TicketRealm$Ticket"), ("TicketRealm$Claim", "TicketRealm$Ticket"), ("TicketRealm$Part", "TicketRealm$Ticket"), ("TicketRealm$Proof", "TicketRealm$Claim"), ("TicketRealm$Ticket", "TicketRealm$Claim"), ("TicketRealm$Part", "TicketRealm$Claim")]
def zt_arr : List String := ["TicketRealm$User", "TicketRealm$Claim", "TicketRealm$Seal"]
def zt_AA (U : State) : Prop := ∃ (comp c : ClassId) (k : Class), U.vm.findClass "[I" = some comp ∧ U.vm.classes[c]? = some k ∧ k.kind = .array comp (.array .int) ∧ U.vm.findClass "[[I" = some c
def zt_E (U : State) : Prop := (∀ q ∈ zt_cast, va_Nw (.castable q.1 q.2) U) ∧ (∀ q ∈ zt_nest, va_Nw (.methodLinkNest q.1 q.2.1 q.2.2.1 q.2.2.2) U) ∧ va_Nw (.declares ⟨"TicketRealm$Seal", "kind", "()I"⟩) U ∧ (∀ q ∈ zt_nc, va_Nc q.1 q.2 U) ∧ (∀ q ∈ zt_arr, va_AO q U) ∧ zt_AA U
theorem zt_AA.moved {u U : State} (hvm : u.vm.Alike U.vm) (h : zt_AA u) : zt_AA U := by
  obtain ⟨comp, c, k, h1, h3, h4, h5⟩ := h
  obtain ⟨k', hk', he⟩ := hvm.2.2 _ _ h3
  exact ⟨comp, c, k', by rw [hvm.findClass]; exact h1, hk', by rw [he]; exact h4, by rw [hvm.findClass]; exact h5⟩
theorem zt_E.warm {s U : State} (hW : s.WarmedH U.vm) (h : zt_E s) : zt_E U :=
  ⟨fun q hq => va_Nw.warmC hW (h.1 q hq), fun q hq => va_Nw.warmM hW (h.2.1 q hq), va_Nw.warmD hW h.2.2.1, fun q hq => (h.2.2.2.1 q hq).moved hW.alike, fun q hq => (h.2.2.2.2.1 q hq).moved hW.alike, h.2.2.2.2.2.moved hW.alike⟩
theorem zt_E.same {u U : State} (hv : u.vm = U.vm) (h : zt_E u) : zt_E U :=
  ⟨fun q hq => va_Nw.same rfl hv (h.1 q hq), fun q hq => va_Nw.same rfl hv (h.2.1 q hq), va_Nw.same rfl hv h.2.2.1, fun q hq => (h.2.2.2.1 q hq).moved (by rw [hv]; exact Vm.Alike.refl _), fun q hq => (h.2.2.2.2.1 q hq).moved (by rw [hv]; exact Vm.Alike.refl _), h.2.2.2.2.2.moved (by rw [hv]; exact Vm.Alike.refl _)⟩
def zw_K (Y : zw_Y) (U : State) : Prop := va_K Y.1 zw_cls (zw_tys Y.2) U ∧ zt_E U
theorem zw_K.warm {Y : zw_Y} {s U : State} (hW : s.WarmedH U.vm) (h : zw_K Y s) : zw_K Y U := ⟨va_K.moved hW.alike h.1, h.2.warm hW⟩
theorem zw_K.same {Y : zw_Y} {u U : State} (hv : u.vm = U.vm) (h : zw_K Y u) : zw_K Y U := ⟨va_K.moved (by rw [hv]; exact Vm.Alike.refl _) h.1, h.2.same hv⟩
end
section
/-! the rows of the worlds by roles -/
/-- what a walk stands on -/
def zw_X (p : Program) (m : MethodId) (meth : Method) (c : Code) (cc : ByteArray) (nL : Nat) (ret : Option FieldType) (s : State) (args : Array Value) (own : String) (Y : zw_Y) : Prop :=
  p.tables.exec = Jvm.exec ∧ c.code = cc ∧ c.maxLocals = nL ∧ s.vm.findClass own = some m.cls ∧ (∀ w ∈ zt_good, w.before args s = true) ∧ zw_K Y s ∧ meth.sig.returnType = ret ∧ meth.locks = false
/-- a class of the world, with what the tables say of its fields -/
def zw_CS (ci : Nat) (C : String) (T : u_T) (N : Nat) (ty0 : Nat → FieldType) : Prop :=
  zw_cls[ci]? = some (C, T, N) ∧ (∀ w ∈ u_ws C T N, w ∈ zt_good) ∧ (∀ k, k < N → parseFieldDescriptor (T k).2.2.1 = some (ty0 k)) ∧ (∀ a, a < N → ∀ b, b < N → a ≠ b → (T a).2.1 ≠ (T b).2.1)
/-- a field's place in the code: the class 'own' names by 'index' the field k of the class ci; mode 1: it may be written, 2: it is final and the class's own -/
def zw_FS (own : String) (index ci k mode : Nat) (ty : FieldType) : Prop :=
  ∃ (C : String) (T : u_T) (N : Nat) (ty0 : Nat → FieldType) (ref : String), zw_CS ci C T N ty0 ∧ k < N ∧ ty0 k = ty ∧ (mode = 1 → (T k).2.2.2 = false) ∧ Cond.fieldLink own index ref (T k).2.1 (T k).2.2.1 ∈ zt_good ∧ (ref = (T k).1 ∨ Cond.sameField ref (T k).1 (T k).2.1 (T k).2.2.1 ∈ zt_good) ∧ (mode = 2 → (T k).2.2.2 = true ∧ (T k).1 = own)
section ZR
variable {p : Program} {l : Launch} {e : Env} {R : Room} {s : State} {m : MethodId} {args : Array Value} {below : List Frame} {meth : Method} {c : Code} {H : Heap} {locs : List Loc} {cells slots : Nat} {Q : State → Prop}
variable {cc : ByteArray} {pc nL : Nat} {ret : Option FieldType} {ls : Array Slot} {rest : List Value} {Y : zw_Y} {N0 : Nat} {ad : Nat → Nat} {sh : Nat → Option zw_Sh} {g : Nat → Nat → Int32} {own : String}
theorem zw_same {ref C n d : String} (hts : ∀ w ∈ zt_good, w.before args s = true) (h : ref = C ∨ Cond.sameField ref C n d ∈ zt_good) : ∀ x, s.fieldFound? C n d = some x → s.fieldFound? ref n d = some x := by
  intro x hx
  rcases h with rfl | h
  · exact hx
  · exact u_same (hts _ h) x hx
theorem zr_get (X : zw_X p m meth c cc nL ret s args own Y) (hW : zw_St Y N0 ad sh g s H locs) {index ci fn mode : Nat} {ty : FieldType} (F : zw_FS own index ci fn mode ty) (hdg : decode cc pc = .ok (.getfield index, 3)) {r : Nat} {ss : List (Option (Option Nat))} (h : sh r = some (.inl (ci, ss))) {a : Nat} (ha : ad r = a) {t : Option (Option Nat)} (ht : ss[fn]? = some t) {v : Value} (hv : zw_vl ad (g r fn) t = v)
    (kk : W p l e R s m args below meth c H locs cells slots Q (F0 m (pc + 3) ls (v :: rest))) : W p l e R s m args below meth c H locs cells slots Q (F0 m pc ls (.ref a :: rest)) := by
  subst ha
  obtain ⟨hx, hb, -, hown, hts, ⟨hK, hE⟩, -, -⟩ := X
  obtain ⟨⟨L, hn, hL, hP, hD, hcl⟩, hS, h0⟩ := hW
  obtain ⟨q, hq1, hq2⟩ := zw_at (Y := Y) (ad := ad) (g := g) hL h
  obtain ⟨C, T, N, ty0, ref, ⟨f1, f3, f4, f5⟩, f2, f6, f7, f8, f9, f10⟩ := F
  refine va_get hx hb hts f3 hown hK hP q hq2 f1 fn f2 (hts _ f8) (zw_same hts f9) (v := v) ?_ hdg kk
  show (zw_fs ad (g r) 0 ss)[fn]? = some v
  rw [zw_fs_at, ht, Nat.zero_add]
  exact congrArg some hv
theorem zr_puti (X : zw_X p m meth c cc nL ret s args own Y) (hW : zw_St Y N0 ad sh g s H locs) {index ci fn : Nat} {ty : FieldType} (F : zw_FS own index ci fn 1 ty) (hdg : decode cc pc = .ok (.putfield index, 3)) {r : Nat} {ss : List (Option (Option Nat))} (h : sh r = some (.inl (ci, ss))) {a : Nat} (ha : ad r = a) (ht : ss[fn]? = some none) {x : Int32} (hnr : narrow ty (.int x) = .int x) (hfi : fits ty (.int x) = true)
    (kk : ∀ (H1 : Heap) (locs1 : List Loc), zw_St Y N0 ad sh (va_up g r (upd (g r) fn x)) s H1 locs1 → W p l e R s m args below meth c H1 locs1 cells slots Q (F0 m (pc + 3) ls rest)) : W p l e R s m args below meth c H locs cells slots Q (F0 m pc ls (.int x :: .ref a :: rest)) := by
  subst ha
  obtain ⟨hx, hb, -, hown, hts, ⟨hK, hE⟩, -, -⟩ := X
  obtain ⟨⟨L, hn, hL, hP, hD, hcl⟩, hS, h0⟩ := hW
  obtain ⟨q, hq1, hq2⟩ := zw_at (Y := Y) (ad := ad) (g := g) hL h
  obtain ⟨C, T, N, ty0, ref, ⟨f1, f3, f4, f5⟩, f2, f6, f7, f8, f9, f10⟩ := F
  have hfl : fn < (zw_fs ad (g r) 0 ss).length := by rw [zw_fs_len]; exact (List.getElem?_eq_some_iff.mp ht).1
  refine va_put hx hb hts f3 ty0 f4 f5 hown hK hP hD hS q hq2 f1 fn f2 (hts _ f8) (zw_same hts f9) (f7 rfl) (by rw [← f6]; exact f4 fn f2) hnr hfi hfl hdg (fun H1 locs1 hP1 hD1 hS1 => kk H1 locs1 ⟨?_, hS1, h0⟩)
  rw [zw_fs_seti _ _ _ _ _ ht] at hP1 hD1
  have := zw_stored (e' := .inl (ci, ss)) hn hL hcl h hq1 (hcl r _ h) hP1 hD1
  rwa [zw_up_same h] at this
theorem zr_putr (X : zw_X p m meth c cc nL ret s args own Y) (hW : zw_St Y N0 ad sh g s H locs) {index ci fn mode : Nat} {ty : FieldType} (F : zw_FS own index ci fn mode ty) (hdg : decode cc pc = .ok (.putfield index, 3)) (hmd : mode = 1 ∨ (mode = 2 ∧ meth.name = "<init>")) {r r2 : Nat} {ss : List (Option (Option Nat))} (h : sh r = some (.inl (ci, ss))) {a : Nat} (ha : ad r = a) (hfl : fn < ss.length) (hr2 : sh r2 ≠ none) {a2 : Nat} (ha2 : ad r2 = a2) (hnr : ∀ a : Nat, narrow ty (.ref a) = .ref a ∧ fits ty (.ref a) = true)
    (kk : ∀ (H1 : Heap) (locs1 : List Loc), zw_St Y N0 ad (va_up sh r (some (.inl (ci, ss.set fn (some (some r2)))))) g s H1 locs1 → W p l e R s m args below meth c H1 locs1 cells slots Q (F0 m (pc + 3) ls rest)) : W p l e R s m args below meth c H locs cells slots Q (F0 m pc ls (.ref a2 :: .ref a :: rest)) := by
  subst ha
  subst ha2
  obtain ⟨hx, hb, -, hown, hts, ⟨hK, hE⟩, -, -⟩ := X
  obtain ⟨⟨L, hn, hL, hP, hD, hcl⟩, hS, h0⟩ := hW
  obtain ⟨q, hq1, hq2⟩ := zw_at (Y := Y) (ad := ad) (g := g) hL h
  obtain ⟨C, T, N, ty0, ref, ⟨f1, f3, f4, f5⟩, f2, f6, f7, f8, f9, f10⟩ := F
  have hfl2 : fn < (zw_fs ad (g r) 0 ss).length := by rw [zw_fs_len]; exact hfl
  have hend : ∀ (H1 : Heap) (locs1 : List Loc), va_P Y.1 zw_cls ((L.map (zw_F Y ad sh g)).set q (ad r, .inr (ci, (zw_fs ad (g r) 0 ss).set fn (.ref (ad r2))))) H1 → va_D (fun q => N0 ≤ q) ((L.map (zw_F Y ad sh g)).set q (ad r, .inr (ci, (zw_fs ad (g r) 0 ss).set fn (.ref (ad r2))))) → va_S (fun q => N0 ≤ q) s.heap H1 locs1 → W p l e R s m args below meth c H1 locs1 cells slots Q (F0 m (pc + 3) ls rest) := by
    intro H1 locs1 hP1 hD1 hS1
    refine kk H1 locs1 ⟨?_, hS1, h0⟩
    rw [zw_fs_setr _ _ _ _ _ hfl] at hP1 hD1
    have := zw_stored (e' := .inl (ci, ss.set fn (some (some r2)))) (x' := g r) hn hL hcl h hq1 (fun r' hr' => ?_) hP1 hD1
    · rwa [zw_up_same (f := g) rfl] at this
    · rcases List.mem_or_eq_of_mem_set hr' with h1 | h1
      · exact hcl r _ h r' h1
      · cases h1; exact hr2
  rcases hmd with rfl | ⟨rfl, hin⟩
  · exact va_put hx hb hts f3 ty0 f4 f5 hown hK hP hD hS q hq2 f1 fn f2 (hts _ f8) (zw_same hts f9) (f7 rfl) (by rw [← f6]; exact f4 fn f2) (hnr _).1 (hnr _).2 hfl2 hdg hend
  · exact va_putF hx hb hts f3 ty0 f4 f5 hown hK hP hD hS q hq2 f1 fn f2 (hts _ f8) (zw_same hts f9) (f10 rfl).1 hin (f10 rfl).2 (by rw [← f6]; exact f4 fn f2) (hnr _).1 (hnr _).2 hfl2 hdg hend
theorem zr_putF (X : zw_X p m meth c cc nL ret s args own Y) (hW : zw_St Y N0 ad sh g s H locs) {index ci fn : Nat} {ty : FieldType} (F : zw_FS own index ci fn 2 ty) (hdg : decode cc pc = .ok (.putfield index, 3)) (hin : meth.name = "<init>") {r : Nat} {ss : List (Option (Option Nat))} (h : sh r = some (.inl (ci, ss))) {a : Nat} (ha : ad r = a) (ht : ss[fn]? = some none) {x : Int32} (hnr : narrow ty (.int x) = .int x) (hfi : fits ty (.int x) = true)
    (kk : ∀ (H1 : Heap) (locs1 : List Loc), zw_St Y N0 ad sh (va_up g r (upd (g r) fn x)) s H1 locs1 → W p l e R s m args below meth c H1 locs1 cells slots Q (F0 m (pc + 3) ls rest)) : W p l e R s m args below meth c H locs cells slots Q (F0 m pc ls (.int x :: .ref a :: rest)) := by
  subst ha
  obtain ⟨hx, hb, -, hown, hts, ⟨hK, hE⟩, -, -⟩ := X
  obtain ⟨⟨L, hn, hL, hP, hD, hcl⟩, hS, h0⟩ := hW
  obtain ⟨q, hq1, hq2⟩ := zw_at (Y := Y) (ad := ad) (g := g) hL h
  obtain ⟨C, T, N, ty0, ref, ⟨f1, f3, f4, f5⟩, f2, f6, f7, f8, f9, f10⟩ := F
  have hfl : fn < (zw_fs ad (g r) 0 ss).length := by rw [zw_fs_len]; exact (List.getElem?_eq_some_iff.mp ht).1
  refine va_putF hx hb hts f3 ty0 f4 f5 hown hK hP hD hS q hq2 f1 fn f2 (hts _ f8) (zw_same hts f9) (f10 rfl).1 hin (f10 rfl).2 (by rw [← f6]; exact f4 fn f2) hnr hfi hfl hdg (fun H1 locs1 hP1 hD1 hS1 => kk H1 locs1 ⟨?_, hS1, h0⟩)
  rw [zw_fs_seti _ _ _ _ _ ht] at hP1 hD1
  have := zw_stored (e' := .inl (ci, ss)) hn hL hcl h hq1 (hcl r _ h) hP1 hD1
  rwa [zw_up_same h] at this
theorem zr_iald (X : zw_X p m meth c cc nL ret s args own Y) (hW : zw_St Y N0 ad sh g s H locs) (hdg : decode cc pc = .ok (.iaload, 1)) {r ti n : Nat} (h : sh r = some (.inr (ti, n, none))) {a : Nat} (ha : ad r = a) (ht : (zw_tys Y.2)[ti]? = some (Y.2 ti, .int)) {i : Int32} (hin : vp_in i n) {v : Int32} (hv : g r i.toNatClampNeg = v)
    (kk : W p l e R s m args below meth c H locs cells slots Q (F0 m (pc + 1) ls (.int v :: rest))) : W p l e R s m args below meth c H locs cells slots Q (F0 m pc ls (.int i :: .ref a :: rest)) := by
  subst ha
  subst hv
  obtain ⟨hx, hb, -, hown, hts, ⟨hK, hE⟩, -, -⟩ := X
  obtain ⟨⟨L, hn, hL, hP, hD, hcl⟩, hS, h0⟩ := hW
  obtain ⟨q, hq1, hq2⟩ := zw_at (Y := Y) (ad := ad) (g := g) hL h
  exact va_iald hx hb hK hP q ti hq2 ht hin hdg kk
theorem zr_zald (X : zw_X p m meth c cc nL ret s args own Y) (hW : zw_St Y N0 ad sh g s H locs) (hdg : decode cc pc = .ok (.baload, 1)) {r ti n : Nat} (h : sh r = some (.inr (ti, n, none))) {a : Nat} (ha : ad r = a) (ht : (zw_tys Y.2)[ti]? = some (Y.2 ti, .boolean)) {i : Int32} (hin : vp_in i n) {v : Int32} (hv : g r i.toNatClampNeg = v)
    (kk : W p l e R s m args below meth c H locs cells slots Q (F0 m (pc + 1) ls (.int v :: rest))) : W p l e R s m args below meth c H locs cells slots Q (F0 m pc ls (.int i :: .ref a :: rest)) := by
  subst ha
  subst hv
  obtain ⟨hx, hb, -, hown, hts, ⟨hK, hE⟩, -, -⟩ := X
  obtain ⟨⟨L, hn, hL, hP, hD, hcl⟩, hS, h0⟩ := hW
  obtain ⟨q, hq1, hq2⟩ := zw_at (Y := Y) (ad := ad) (g := g) hL h
  exact va_zald hx hb hK hP q ti hq2 ht hin hdg kk
theorem zr_iast (X : zw_X p m meth c cc nL ret s args own Y) (hW : zw_St Y N0 ad sh g s H locs) (hdg : decode cc pc = .ok (.iastore, 1)) {r ti n : Nat} (h : sh r = some (.inr (ti, n, none))) {a : Nat} (ha : ad r = a) (ht : (zw_tys Y.2)[ti]? = some (Y.2 ti, .int)) {i x : Int32} (hin : vp_in i n)
    (kk : ∀ (H1 : Heap) (locs1 : List Loc), zw_St Y N0 ad sh (va_up g r (upd (g r) i.toNatClampNeg x)) s H1 locs1 → W p l e R s m args below meth c H1 locs1 cells slots Q (F0 m (pc + 1) ls rest)) : W p l e R s m args below meth c H locs cells slots Q (F0 m pc ls (.int x :: .int i :: .ref a :: rest)) := by
  subst ha
  obtain ⟨hx, hb, -, hown, hts, ⟨hK, hE⟩, -, -⟩ := X
  obtain ⟨⟨L, hn, hL, hP, hD, hcl⟩, hS, h0⟩ := hW
  obtain ⟨q, hq1, hq2⟩ := zw_at (Y := Y) (ad := ad) (g := g) hL h
  refine va_iast hx hb hK hP hD hS q ti hq2 ht hin hdg (fun H1 locs1 hP1 hD1 hS1 => kk H1 locs1 ⟨?_, hS1, h0⟩)
  have := zw_stored (e' := .inr (ti, n, none)) hn hL hcl h hq1 (hcl r _ h) hP1 hD1
  rwa [zw_up_same h] at this
theorem zr_zast (X : zw_X p m meth c cc nL ret s args own Y) (hW : zw_St Y N0 ad sh g s H locs) (hdg : decode cc pc = .ok (.bastore, 1)) {r ti n : Nat} (h : sh r = some (.inr (ti, n, none))) {a : Nat} (ha : ad r = a) (ht : (zw_tys Y.2)[ti]? = some (Y.2 ti, .boolean)) {i x : Int32} (hin : vp_in i n) (hnar : vp_nar .boolean x = x)
    (kk : ∀ (H1 : Heap) (locs1 : List Loc), zw_St Y N0 ad sh (va_up g r (upd (g r) i.toNatClampNeg x)) s H1 locs1 → W p l e R s m args below meth c H1 locs1 cells slots Q (F0 m (pc + 1) ls rest)) : W p l e R s m args below meth c H locs cells slots Q (F0 m pc ls (.int x :: .int i :: .ref a :: rest)) := by
  subst ha
  obtain ⟨hx, hb, -, hown, hts, ⟨hK, hE⟩, -, -⟩ := X
  obtain ⟨⟨L, hn, hL, hP, hD, hcl⟩, hS, h0⟩ := hW
  obtain ⟨q, hq1, hq2⟩ := zw_at (Y := Y) (ad := ad) (g := g) hL h
  refine va_zast hx hb hK hP hD hS q ti hq2 ht hin hdg (fun H1 locs1 hP1 hD1 hS1 => kk H1 locs1 ⟨?_, hS1, h0⟩)
  rw [hnar] at hP1 hD1
  have := zw_stored (e' := .inr (ti, n, none)) hn hL hcl h hq1 (hcl r _ h) hP1 hD1
  rwa [zw_up_same h] at this
theorem zr_alen (X : zw_X p m meth c cc nL ret s args own Y) (hW : zw_St Y N0 ad sh g s H locs) (hdg : decode cc pc = .ok (.arraylength, 1)) {r ti n : Nat} {f : Option (Nat → Option Nat)} (h : sh r = some (.inr (ti, n, f))) {a : Nat} (ha : ad r = a) {ty : FieldType} (ht : (zw_tys Y.2)[ti]? = some (Y.2 ti, ty)) {v : Int32} (hv : Int32.ofNat n = v)
    (kk : W p l e R s m args below meth c H locs cells slots Q (F0 m (pc + 1) ls (.int v :: rest))) : W p l e R s m args below meth c H locs cells slots Q (F0 m pc ls (.ref a :: rest)) := by
  subst ha
  obtain ⟨hx, hb, -, hown, hts, ⟨hK, hE⟩, -, -⟩ := X
  obtain ⟨⟨L, hn, hL, hP, hD, hcl⟩, hS, h0⟩ := hW
  obtain ⟨q, hq1, hq2⟩ := zw_at (Y := Y) (ad := ad) (g := g) hL h
  cases f with
  | none => exact va_alen (x := (n, .inl (g r))) hx hb hK hP q ti hq2 ht hv hdg kk
  | some f => exact va_alen (x := (n, .inr (.inr (.inr (.inr (fun i => (f i).map ad)))))) hx hb hK hP q ti hq2 ht hv hdg kk
/-- a place of an array of references (of objects, or of arrays) is read -/
theorem zr_aald (X : zw_X p m meth c cc nL ret s args own Y) (hW : zw_St Y N0 ad sh g s H locs) (hdg : decode cc pc = .ok (.aaload, 1)) {r ti n : Nat} {f : Nat → Option Nat} (h : sh r = some (.inr (ti, n, some f))) {a : Nat} (ha : ad r = a) {ty : FieldType} (ht : (zw_tys Y.2)[ti]? = some (Y.2 ti, ty)) (hty : ty.isReference = true) {i : Int32} (hin : vp_in i n) {v : Value} (hv : va_rf ((f i.toNatClampNeg).map ad) = v)
    (kk : W p l e R s m args below meth c H locs cells slots Q (F0 m (pc + 1) ls (v :: rest))) : W p l e R s m args below meth c H locs cells slots Q (F0 m pc ls (.int i :: .ref a :: rest)) := by
  subst ha
  obtain ⟨hx, hb, -, hown, hts, ⟨hK, hE⟩, -, -⟩ := X
  obtain ⟨⟨L, hn, hL, hP, hD, hcl⟩, hS, h0⟩ := hW
  obtain ⟨q, hq1, hq2⟩ := zw_at (Y := Y) (ad := ad) (g := g) hL h
  have hlt : i.toNatClampNeg < n := Nat.not_le.mp fun q => hin (Or.inr q)
  exact W.aald (v := v) (ty := ty) hx hb (hP q _ hq2) ((hK.2 ti _ ht).1 n (fun j => va_rf ((f j).map ad))) hty (fun q => by cases q) (by show ¬ (i < 0 ∨ (arrV _ _ _).slots.size ≤ _); rw [arrV_size]; exact hin) (by show (arrV _ _ _).slots[_]? = _; rw [arrV_read _ _ hlt, hv]) rfl rfl hdg kk
/-- a reference to an object of the class C2 goes into an array of references to the class E -/
theorem zr_aast (X : zw_X p m meth c cc nL ret s args own Y) (hW : zw_St Y N0 ad sh g s H locs) (hdg : decode cc pc = .ok (.aastore, 1)) {r r2 ti n ci : Nat} {f : Nat → Option Nat} {ss : List (Option (Option Nat))} {E : String} {q2 : vw_C} (h : sh r = some (.inr (ti, n, some f))) {a : Nat} (ha : ad r = a) (ht : (zw_tys Y.2)[ti]? = some (Y.2 ti, .object E)) (h2 : sh r2 = some (.inl (ci, ss))) {a2 : Nat} (ha2 : ad r2 = a2) (hc : zw_cls[ci]? = some q2) (hca : q2.1 = E ∨ (q2.1, E) ∈ zt_cast) {i : Int32} (hin : vp_in i n)
    (kk : ∀ (H1 : Heap) (locs1 : List Loc), zw_St Y N0 ad (va_up sh r (some (.inr (ti, n, some (va_up f i.toNatClampNeg (some r2)))))) g s H1 locs1 → W p l e R s m args below meth c H1 locs1 cells slots Q (F0 m (pc + 1) ls rest)) : W p l e R s m args below meth c H locs cells slots Q (F0 m pc ls (.ref a2 :: .int i :: .ref a :: rest)) := by
  subst ha
  subst ha2
  obtain ⟨hx, hb, -, hown, hts, ⟨hK, hE⟩, -, -⟩ := X
  obtain ⟨⟨L, hn, hL, hP, hD, hcl⟩, hS, h0⟩ := hW
  obtain ⟨q, hq1, hq2⟩ := zw_at (Y := Y) (ad := ad) (g := g) hL h
  obtain ⟨k2, hk1, hk2⟩ := zw_at (Y := Y) (ad := ad) (g := g) hL h2
  have hfun : (va_up (fun i => (f i).map ad) i.toNatClampNeg (some (ad r2))) = fun j => ((va_up f i.toNatClampNeg (some r2)) j).map ad := by
    funext j
    by_cases hj : j = i.toNatClampNeg
    · subst hj; simp [va_up]
    · simp [va_up, hj]
  have hend : ∀ (H1 : Heap) (locs1 : List Loc), va_P Y.1 zw_cls ((L.map (zw_F Y ad sh g)).set q (ad r, .inl (Y.2 ti, n, .inr (.inr (.inr (.inr (va_up (fun i => (f i).map ad) i.toNatClampNeg (some (ad r2))))))))) H1 → va_D (fun q => N0 ≤ q) ((L.map (zw_F Y ad sh g)).set q (ad r, .inl (Y.2 ti, n, .inr (.inr (.inr (.inr (va_up (fun i => (f i).map ad) i.toNatClampNeg (some (ad r2))))))))) → va_S (fun q => N0 ≤ q) s.heap H1 locs1 → W p l e R s m args below meth c H1 locs1 cells slots Q (F0 m (pc + 1) ls rest) := by
    intro H1 locs1 hP1 hD1 hS1
    rw [hfun] at hP1 hD1
    refine kk H1 locs1 ⟨?_, hS1, h0⟩
    have := zw_stored (e' := .inr (ti, n, some (va_up f i.toNatClampNeg (some r2)))) (x' := g r) hn hL hcl h hq1 (fun r' hr' => ?_) hP1 hD1
    · rwa [zw_up_same (f := g) rfl] at this
    · obtain ⟨j, hj⟩ := hr'
      by_cases hji : j = i.toNatClampNeg
      · subst hji
        rw [va_up_self] at hj
        cases hj
        rw [h2]; simp
      · rw [va_up_ne _ _ hji] at hj
        exact hcl r _ h r' ⟨j, hj⟩
  rcases hca with rfl | hca
  · exact va_astq hx hb hK hP hD hS q ti k2 ci hq2 ht hk2 hc hin hdg hend
  · exact va_astqO hx hb hK hP hD hS q ti k2 ci hq2 ht (hE.1 _ hca) hk2 hc hin hdg hend

/-- an object is made: its role was free -/
theorem zr_new (X : zw_X p m meth c cc nL ret s args own Y) (hW : zw_St Y N0 ad sh g s H locs) {index ci : Nat} {C : String} {T : u_T} {N : Nat} {ty0 : Nat → FieldType} {ss : List (Option (Option Nat))} (F : zw_CS ci C T N ty0) (hw : Cond.classLink own index C ∈ zt_good ∧ Cond.instantiable C N ∈ zt_good ∧ Cond.initialized C ∈ zt_good) (hdg : decode cc pc = .ok (.new index, 3)) (hss : ∀ (ad : Nat → Nat) (j : Nat), j < N → defaultValue (ty0 j) = vp_V (zw_fs ad (fun _ => 0) 0 ss) j) (hre : ∀ r : Nat, some (some r) ∉ ss) (r : Nat) (h : sh r = none) (hcells : cells + 1 ≤ R.cells) (hslots : slots + N ≤ R.slots)
    (kk : ∀ (ad' : Nat → Nat) (H1 : Heap), (∀ r', r' ≠ r → ad' r' = ad r') → zw_St Y N0 ad' (va_up sh r (some (.inl (ci, ss)))) (va_up g r (fun _ => 0)) s H1 locs → W p l e R s m args below meth c H1 locs (cells + 1) (slots + N) Q (F0 m (pc + 3) ls (.ref (ad' r) :: rest))) : W p l e R s m args below meth c H locs cells slots Q (F0 m pc ls rest) := by
  obtain ⟨hx, hb, -, hown, hts, ⟨hK, hE⟩, -, -⟩ := X
  obtain ⟨⟨L, hn, hL, hP, hD, hcl⟩, hS, h0⟩ := hW
  obtain ⟨f1, f3, f4, f5⟩ := F
  refine va_new (ci := ci) (fs := zw_fs ad (fun _ => 0) 0 ss) hx hb hts f3 ty0 f4 hown (hts _ hw.1) (hts _ hw.2.1) (hts _ hw.2.2) hK hP hD hS (fun q hq => Nat.le_trans h0 hq) f1 (hss ad) hcells hslots hdg (fun q H1 hP1 hD1 hS1 => ?_)
  have hk := kk (va_up ad r q) H1 (fun r' hr' => va_up_ne _ _ hr') ⟨zw_made (e' := .inl (ci, ss)) hn hL hcl h (fun r' hr' => hre r' hr') hP1 hD1, hS1, h0⟩
  rwa [va_up_self] at hk
theorem zw_dA {Y : zw_Y} {tys : List (ClassId × FieldType)} {cA : ClassId} {ty : FieldType} (hK : va_K Y.1 zw_cls (zw_tys Y.2) s) (hK1 : va_K Y.1 zw_cls (tys ++ [(cA, ty)]) s) {ti : Nat} (ht : (zw_tys Y.2)[ti]? = some (Y.2 ti, ty)) : cA = Y.2 ti := by
  have h1 := (hK.2 ti _ ht).2
  have h2 := (hK1.2 tys.length (cA, ty) (by simp)).2
  cases ty with
  | object C =>
    obtain ⟨kA, comp, a1, a2, a3, a4⟩ := h1
    obtain ⟨kB, comp2, b1, b2, b3, b4⟩ := h2
    exact Option.some.inj (b4.symm.trans a4)
  | _ => exact Option.some.inj (h2.symm.trans h1)
theorem zr_newa (X : zw_X p m meth c cc nL ret s args own Y) (hW : zw_St Y N0 ad sh g s H locs) {atype : ArrayType} {ty : FieldType} (hw : Cond.arrayClass (newarray.typeOf atype) ∈ zt_good) (hty : newarray.typeOf atype = ty) (hdf : defaultValue ty = .int 0) {ti : Nat} (ht : (zw_tys Y.2)[ti]? = some (Y.2 ti, ty)) (hdg : decode cc pc = .ok (.newarray atype, 2)) (r : Nat) (h : sh r = none) {n : Int32} {N' : Nat} (hn0 : ¬ n < 0) (hN : n.toNatClampNeg = N') (hbytes : N' * componentBytes ty ≤ 536870912) (hcells : cells + 1 ≤ R.cells) (hslots : slots + N' ≤ R.slots)
    (kk : ∀ (ad' : Nat → Nat) (H1 : Heap), (∀ r', r' ≠ r → ad' r' = ad r') → zw_St Y N0 ad' (va_up sh r (some (.inr (ti, N', none)))) (va_up g r (fun _ => 0)) s H1 locs → W p l e R s m args below meth c H1 locs (cells + 1) (slots + N') Q (F0 m (pc + 2) ls (.ref (ad' r) :: rest))) : W p l e R s m args below meth c H locs cells slots Q (F0 m pc ls (.int n :: rest)) := by
  obtain ⟨hx, hb, -, hown, hts, ⟨hK, hE⟩, -, -⟩ := X
  obtain ⟨⟨L, hn, hL, hP, hD, hcl⟩, hS, h0⟩ := hW
  refine va_newa (a0 := (N', .inl (fun _ => 0))) hx hb (hts _ hw) hty hK hP hD hS (fun q hq => Nat.le_trans h0 hq) (fun cA => by rw [vp_cell_i, hdf]) hn0 hN hbytes hcells hslots hdg (fun q cA H1 hK1 hP1 hD1 hS1 => ?_)
  rw [zw_dA hK hK1 ht] at hP1 hD1
  have hk := kk (va_up ad r q) H1 (fun r' hr' => va_up_ne _ _ hr') ⟨zw_made (e' := .inr (ti, N', none)) hn hL hcl h (fun r' hr' => hr') hP1 hD1, hS1, h0⟩
  rwa [va_up_self] at hk
theorem zr_newq (X : zw_X p m meth c cc nL ret s args own Y) (hW : zw_St Y N0 ad sh g s H locs) {C : String} {index : Nat} (hw : Cond.classLink own index C ∈ zt_good) (hC : C ∈ zt_arr) {ti : Nat} (ht : (zw_tys Y.2)[ti]? = some (Y.2 ti, .object C)) (hdg : decode cc pc = .ok (.anewarray index, 3)) (r : Nat) (h : sh r = none) {n : Int32} {N' : Nat} (hn0 : ¬ n < 0) (hN : n.toNatClampNeg = N') (hbytes : N' * 4 ≤ 536870912) (hcells : cells + 1 ≤ R.cells) (hslots : slots + N' ≤ R.slots)
    (kk : ∀ (ad' : Nat → Nat) (H1 : Heap), (∀ r', r' ≠ r → ad' r' = ad r') → zw_St Y N0 ad' (va_up sh r (some (.inr (ti, N', some (fun _ => none))))) (va_up g r (fun _ => 0)) s H1 locs → W p l e R s m args below meth c H1 locs (cells + 1) (slots + N') Q (F0 m (pc + 3) ls (.ref (ad' r) :: rest))) : W p l e R s m args below meth c H locs cells slots Q (F0 m pc ls (.int n :: rest)) := by
  obtain ⟨hx, hb, -, hown, hts, ⟨hK, hE⟩, -, -⟩ := X
  obtain ⟨⟨L, hn, hL, hP, hD, hcl⟩, hS, h0⟩ := hW
  refine va_newq hx hb hown (hts _ hw) (hE.2.2.2.2.1 C hC) hK hP hD hS (fun q hq => Nat.le_trans h0 hq) hn0 hN hbytes hcells hslots hdg (fun q cA H1 hK1 hP1 hD1 hS1 => ?_)
  rw [zw_dA hK hK1 ht] at hP1 hD1
  have hk := kk (va_up ad r q) H1 (fun r' hr' => va_up_ne _ _ hr') ⟨zw_made (e' := .inr (ti, N', some (fun _ => none))) (x' := fun _ => 0) hn hL hcl h (fun r' hr' => by obtain ⟨i, hi⟩ := hr'; cases hi) hP1 hD1, hS1, h0⟩
  rwa [va_up_self] at hk
theorem zw_cell (hK : zw_K Y s) (hW : zw_St Y N0 ad sh g s H locs) {r ci : Nat} {ss : List (Option (Option Nat))} (h : sh r = some (.inl (ci, ss))) {q : vw_C} (hc : zw_cls[ci]? = some q) : ∃ cell : Cell, H[ad r]? = some cell ∧ cell.vm.isStatics = false ∧ s.vm.findClass q.1 = some cell.cls := by
  obtain ⟨⟨L, hn, hL, hP, hD, hcl⟩, hS, h0⟩ := hW
  obtain ⟨k, hq1, hq2⟩ := zw_at (Y := Y) (ad := ad) (g := g) hL h
  exact va_recv hK.1 hP hc hq2
theorem zr_cast (X : zw_X p m meth c cc nL ret s args own Y) (hW : zw_St Y N0 ad sh g s H locs) {index : Nat} {nm : String} (hw : Cond.classLink own index nm ∈ zt_good) (hdg : decode cc pc = .ok (.checkcast index, 3)) {r ci : Nat} {ss : List (Option (Option Nat))} (h : sh r = some (.inl (ci, ss))) {a : Nat} (ha : ad r = a) {q : vw_C} (hc : zw_cls[ci]? = some q) (hca : (q.1, nm) ∈ zt_cast)
    (kk : W p l e R s m args below meth c H locs cells slots Q (F0 m (pc + 3) ls (.ref a :: rest))) : W p l e R s m args below meth c H locs cells slots Q (F0 m pc ls (.ref a :: rest)) := by
  subst ha
  obtain ⟨hx, hb, -, hown, hts, hK, -, -⟩ := X
  exact va_castY hx hb hown (hts _ hw) (hK.2.1 _ hca) (zw_cell hK hW h hc) hdg kk
theorem zr_inst (X : zw_X p m meth c cc nL ret s args own Y) (hW : zw_St Y N0 ad sh g s H locs) {index : Nat} {nm : String} (hw : Cond.classLink own index nm ∈ zt_good) (hdg : decode cc pc = .ok (.instanceof index, 3)) {r ci : Nat} {ss : List (Option (Option Nat))} (h : sh r = some (.inl (ci, ss))) {a : Nat} (ha : ad r = a) {q : vw_C} (hc : zw_cls[ci]? = some q) (hca : (q.1, nm) ∈ zt_cast)
    (kk : W p l e R s m args below meth c H locs cells slots Q (F0 m (pc + 3) ls (.int 1 :: rest))) : W p l e R s m args below meth c H locs cells slots Q (F0 m pc ls (.ref a :: rest)) := by
  subst ha
  obtain ⟨hx, hb, -, hown, hts, hK, -, -⟩ := X
  exact va_instY hx hb hown (hts _ hw) (hK.2.1 _ hca) (zw_cell hK hW h hc) hdg kk
theorem zr_instNo (X : zw_X p m meth c cc nL ret s args own Y) (hW : zw_St Y N0 ad sh g s H locs) {index : Nat} {nm : String} (hw : Cond.classLink own index nm ∈ zt_good) (hdg : decode cc pc = .ok (.instanceof index, 3)) {r ci : Nat} {ss : List (Option (Option Nat))} (h : sh r = some (.inl (ci, ss))) {a : Nat} (ha : ad r = a) {q : vw_C} (hc : zw_cls[ci]? = some q) (hca : (q.1, nm) ∈ zt_nc)
    (kk : W p l e R s m args below meth c H locs cells slots Q (F0 m (pc + 3) ls (.int 0 :: rest))) : W p l e R s m args below meth c H locs cells slots Q (F0 m pc ls (.ref a :: rest)) := by
  subst ha
  obtain ⟨hx, hb, -, hown, hts, hK, -, -⟩ := X
  exact va_instNo hx hb hown (hts _ hw) (hK.2.2.2.2.1 _ hca) (zw_cell hK hW h hc) hdg kk
end ZR
/-! contracts -/
abbrev zw_Po : Type := Option Value → (Nat → Nat) → (Nat → Option zw_Sh) → (Nat → Nat → Int32) → Prop
def zw_Q (Y : zw_Y) (N0 : Nat) (post : zw_Po) : Array Value → State → Outcome → State → Prop := fun _ st oc t => ∃ (v : Option Value) (ad' : Nat → Nat) (sh' : Nat → Option zw_Sh) (g' : Nat → Nat → Int32), oc = .returned v ∧ post v ad' sh' g' ∧ zw_ok Y N0 ad' sh' g' t.heap ∧ va_F (fun q => N0 ≤ q) st t
def zw_Pc (Y : zw_Y) (N0 : Nat) (ad : Nat → Nat) (sh : Nat → Option zw_Sh) (g : Nat → Nat → Int32) (As : List Value) : Array Value → State → Prop := va_Pc As (fun U => zw_K Y U ∧ zw_ok Y N0 ad sh g U.heap ∧ N0 ≤ U.heap.size)
/-- the contract of a method at a world: d frames, lc locals' words below it, mc cells of ms slots made at most -/
def zw_Met (l : Launch) (Y : zw_Y) (N0 : Nat) (y : MethodName) (bytes : ByteArray) (maxL : Nat) (ret : Option FieldType) (d lc mc ms : Nat) (ad : Nat → Nat) (sh : Nat → Option zw_Sh) (g : Nat → Nat → Int32) (As : List Value) (post : zw_Po) : Prop :=
  Met l y (Cond.code y bytes maxL ret :: zt_good) { frames := d, cells := mc, slots := ms, locals := lc } (zw_Pc Y N0 ad sh g As) (zw_Q Y N0 post) mc ms (fun q => N0 ≤ q)
theorem zw_blind {Y : zw_Y} {N0 : Nat} {ad : Nat → Nat} {sh : Nat → Option zw_Sh} {g : Nat → Nat → Int32} {As : List Value} : FrameBlind (zw_Pc Y N0 ad sh g As) := fun a U f mk q => ⟨q.1, q.2.1.same rfl, q.2.2⟩
theorem zw_meth {l : Launch} {Y : zw_Y} {N0 : Nat} {y : MethodName} {bytes : ByteArray} {maxL : Nat} {ret : Option FieldType} {d lc mc ms : Nat} {ad : Nat → Nat} {sh : Nat → Option zw_Sh} {g : Nat → Nat → Int32} {As : List Value} {post : zw_Po} (hy : plainName y.cls = true) (hle : (lg_sl As).length ≤ maxL)
    (body : ∀ (p : Program) (e : Env) (s : State) (m : MethodId) (below : List Frame) (meth : Method) (c : Code) (ls : Array Slot), zw_X p m meth c bytes maxL ret s As.toArray y.cls Y → meth.name = y.name → lv_has ls maxL (lv_args 0 As) → zw_St Y N0 ad sh g s s.heap [] →
      W p l e { frames := d, cells := mc, slots := ms, locals := lc } s m As.toArray below meth c s.heap [] 0 0 (MQ below (zw_Q Y N0 post) As.toArray s mc ms (fun q => N0 ≤ q)) (F0 m 0 ls [])) : zw_Met l Y N0 y bytes maxL ret d lc mc ms ad sh g As post := by
  refine Met.ofW (cc := bytes) (maxL := maxL) (ret := ret) hy rfl ?_
  intro p e s m args below meth c s₁ B hml hv
  obtain ⟨rfl, hK, hok, h0⟩ := hv
  have hts := atoms_spec (ws := Cond.code y bytes maxL ret :: zt_good) B.pre
  have hl := lv_entry As (n := maxL) hle
  rw [lg_entry_eq]
  exact body p e s m below meth c _ ⟨B.exec, B.bytes, hml, findClass_of_methodNamed B.named, fun w hw => hts w (List.mem_cons_of_mem _ hw), hK, B.returns, B.notSynchronized⟩ (name_of_methodNamed B.named B.method).1 hl ⟨hok, va_S.rf, h0⟩
section ZC
variable {p : Program} {l : Launch} {e : Env} {R : Room} {s : State} {m : MethodId} {args : Array Value} {below : List Frame} {meth : Method} {c : Code} {H : Heap} {locs : List Loc} {cells slots : Nat} {Q : State → Prop}
variable {cc : ByteArray} {pc nL : Nat} {ret : Option FieldType} {ls : Array Slot} {rest st0 : List Value} {Y : zw_Y} {N0 : Nat} {ad : Nat → Nat} {sh : Nat → Option zw_Sh} {g : Nat → Nat → Int32} {own : String}
theorem zr_iret {mc ms : Nat} {post : zw_Po} (X : zw_X p m meth c cc nL (some .int) s args own Y) (hW : zw_St Y N0 ad sh g s H locs) (hdg : decode cc pc = .ok (.ireturn, 1)) (hc : cells ≤ mc) (hs : slots ≤ ms) {v : Int32} (hp : post (some (.int v)) ad sh g) : W p l e R s m args below meth c H locs cells slots (MQ below (zw_Q Y N0 post) args s mc ms (fun q => N0 ≤ q)) (F0 m pc ls [.int v]) := by
  obtain ⟨hx, hb, -, -, -, -, hr, hlk⟩ := X
  refine W.widen hc hs ?_
  exact W.iret hx hb hr (fun t ht hw => ⟨_, ad, sh, g, rfl, hp, by rw [ht]; exact hW.1, hW.2.1.F ht⟩) hW.2.1.2.2 hdg
theorem zr_zret {mc ms : Nat} {post : zw_Po} (X : zw_X p m meth c cc nL (some .boolean) s args own Y) (hW : zw_St Y N0 ad sh g s H locs) (hdg : decode cc pc = .ok (.ireturn, 1)) (hc : cells ≤ mc) (hs : slots ≤ ms) {v : Int32} (hn : narrow .boolean (.int v) = .int v) (hp : post (some (.int v)) ad sh g) : W p l e R s m args below meth c H locs cells slots (MQ below (zw_Q Y N0 post) args s mc ms (fun q => N0 ≤ q)) (F0 m pc ls [.int v]) := by
  obtain ⟨hx, hb, -, -, -, -, hr, hlk⟩ := X
  refine W.widen hc hs ?_
  exact W.zret hx hb hr hn (fun t ht hw => ⟨_, ad, sh, g, rfl, hp, by rw [ht]; exact hW.1, hW.2.1.F ht⟩) hW.2.1.2.2 hdg
theorem zr_vret {mc ms : Nat} {post : zw_Po} (X : zw_X p m meth c cc nL none s args own Y) (hW : zw_St Y N0 ad sh g s H locs) (hdg : decode cc pc = .ok (.return_, 1)) (hc : cells ≤ mc) (hs : slots ≤ ms) (hp : post none ad sh g) : W p l e R s m args below meth c H locs cells slots (MQ below (zw_Q Y N0 post) args s mc ms (fun q => N0 ≤ q)) (F0 m pc ls []) := by
  obtain ⟨hx, hb, -, -, -, -, hr, hlk⟩ := X
  refine W.widen hc hs ?_
  exact W.vret hx hb hr (fun t ht hw => ⟨_, ad, sh, g, rfl, hp, by rw [ht]; exact hW.1, hW.2.1.F ht⟩) hW.2.1.2.2 hdg
theorem zr_aret {mc ms : Nat} {post : zw_Po} {C : String} (X : zw_X p m meth c cc nL (some (.object C)) s args own Y) (hW : zw_St Y N0 ad sh g s H locs) (hdg : decode cc pc = .ok (.areturn, 1)) (hc : cells ≤ mc) (hs : slots ≤ ms) {v : Value} (hv : v = .null ∨ ∃ a, v = .ref a) (hp : post (some v) ad sh g) : W p l e R s m args below meth c H locs cells slots (MQ below (zw_Q Y N0 post) args s mc ms (fun q => N0 ≤ q)) (F0 m pc ls [v]) := by
  obtain ⟨hx, hb, -, -, -, -, hr, hlk⟩ := X
  refine W.widen hc hs ?_
  exact W.aret hx hb hr (Or.inl ⟨C, rfl⟩) hv (fun t ht hw => ⟨_, ad, sh, g, rfl, hp, by rw [ht]; exact hW.1, hW.2.1.F ht⟩) hW.2.1.2.2 hdg
theorem zr_run {mc ms : Nat} {post : zw_Po} {a : Array Value} (hW : zw_St Y N0 ad sh g s H locs) (hr : va_Run p l e R s m args below meth c H locs cells slots mc ms (F0 m pc ls st0) rest (zw_Q Y N0 post a) (fun q => N0 ≤ q))
    (kk : ∀ (v : Option Value) (ad' : Nat → Nat) (sh' : Nat → Option zw_Sh) (g' : Nat → Nat → Int32) (H1 : Heap) (locs1 : List Loc), post v ad' sh' g' → zw_St Y N0 ad' sh' g' s H1 locs1 → W p l e R s m args below meth c H1 locs1 (cells + mc) (slots + ms) Q (F0 m (pc + 3) ls (v.toList ++ rest))) : W p l e R s m args below meth c H locs cells slots Q (F0 m pc ls st0) := by
  obtain ⟨hok, hS, h0⟩ := hW
  intro T hT X
  obtain ⟨v, st₀, t, T', L, e0, X', hL, e1, e2, ⟨v', ad', sh', g', hv, hp, hb, hz, hk⟩, st⟩ := hr T hT X
  cases hv
  rw [e0] at hz hk
  obtain ⟨t2, a1, b1⟩ := kk v ad' sh' g' T'.heap (locs ++ L) hp ⟨by rw [e1]; exact hb, ⟨Nat.le_trans hS.1 (by rw [e1]; exact hz), fun q h1 h2 => by rw [e1, hk q (Nat.lt_of_lt_of_le h1 hS.1) h2]; exact hS.2.1 q h1 h2, fun q hq => by
      rcases List.mem_append.mp hq with h | h
      · exact hS.2.2 q h
      · exact hL q h⟩, h0⟩ T' rfl X'
  exact ⟨t2, st t2 a1, b1⟩
/-- what the tables say of a method -/
def zw_MD (y : MethodName) (bytes : ByteArray) (maxL : Nat) (rt : Option FieldType) (n : Nat) : Prop := Cond.code y bytes maxL rt ∈ zt_good ∧ Cond.initialized y.cls ∈ zt_good ∧ (y.cls ≠ "java/lang/invoke/MethodHandle" ∧ y.cls ≠ "java/lang/invoke/VarHandle" ∧ (parseMethodDescriptor y.desc).map (fun d => d.parameters.length) = some n)
theorem zr_callV {y : MethodName} {bytes : ByteArray} {maxL : Nat} {rt : Option FieldType} {d lc mc ms n index : Nat} {post : zw_Po} {As : List Value} {r ci : Nat} {ss : List (Option (Option Nat))} {q : vw_C} (X : zw_X p m meth c cc nL ret s args own Y) (hW : zw_St Y N0 ad sh g s H locs) (hl : ls.size = nL) (D : zw_MD y bytes maxL rt n) (hw : Cond.methodLink own index y ∈ zt_good ∧ Cond.instanceMethod y ∈ zt_good ∧ Cond.selects y.cls y y ∈ zt_good) (hdg : decode cc pc = .ok (.invokevirtual index, 3)) (h : sh r = some (.inl (ci, ss))) (hc : zw_cls[ci]? = some q) (hqc : q.1 = y.cls) (hn : As.length = n) (hst : st0 = As.reverse ++ .ref (ad r) :: rest) (hrm : (rest.map fun v => v.category).sum ≤ 8) (hfr : d + 1 ≤ R.frames ∧ 8 + (maxL + 11) + lc ≤ R.locals) (hf : cells + mc ≤ R.cells ∧ slots + ms ≤ R.slots)
    (hM : zw_Met l Y N0 y bytes maxL rt d lc mc ms ad sh g (.ref (ad r) :: As) post)
    (kk : ∀ (v : Option Value) (ad' : Nat → Nat) (sh' : Nat → Option zw_Sh) (g' : Nat → Nat → Int32) (H1 : Heap) (locs1 : List Loc), post v ad' sh' g' → zw_St Y N0 ad' sh' g' s H1 locs1 → W p l e R s m args below meth c H1 locs1 (cells + mc) (slots + ms) Q (F0 m (pc + 3) ls (v.toList ++ rest))) : W p l e R s m args below meth c H locs cells slots Q (F0 m pc ls st0) := by
  obtain ⟨hx, hb, hml, hown, hts, hK, -, -⟩ := X
  have hrecv := zw_cell hK hW h hc
  rw [hqc] at hrecv
  subst hst
  refine zr_run hW (va_runV (As := As) (rest := rest) (C := y.cls) ⟨hx, hb, hml, hown, hts⟩ hM (cwV n hts (zt_code (ws := [.methodLink own index y, .instanceMethod y, .selects y.cls y y, .initialized y.cls]) D.1 ?_) rfl rfl rfl ⟨rfl, D.2.2⟩ hfr) ⟨zw_blind, hrecv, fun U hU hw9 => ⟨rfl, hK.warm hw9, by rw [hU]; exact hW.1, by rw [hU]; exact Nat.le_trans hW.2.2 hW.2.1.1⟩⟩ rfl hn hl rfl (lv_room hrm) hdg hf) kk
  intro w hw9
  simp only [List.mem_cons, List.not_mem_nil, or_false] at hw9
  rcases hw9 with rfl | rfl | rfl | rfl
  · exact hw.1
  · exact hw.2.1
  · exact hw.2.2
  · exact D.2.1
theorem zr_callS {y : MethodName} {bytes : ByteArray} {maxL : Nat} {rt : Option FieldType} {d lc mc ms n index : Nat} {post : zw_Po} {As : List Value} (X : zw_X p m meth c cc nL ret s args own Y) (hW : zw_St Y N0 ad sh g s H locs) (hl : ls.size = nL) (D : zw_MD y bytes maxL rt n) (hw : Cond.methodLink own index y ∈ zt_good ∧ Cond.static y ∈ zt_good) (hdg : decode cc pc = .ok (.invokestatic index, 3)) (hn : As.length = n) (hst : st0 = As.reverse ++ rest) (hrm : (rest.map fun v => v.category).sum ≤ 8) (hfr : d + 1 ≤ R.frames ∧ 8 + (maxL + 11) + lc ≤ R.locals) (hf : cells + mc ≤ R.cells ∧ slots + ms ≤ R.slots)
    (hM : zw_Met l Y N0 y bytes maxL rt d lc mc ms ad sh g As post)
    (kk : ∀ (v : Option Value) (ad' : Nat → Nat) (sh' : Nat → Option zw_Sh) (g' : Nat → Nat → Int32) (H1 : Heap) (locs1 : List Loc), post v ad' sh' g' → zw_St Y N0 ad' sh' g' s H1 locs1 → W p l e R s m args below meth c H1 locs1 (cells + mc) (slots + ms) Q (F0 m (pc + 3) ls (v.toList ++ rest))) : W p l e R s m args below meth c H locs cells slots Q (F0 m pc ls st0) := by
  obtain ⟨hx, hb, hml, hown, hts, hK, -, -⟩ := X
  subst hst
  refine zr_run hW (va_runS (As := As) (rest := rest) ⟨hx, hb, hml, hown, hts⟩ hM (va_cwS n hts (zt_code (ws := [.methodLink own index y, .static y, .initialized y.cls]) D.1 ?_) rfl rfl rfl D.2.2 hfr) ⟨zw_blind, fun U hU hw9 => ⟨rfl, hK.warm hw9, by rw [hU]; exact hW.1, by rw [hU]; exact Nat.le_trans hW.2.2 hW.2.1.1⟩⟩ rfl hn hl rfl (lv_room hrm) hdg hf) kk
  intro w hw9
  simp only [List.mem_cons, List.not_mem_nil, or_false] at hw9
  rcases hw9 with rfl | rfl | rfl
  · exact hw.1
  · exact hw.2
  · exact D.2.1
theorem zr_callSN {y : MethodName} {host : String} {bytes : ByteArray} {maxL : Nat} {rt : Option FieldType} {d lc mc ms n index : Nat} {post : zw_Po} {As : List Value} (X : zw_X p m meth c cc nL ret s args own Y) (hW : zw_St Y N0 ad sh g s H locs) (hl : ls.size = nL) (D : zw_MD y bytes maxL rt n) (hw : (own, index, y, host) ∈ zt_nest ∧ Cond.static y ∈ zt_good) (hdg : decode cc pc = .ok (.invokestatic index, 3)) (hn : As.length = n) (hst : st0 = As.reverse ++ rest) (hrm : (rest.map fun v => v.category).sum ≤ 8) (hfr : d + 1 ≤ R.frames ∧ 8 + (maxL + 11) + lc ≤ R.locals) (hf : cells + mc ≤ R.cells ∧ slots + ms ≤ R.slots)
    (hM : zw_Met l Y N0 y bytes maxL rt d lc mc ms ad sh g As post)
    (kk : ∀ (v : Option Value) (ad' : Nat → Nat) (sh' : Nat → Option zw_Sh) (g' : Nat → Nat → Int32) (H1 : Heap) (locs1 : List Loc), post v ad' sh' g' → zw_St Y N0 ad' sh' g' s H1 locs1 → W p l e R s m args below meth c H1 locs1 (cells + mc) (slots + ms) Q (F0 m (pc + 3) ls (v.toList ++ rest))) : W p l e R s m args below meth c H locs cells slots Q (F0 m pc ls st0) := by
  obtain ⟨hx, hb, hml, hown, hts, hK, -, -⟩ := X
  subst hst
  exact zr_run hW (va_runSN (As := As) (rest := rest) ⟨hx, hb, hml, hown, hts⟩ hM ⟨va_cnB n hts (zt_code (ws := []) D.1 (fun w h => by cases h)) rfl rfl rfl (hK.2.2.1 _ hw.1) (hts _ D.2.1) D.2.2 hfr, hts _ hw.2, trivial⟩ ⟨zw_blind, fun U hU hw9 => ⟨rfl, hK.warm hw9, by rw [hU]; exact hW.1, by rw [hU]; exact Nat.le_trans hW.2.2 hW.2.1.1⟩⟩ rfl hn hl rfl (lv_room hrm) hdg hf) kk
theorem zr_callI {y : MethodName} {bytes : ByteArray} {maxL : Nat} {d lc mc ms n index b : Nat} {post : zw_Po} {As : List Value} (X : zw_X p m meth c cc nL ret s args own Y) (hW : zw_St Y N0 ad sh g s H locs) (hl : ls.size = nL) (D : zw_MD y bytes maxL none n) (hw : Cond.methodLink own index y ∈ zt_good ∧ Cond.instanceMethod y ∈ zt_good) (hy1 : y.name = "<init>") (hdg : decode cc pc = .ok (.invokespecial index, 3)) (hn : As.length = n) (hst : st0 = As.reverse ++ .ref b :: rest) (hrm : (rest.map fun v => v.category).sum ≤ 8) (hfr : d + 1 ≤ R.frames ∧ 8 + (maxL + 11) + lc ≤ R.locals) (hf : cells + mc ≤ R.cells ∧ slots + ms ≤ R.slots)
    (hM : zw_Met l Y N0 y bytes maxL none d lc mc ms ad sh g (.ref b :: As) post)
    (kk : ∀ (v : Option Value) (ad' : Nat → Nat) (sh' : Nat → Option zw_Sh) (g' : Nat → Nat → Int32) (H1 : Heap) (locs1 : List Loc), post v ad' sh' g' → zw_St Y N0 ad' sh' g' s H1 locs1 → W p l e R s m args below meth c H1 locs1 (cells + mc) (slots + ms) Q (F0 m (pc + 3) ls (v.toList ++ rest))) : W p l e R s m args below meth c H locs cells slots Q (F0 m pc ls st0) := by
  obtain ⟨hx, hb, hml, hown, hts, hK, -, -⟩ := X
  subst hst
  exact zr_run hW (va_runI (As := As) (rest := rest) ⟨hx, hb, hml, hown, hts⟩ hM (cwI n hts (zt_code (ws := []) D.1 (fun w h => by cases h)) rfl rfl rfl (hts _ D.2.1) (hts _ hw.1) (hts _ hw.2) hy1 D.2.2 hfr) ⟨zw_blind, fun U hU hw9 => ⟨rfl, hK.warm hw9, by rw [hU]; exact hW.1, by rw [hU]; exact Nat.le_trans hW.2.2 hW.2.1.1⟩⟩ rfl hn hl rfl (lv_room hrm) hdg hf) kk
theorem zr_callIN {y : MethodName} {host : String} {bytes : ByteArray} {maxL : Nat} {d lc mc ms n index b : Nat} {post : zw_Po} {As : List Value} (X : zw_X p m meth c cc nL ret s args own Y) (hW : zw_St Y N0 ad sh g s H locs) (hl : ls.size = nL) (D : zw_MD y bytes maxL none n) (hw : (own, index, y, host) ∈ zt_nest ∧ Cond.instanceMethod y ∈ zt_good) (hy1 : y.name = "<init>") (hdg : decode cc pc = .ok (.invokespecial index, 3)) (hn : As.length = n) (hst : st0 = As.reverse ++ .ref b :: rest) (hrm : (rest.map fun v => v.category).sum ≤ 8) (hfr : d + 1 ≤ R.frames ∧ 8 + (maxL + 11) + lc ≤ R.locals) (hf : cells + mc ≤ R.cells ∧ slots + ms ≤ R.slots)
    (hM : zw_Met l Y N0 y bytes maxL none d lc mc ms ad sh g (.ref b :: As) post)
    (kk : ∀ (v : Option Value) (ad' : Nat → Nat) (sh' : Nat → Option zw_Sh) (g' : Nat → Nat → Int32) (H1 : Heap) (locs1 : List Loc), post v ad' sh' g' → zw_St Y N0 ad' sh' g' s H1 locs1 → W p l e R s m args below meth c H1 locs1 (cells + mc) (slots + ms) Q (F0 m (pc + 3) ls (v.toList ++ rest))) : W p l e R s m args below meth c H locs cells slots Q (F0 m pc ls st0) := by
  obtain ⟨hx, hb, hml, hown, hts, hK, -, -⟩ := X
  subst hst
  exact zr_run hW (va_runIN (As := As) (rest := rest) ⟨hx, hb, hml, hown, hts⟩ hM ⟨va_cnB n hts (zt_code (ws := []) D.1 (fun w h => by cases h)) rfl rfl rfl (hK.2.2.1 _ hw.1) (hts _ D.2.1) D.2.2 hfr, hy1, hts _ hw.2⟩ ⟨zw_blind, fun U hU hw9 => ⟨rfl, hK.warm hw9, by rw [hU]; exact hW.1, by rw [hU]; exact Nat.le_trans hW.2.2 hW.2.1.1⟩⟩ rfl hn hl rfl (lv_room hrm) hdg hf) kk
theorem zr_objI {index b : Nat} (X : zw_X p m meth c cc nL ret s args own Y) (hl : ls.size = nL) (hw : Cond.methodLink own index objectInit ∈ zt_good ∧ Cond.instanceMethod objectInit ∈ zt_good ∧ Cond.code objectInit ⟨#[0xb1]⟩ 1 none ∈ zt_good) (hdg : decode cc pc = .ok (.invokespecial index, 3)) (hfr : 1 ≤ R.frames) (hlo : 20 ≤ R.locals) (hrm : (rest.map fun v => v.category).sum ≤ 8)
    (kk : W p l e R s m args below meth c H locs cells slots Q (F0 m (pc + 3) ls rest)) : W p l e R s m args below meth c H locs cells slots Q (F0 m pc ls (.ref b :: rest)) := by
  obtain ⟨hx, hb, hml, hown, hts, hK, -, -⟩ := X
  refine W.objInit hx hb hown (hts _ hw.1) (hts _ hw.2.1) (hts _ hw.2.2) rfl (by rw [hml]; exact hl) rfl hdg hfr ?_ kk
  have := lv_room (m := m) (pc := pc) (ls := ls) (rest := .ref b :: rest) hrm
  omega
end ZC
end
section
theorem zt_t1 {w : Cond} (i : Nat) (h : tables_1_1[i]? = some w) : w ∈ lw_tbl := List.mem_append_right _ (List.mem_append_left _ (List.mem_of_getElem? h))
theorem zt_t2 {w : Cond} (i : Nat) (h : tables_1_2[i]? = some w) : w ∈ lw_tbl := List.mem_append_right _ (List.mem_append_right _ (List.mem_append_left _ (List.mem_of_getElem? h)))
theorem zt_t3 {w : Cond} (i : Nat) (h : tables_1_3[i]? = some w) : w ∈ lw_tbl := List.mem_append_right _ (List.mem_append_right _ (List.mem_append_right _ (List.mem_append_left _ (List.mem_of_getElem? h))))
theorem zt_t4 {w : Cond} (i : Nat) (h : tables_1_4[i]? = some w) : w ∈ lw_tbl := List.mem_append_right _ (List.mem_append_right _ (List.mem_append_right _ (List.mem_append_right _ (List.mem_of_getElem? h))))
theorem zt_t0 {w : Cond} (i : Nat) (h : (k2_sels lw_privs)[i]? = some w) : w ∈ lw_tbl := List.mem_append_left _ (List.mem_of_getElem? h)
theorem cs_X0 : zw_CS 0 RX0 TX0 3 tyX0 := by
  refine ⟨rfl, ?_, tyX0_ok, nmX0⟩
  intro w hw
  obtain ⟨j, hj, rfl⟩ := List.mem_map.mp hw
  have hj := List.mem_range.mp hj
  match j, hj with
  | 0, _ => exact (zt_in (zt_t1 35 rfl) rfl)
  | 1, _ => exact (zt_in (zt_t1 37 rfl) rfl)
  | 2, _ => exact (zt_in (zt_t1 39 rfl) rfl)
  | j + 3, h => exact absurd h (by omega)
theorem cs_X1 : zw_CS 1 RX1 TX1 5 tyX1 := by
  refine ⟨rfl, ?_, tyX1_ok, nmX1⟩
  intro w hw
  obtain ⟨j, hj, rfl⟩ := List.mem_map.mp hw
  have hj := List.mem_range.mp hj
  match j, hj with
  | 0, _ => exact (zt_in (zt_t2 75 rfl) rfl)
  | 1, _ => exact (zt_in (zt_t2 67 rfl) rfl)
  | 2, _ => exact (zt_in (zt_t2 69 rfl) rfl)
  | 3, _ => exact (zt_in (zt_t2 71 rfl) rfl)
  | 4, _ => exact (zt_in (zt_t2 73 rfl) rfl)
  | j + 5, h => exact absurd h (by omega)
theorem cs_X2 : zw_CS 2 RX2 TX2 4 tyX2 := by
  refine ⟨rfl, ?_, tyX2_ok, nmX2⟩
  intro w hw
  obtain ⟨j, hj, rfl⟩ := List.mem_map.mp hw
  have hj := List.mem_range.mp hj
  match j, hj with
  | 0, _ => exact (zt_in (zt_t1 60 rfl) rfl)
  | 1, _ => exact (zt_in (zt_t1 62 rfl) rfl)
  | 2, _ => exact (zt_in (zt_t1 64 rfl) rfl)
  | 3, _ => exact (zt_in (zt_t1 66 rfl) rfl)
  | j + 4, h => exact absurd h (by omega)
theorem cs_X3 : zw_CS 3 RX3 TX3 3 tyX3 := by
  refine ⟨rfl, ?_, tyX3_ok, nmX3⟩
  intro w hw
  obtain ⟨j, hj, rfl⟩ := List.mem_map.mp hw
  have hj := List.mem_range.mp hj
  match j, hj with
  | 0, _ => exact (zt_in (zt_t2 47 rfl) rfl)
  | 1, _ => exact (zt_in (zt_t2 49 rfl) rfl)
  | 2, _ => exact (zt_in (zt_t2 51 rfl) rfl)
  | j + 3, h => exact absurd h (by omega)
theorem cs_X4 : zw_CS 4 RX4 TX4 5 tyX4 := by
  refine ⟨rfl, ?_, tyX4_ok, nmX4⟩
  intro w hw
  obtain ⟨j, hj, rfl⟩ := List.mem_map.mp hw
  have hj := List.mem_range.mp hj
  match j, hj with
  | 0, _ => exact (zt_in (zt_t2 185 rfl) rfl)
  | 1, _ => exact (zt_in (zt_t2 177 rfl) rfl)
  | 2, _ => exact (zt_in (zt_t2 179 rfl) rfl)
  | 3, _ => exact (zt_in (zt_t2 181 rfl) rfl)
  | 4, _ => exact (zt_in (zt_t2 183 rfl) rfl)
  | j + 5, h => exact absurd h (by omega)
theorem cs_X5 : zw_CS 5 RX5 TX5 3 tyX5 := by
  refine ⟨rfl, ?_, tyX5_ok, nmX5⟩
  intro w hw
  obtain ⟨j, hj, rfl⟩ := List.mem_map.mp hw
  have hj := List.mem_range.mp hj
  match j, hj with
  | 0, _ => exact (zt_in (zt_t2 11 rfl) rfl)
  | 1, _ => exact (zt_in (zt_t2 7 rfl) rfl)
  | 2, _ => exact (zt_in (zt_t2 9 rfl) rfl)
  | j + 3, h => exact absurd h (by omega)
theorem cs_X7 : zw_CS 6 RX7 TX7 6 tyX7 := by
  refine ⟨rfl, ?_, tyX7_ok, nmX7⟩
  intro w hw
  obtain ⟨j, hj, rfl⟩ := List.mem_map.mp hw
  have hj := List.mem_range.mp hj
  match j, hj with
  | 0, _ => exact (zt_in (zt_t2 163 rfl) rfl)
  | 1, _ => exact (zt_in (zt_t2 153 rfl) rfl)
  | 2, _ => exact (zt_in (zt_t2 155 rfl) rfl)
  | 3, _ => exact (zt_in (zt_t2 157 rfl) rfl)
  | 4, _ => exact (zt_in (zt_t2 159 rfl) rfl)
  | 5, _ => exact (zt_in (zt_t2 161 rfl) rfl)
  | j + 6, h => exact absurd h (by omega)
theorem cs_X8 : zw_CS 7 RX8 TX8 6 tyX8 := by
  refine ⟨rfl, ?_, tyX8_ok, nmX8⟩
  intro w hw
  obtain ⟨j, hj, rfl⟩ := List.mem_map.mp hw
  have hj := List.mem_range.mp hj
  match j, hj with
  | 0, _ => exact (zt_in (zt_t1 93 rfl) rfl)
  | 1, _ => exact (zt_in (zt_t1 95 rfl) rfl)
  | 2, _ => exact (zt_in (zt_t1 97 rfl) rfl)
  | 3, _ => exact (zt_in (zt_t1 99 rfl) rfl)
  | 4, _ => exact (zt_in (zt_t1 101 rfl) rfl)
  | 5, _ => exact (zt_in (zt_t1 103 rfl) rfl)
  | j + 6, h => exact absurd h (by omega)
theorem cs_X9 : zw_CS 8 RX9 TX9 12 tyX9 := by
  refine ⟨rfl, ?_, tyX9_ok, nmX9⟩
  intro w hw
  obtain ⟨j, hj, rfl⟩ := List.mem_map.mp hw
  have hj := List.mem_range.mp hj
  match j, hj with
  | 0, _ => exact (zt_in (zt_t1 119 rfl) rfl)
  | 1, _ => exact (zt_in (zt_t1 121 rfl) rfl)
  | 2, _ => exact (zt_in (zt_t1 123 rfl) rfl)
  | 3, _ => exact (zt_in (zt_t1 125 rfl) rfl)
  | 4, _ => exact (zt_in (zt_t1 127 rfl) rfl)
  | 5, _ => exact (zt_in (zt_t1 129 rfl) rfl)
  | 6, _ => exact (zt_in (zt_t1 131 rfl) rfl)
  | 7, _ => exact (zt_in (zt_t1 133 rfl) rfl)
  | 8, _ => exact (zt_in (zt_t1 135 rfl) rfl)
  | 9, _ => exact (zt_in (zt_t1 137 rfl) rfl)
  | 10, _ => exact (zt_in (zt_t1 139 rfl) rfl)
  | 11, _ => exact (zt_in (zt_t1 141 rfl) rfl)
  | j + 12, h => exact absurd h (by omega)
theorem cs_X10 : zw_CS 9 RX10 TX10 30 tyX10 := by
  refine ⟨rfl, ?_, tyX10_ok, nmX10⟩
  intro w hw
  obtain ⟨j, hj, rfl⟩ := List.mem_map.mp hw
  have hj := List.mem_range.mp hj
  match j, hj with
  | 0, _ => exact (zt_in (zt_t3 121 rfl) rfl)
  | 1, _ => exact (zt_in (zt_t3 123 rfl) rfl)
  | 2, _ => exact (zt_in (zt_t3 125 rfl) rfl)
  | 3, _ => exact (zt_in (zt_t3 127 rfl) rfl)
  | 4, _ => exact (zt_in (zt_t3 129 rfl) rfl)
  | 5, _ => exact (zt_in (zt_t3 131 rfl) rfl)
  | 6, _ => exact (zt_in (zt_t3 133 rfl) rfl)
  | 7, _ => exact (zt_in (zt_t3 135 rfl) rfl)
  | 8, _ => exact (zt_in (zt_t3 137 rfl) rfl)
  | 9, _ => exact (zt_in (zt_t3 139 rfl) rfl)
  | 10, _ => exact (zt_in (zt_t3 141 rfl) rfl)
  | 11, _ => exact (zt_in (zt_t3 143 rfl) rfl)
  | 12, _ => exact (zt_in (zt_t3 145 rfl) rfl)
  | 13, _ => exact (zt_in (zt_t3 147 rfl) rfl)
  | 14, _ => exact (zt_in (zt_t3 149 rfl) rfl)
  | 15, _ => exact (zt_in (zt_t3 151 rfl) rfl)
  | 16, _ => exact (zt_in (zt_t3 153 rfl) rfl)
  | 17, _ => exact (zt_in (zt_t3 155 rfl) rfl)
  | 18, _ => exact (zt_in (zt_t3 157 rfl) rfl)
  | 19, _ => exact (zt_in (zt_t3 159 rfl) rfl)
  | 20, _ => exact (zt_in (zt_t3 161 rfl) rfl)
  | 21, _ => exact (zt_in (zt_t3 163 rfl) rfl)
  | 22, _ => exact (zt_in (zt_t3 165 rfl) rfl)
  | 23, _ => exact (zt_in (zt_t3 167 rfl) rfl)
  | 24, _ => exact (zt_in (zt_t3 169 rfl) rfl)
  | 25, _ => exact (zt_in (zt_t3 171 rfl) rfl)
  | 26, _ => exact (zt_in (zt_t3 173 rfl) rfl)
  | 27, _ => exact (zt_in (zt_t3 175 rfl) rfl)
  | 28, _ => exact (zt_in (zt_t3 177 rfl) rfl)
  | 29, _ => exact (zt_in (zt_t3 179 rfl) rfl)
  | j + 30, h => exact absurd h (by omega)
theorem fs_X0_9_0 : zw_FS RX0 9 0 0 2 (.array .int) := ⟨RX0, TX0, 3, tyX0, "TicketRealm$Book", cs_X0, by decide, rfl, fun h => absurd h (by decide), (zt_in (zt_t1 29 rfl) rfl), Or.inl rfl, fun _ => ⟨rfl, rfl⟩⟩
theorem fs_X0_15_0 : zw_FS RX0 15 0 1 2 (.array .int) := ⟨RX0, TX0, 3, tyX0, "TicketRealm$Book", cs_X0, by decide, rfl, fun h => absurd h (by decide), (zt_in (zt_t1 31 rfl) rfl), Or.inl rfl, fun _ => ⟨rfl, rfl⟩⟩
theorem fs_X0_20_0 : zw_FS RX0 20 0 2 2 (.array (.array .int)) := ⟨RX0, TX0, 3, tyX0, "TicketRealm$Book", cs_X0, by decide, rfl, fun h => absurd h (by decide), (zt_in (zt_t1 33 rfl) rfl), Or.inl rfl, fun _ => ⟨rfl, rfl⟩⟩
theorem fs_X0_30_3 : zw_FS RX0 30 3 1 0 (.int) := ⟨RX3, TX3, 3, tyX3, "TicketRealm$Order", cs_X3, by decide, rfl, fun h => absurd h (by decide), (zt_in (zt_t2 44 rfl) rfl), Or.inl rfl, fun h => absurd h (by decide)⟩
theorem fs_X0_36_3 : zw_FS RX0 36 3 0 0 (.int) := ⟨RX3, TX3, 3, tyX3, "TicketRealm$Order", cs_X3, by decide, rfl, fun h => absurd h (by decide), (zt_in (zt_t2 40 rfl) rfl), Or.inl rfl, fun h => absurd h (by decide)⟩
theorem fs_X1_9_1 : zw_FS RX1 9 1 1 2 (.int) := ⟨RX1, TX1, 5, tyX1, "TicketRealm$Claim", cs_X1, by decide, rfl, fun h => absurd h (by decide), (zt_in (zt_t2 58 rfl) rfl), Or.inl rfl, fun _ => ⟨rfl, rfl⟩⟩
theorem fs_X1_15_1 : zw_FS RX1 15 1 2 2 (.int) := ⟨RX1, TX1, 5, tyX1, "TicketRealm$Claim", cs_X1, by decide, rfl, fun h => absurd h (by decide), (zt_in (zt_t2 60 rfl) rfl), Or.inl rfl, fun _ => ⟨rfl, rfl⟩⟩
theorem fs_X1_18_1 : zw_FS RX1 18 1 3 2 (.int) := ⟨RX1, TX1, 5, tyX1, "TicketRealm$Claim", cs_X1, by decide, rfl, fun h => absurd h (by decide), (zt_in (zt_t2 63 rfl) rfl), Or.inl rfl, fun _ => ⟨rfl, rfl⟩⟩
theorem fs_X1_21_1 : zw_FS RX1 21 1 4 2 (.object "TicketRealm$Order") := ⟨RX1, TX1, 5, tyX1, "TicketRealm$Claim", cs_X1, by decide, rfl, fun h => absurd h (by decide), (zt_in (zt_t2 64 rfl) rfl), Or.inl rfl, fun _ => ⟨rfl, rfl⟩⟩
theorem fs_X1_25_1 : zw_FS RX1 25 1 0 0 (.int) := ⟨RX1, TX1, 5, tyX1, "TicketRealm$Claim", cs_X1, by decide, rfl, fun h => absurd h (by decide), (zt_in (zt_t2 4 rfl) rfl), Or.inr (zt_in (zt_t2 5 rfl) rfl), fun h => absurd h (by decide)⟩
theorem fs_X10_7_9 : zw_FS RX10 7 9 1 2 (.array .int) := ⟨RX10, TX10, 30, tyX10, "TicketRealmModel", cs_X10, by decide, rfl, fun h => absurd h (by decide), (zt_in (zt_t3 92 rfl) rfl), Or.inl rfl, fun _ => ⟨rfl, rfl⟩⟩
theorem fs_X10_13_9 : zw_FS RX10 13 9 3 2 (.array .int) := ⟨RX10, TX10, 30, tyX10, "TicketRealmModel", cs_X10, by decide, rfl, fun h => absurd h (by decide), (zt_in (zt_t3 94 rfl) rfl), Or.inl rfl, fun _ => ⟨rfl, rfl⟩⟩
theorem fs_X10_16_9 : zw_FS RX10 16 9 4 2 (.array .boolean) := ⟨RX10, TX10, 30, tyX10, "TicketRealmModel", cs_X10, by decide, rfl, fun h => absurd h (by decide), (zt_in (zt_t3 95 rfl) rfl), Or.inl rfl, fun _ => ⟨rfl, rfl⟩⟩
theorem fs_X10_20_9 : zw_FS RX10 20 9 5 2 (.array .int) := ⟨RX10, TX10, 30, tyX10, "TicketRealmModel", cs_X10, by decide, rfl, fun h => absurd h (by decide), (zt_in (zt_t3 96 rfl) rfl), Or.inl rfl, fun _ => ⟨rfl, rfl⟩⟩
theorem fs_X10_23_9 : zw_FS RX10 23 9 6 2 (.array .int) := ⟨RX10, TX10, 30, tyX10, "TicketRealmModel", cs_X10, by decide, rfl, fun h => absurd h (by decide), (zt_in (zt_t3 97 rfl) rfl), Or.inl rfl, fun _ => ⟨rfl, rfl⟩⟩
theorem fs_X10_26_9 : zw_FS RX10 26 9 7 2 (.array .int) := ⟨RX10, TX10, 30, tyX10, "TicketRealmModel", cs_X10, by decide, rfl, fun h => absurd h (by decide), (zt_in (zt_t3 98 rfl) rfl), Or.inl rfl, fun _ => ⟨rfl, rfl⟩⟩
theorem fs_X10_29_9 : zw_FS RX10 29 9 9 2 (.array .int) := ⟨RX10, TX10, 30, tyX10, "TicketRealmModel", cs_X10, by decide, rfl, fun h => absurd h (by decide), (zt_in (zt_t3 100 rfl) rfl), Or.inl rfl, fun _ => ⟨rfl, rfl⟩⟩
theorem fs_X10_32_9 : zw_FS RX10 32 9 10 2 (.array .int) := ⟨RX10, TX10, 30, tyX10, "TicketRealmModel", cs_X10, by decide, rfl, fun h => absurd h (by decide), (zt_in (zt_t3 101 rfl) rfl), Or.inl rfl, fun _ => ⟨rfl, rfl⟩⟩
theorem fs_X10_35_9 : zw_FS RX10 35 9 11 2 (.array .int) := ⟨RX10, TX10, 30, tyX10, "TicketRealmModel", cs_X10, by decide, rfl, fun h => absurd h (by decide), (zt_in (zt_t3 102 rfl) rfl), Or.inl rfl, fun _ => ⟨rfl, rfl⟩⟩
theorem fs_X10_38_9 : zw_FS RX10 38 9 12 2 (.array .int) := ⟨RX10, TX10, 30, tyX10, "TicketRealmModel", cs_X10, by decide, rfl, fun h => absurd h (by decide), (zt_in (zt_t3 103 rfl) rfl), Or.inl rfl, fun _ => ⟨rfl, rfl⟩⟩
theorem fs_X10_41_9 : zw_FS RX10 41 9 13 2 (.array .int) := ⟨RX10, TX10, 30, tyX10, "TicketRealmModel", cs_X10, by decide, rfl, fun h => absurd h (by decide), (zt_in (zt_t3 104 rfl) rfl), Or.inl rfl, fun _ => ⟨rfl, rfl⟩⟩
theorem fs_X10_44_9 : zw_FS RX10 44 9 14 2 (.array .int) := ⟨RX10, TX10, 30, tyX10, "TicketRealmModel", cs_X10, by decide, rfl, fun h => absurd h (by decide), (zt_in (zt_t3 105 rfl) rfl), Or.inl rfl, fun _ => ⟨rfl, rfl⟩⟩
theorem fs_X10_47_9 : zw_FS RX10 47 9 15 2 (.array .int) := ⟨RX10, TX10, 30, tyX10, "TicketRealmModel", cs_X10, by decide, rfl, fun h => absurd h (by decide), (zt_in (zt_t3 106 rfl) rfl), Or.inl rfl, fun _ => ⟨rfl, rfl⟩⟩
theorem fs_X10_50_9 : zw_FS RX10 50 9 16 2 (.array .int) := ⟨RX10, TX10, 30, tyX10, "TicketRealmModel", cs_X10, by decide, rfl, fun h => absurd h (by decide), (zt_in (zt_t3 107 rfl) rfl), Or.inl rfl, fun _ => ⟨rfl, rfl⟩⟩
theorem fs_X10_53_9 : zw_FS RX10 53 9 17 2 (.array .int) := ⟨RX10, TX10, 30, tyX10, "TicketRealmModel", cs_X10, by decide, rfl, fun h => absurd h (by decide), (zt_in (zt_t3 108 rfl) rfl), Or.inl rfl, fun _ => ⟨rfl, rfl⟩⟩
theorem fs_X10_56_9 : zw_FS RX10 56 9 18 2 (.array .int) := ⟨RX10, TX10, 30, tyX10, "TicketRealmModel", cs_X10, by decide, rfl, fun h => absurd h (by decide), (zt_in (zt_t3 109 rfl) rfl), Or.inl rfl, fun _ => ⟨rfl, rfl⟩⟩
theorem fs_X10_59_9 : zw_FS RX10 59 9 20 2 (.array .int) := ⟨RX10, TX10, 30, tyX10, "TicketRealmModel", cs_X10, by decide, rfl, fun h => absurd h (by decide), (zt_in (zt_t3 111 rfl) rfl), Or.inl rfl, fun _ => ⟨rfl, rfl⟩⟩
theorem fs_X10_62_9 : zw_FS RX10 62 9 21 2 (.array .int) := ⟨RX10, TX10, 30, tyX10, "TicketRealmModel", cs_X10, by decide, rfl, fun h => absurd h (by decide), (zt_in (zt_t3 112 rfl) rfl), Or.inl rfl, fun _ => ⟨rfl, rfl⟩⟩
theorem fs_X10_65_9 : zw_FS RX10 65 9 22 2 (.array .int) := ⟨RX10, TX10, 30, tyX10, "TicketRealmModel", cs_X10, by decide, rfl, fun h => absurd h (by decide), (zt_in (zt_t3 113 rfl) rfl), Or.inl rfl, fun _ => ⟨rfl, rfl⟩⟩
theorem fs_X10_68_9 : zw_FS RX10 68 9 23 2 (.array .int) := ⟨RX10, TX10, 30, tyX10, "TicketRealmModel", cs_X10, by decide, rfl, fun h => absurd h (by decide), (zt_in (zt_t3 114 rfl) rfl), Or.inl rfl, fun _ => ⟨rfl, rfl⟩⟩
theorem fs_X10_71_9 : zw_FS RX10 71 9 24 2 (.array .int) := ⟨RX10, TX10, 30, tyX10, "TicketRealmModel", cs_X10, by decide, rfl, fun h => absurd h (by decide), (zt_in (zt_t3 115 rfl) rfl), Or.inl rfl, fun _ => ⟨rfl, rfl⟩⟩
theorem fs_X10_74_9 : zw_FS RX10 74 9 25 2 (.array .int) := ⟨RX10, TX10, 30, tyX10, "TicketRealmModel", cs_X10, by decide, rfl, fun h => absurd h (by decide), (zt_in (zt_t3 116 rfl) rfl), Or.inl rfl, fun _ => ⟨rfl, rfl⟩⟩
theorem fs_X10_77_9 : zw_FS RX10 77 9 26 2 (.array .int) := ⟨RX10, TX10, 30, tyX10, "TicketRealmModel", cs_X10, by decide, rfl, fun h => absurd h (by decide), (zt_in (zt_t3 117 rfl) rfl), Or.inl rfl, fun _ => ⟨rfl, rfl⟩⟩
theorem fs_X10_80_9 : zw_FS RX10 80 9 29 2 (.array .int) := ⟨RX10, TX10, 30, tyX10, "TicketRealmModel", cs_X10, by decide, rfl, fun h => absurd h (by decide), (zt_in (zt_t3 120 rfl) rfl), Or.inl rfl, fun _ => ⟨rfl, rfl⟩⟩
theorem fs_X10_83_9 : zw_FS RX10 83 9 0 2 (.int) := ⟨RX10, TX10, 30, tyX10, "TicketRealmModel", cs_X10, by decide, rfl, fun h => absurd h (by decide), (zt_in (zt_t3 91 rfl) rfl), Or.inl rfl, fun _ => ⟨rfl, rfl⟩⟩
theorem fs_X10_91_9 : zw_FS RX10 91 9 2 1 (.int) := ⟨RX10, TX10, 30, tyX10, "TicketRealmModel", cs_X10, by decide, rfl, fun _ => rfl, (zt_in (zt_t3 93 rfl) rfl), Or.inl rfl, fun h => absurd h (by decide)⟩
theorem fs_X10_102_9 : zw_FS RX10 102 9 8 1 (.int) := ⟨RX10, TX10, 30, tyX10, "TicketRealmModel", cs_X10, by decide, rfl, fun _ => rfl, (zt_in (zt_t3 99 rfl) rfl), Or.inl rfl, fun h => absurd h (by decide)⟩
theorem fs_X10_109_9 : zw_FS RX10 109 9 19 1 (.int) := ⟨RX10, TX10, 30, tyX10, "TicketRealmModel", cs_X10, by decide, rfl, fun _ => rfl, (zt_in (zt_t3 110 rfl) rfl), Or.inl rfl, fun h => absurd h (by decide)⟩
theorem fs_X10_147_9 : zw_FS RX10 147 9 28 1 (.int) := ⟨RX10, TX10, 30, tyX10, "TicketRealmModel", cs_X10, by decide, rfl, fun _ => rfl, (zt_in (zt_t3 119 rfl) rfl), Or.inl rfl, fun h => absurd h (by decide)⟩
theorem fs_X10_156_9 : zw_FS RX10 156 9 27 1 (.int) := ⟨RX10, TX10, 30, tyX10, "TicketRealmModel", cs_X10, by decide, rfl, fun _ => rfl, (zt_in (zt_t3 118 rfl) rfl), Or.inl rfl, fun h => absurd h (by decide)⟩
theorem fs_X2_9_2 : zw_FS RX2 9 2 0 2 (.array .int) := ⟨RX2, TX2, 4, tyX2, "TicketRealm$FileService", cs_X2, by decide, rfl, fun h => absurd h (by decide), (zt_in (zt_t1 53 rfl) rfl), Or.inl rfl, fun _ => ⟨rfl, rfl⟩⟩
theorem fs_X2_17_2 : zw_FS RX2 17 2 1 2 (.array (.object "TicketRealm$Claim")) := ⟨RX2, TX2, 4, tyX2, "TicketRealm$FileService", cs_X2, by decide, rfl, fun h => absurd h (by decide), (zt_in (zt_t1 55 rfl) rfl), Or.inl rfl, fun _ => ⟨rfl, rfl⟩⟩
theorem fs_X2_21_2 : zw_FS RX2 21 2 2 1 (.int) := ⟨RX2, TX2, 4, tyX2, "TicketRealm$FileService", cs_X2, by decide, rfl, fun _ => rfl, (zt_in (zt_t1 56 rfl) rfl), Or.inl rfl, fun h => absurd h (by decide)⟩
theorem fs_X2_25_2 : zw_FS RX2 25 2 3 1 (.int) := ⟨RX2, TX2, 4, tyX2, "TicketRealm$FileService", cs_X2, by decide, rfl, fun _ => rfl, (zt_in (zt_t1 58 rfl) rfl), Or.inl rfl, fun h => absurd h (by decide)⟩
theorem fs_X2_28_1 : zw_FS RX2 28 1 2 0 (.int) := ⟨RX1, TX1, 5, tyX1, "TicketRealm$Claim", cs_X1, by decide, rfl, fun h => absurd h (by decide), (zt_in (zt_t2 61 rfl) rfl), Or.inl rfl, fun h => absurd h (by decide)⟩
theorem fs_X2_35_1 : zw_FS RX2 35 1 4 0 (.object "TicketRealm$Order") := ⟨RX1, TX1, 5, tyX1, "TicketRealm$Claim", cs_X1, by decide, rfl, fun h => absurd h (by decide), (zt_in (zt_t2 65 rfl) rfl), Or.inl rfl, fun h => absurd h (by decide)⟩
theorem fs_X2_39_3 : zw_FS RX2 39 3 0 0 (.int) := ⟨RX3, TX3, 3, tyX3, "TicketRealm$Order", cs_X3, by decide, rfl, fun h => absurd h (by decide), (zt_in (zt_t2 39 rfl) rfl), Or.inl rfl, fun h => absurd h (by decide)⟩
theorem fs_X2_44_3 : zw_FS RX2 44 3 1 0 (.int) := ⟨RX3, TX3, 3, tyX3, "TicketRealm$Order", cs_X3, by decide, rfl, fun h => absurd h (by decide), (zt_in (zt_t2 43 rfl) rfl), Or.inl rfl, fun h => absurd h (by decide)⟩
theorem fs_X2_47_3 : zw_FS RX2 47 3 2 0 (.int) := ⟨RX3, TX3, 3, tyX3, "TicketRealm$Order", cs_X3, by decide, rfl, fun h => absurd h (by decide), (zt_in (zt_t2 46 rfl) rfl), Or.inl rfl, fun h => absurd h (by decide)⟩
theorem fs_X3_7_3 : zw_FS RX3 7 3 0 2 (.int) := ⟨RX3, TX3, 3, tyX3, "TicketRealm$Order", cs_X3, by decide, rfl, fun h => absurd h (by decide), (zt_in (zt_t2 38 rfl) rfl), Or.inl rfl, fun _ => ⟨rfl, rfl⟩⟩
theorem fs_X3_13_3 : zw_FS RX3 13 3 1 2 (.int) := ⟨RX3, TX3, 3, tyX3, "TicketRealm$Order", cs_X3, by decide, rfl, fun h => absurd h (by decide), (zt_in (zt_t2 42 rfl) rfl), Or.inl rfl, fun _ => ⟨rfl, rfl⟩⟩
theorem fs_X3_16_3 : zw_FS RX3 16 3 2 2 (.int) := ⟨RX3, TX3, 3, tyX3, "TicketRealm$Order", cs_X3, by decide, rfl, fun h => absurd h (by decide), (zt_in (zt_t2 45 rfl) rfl), Or.inl rfl, fun _ => ⟨rfl, rfl⟩⟩
theorem fs_X4_9_4 : zw_FS RX4 9 4 1 2 (.int) := ⟨RX4, TX4, 5, tyX4, "TicketRealm$Part", cs_X4, by decide, rfl, fun h => absurd h (by decide), (zt_in (zt_t2 170 rfl) rfl), Or.inl rfl, fun _ => ⟨rfl, rfl⟩⟩
theorem fs_X4_15_4 : zw_FS RX4 15 4 2 2 (.int) := ⟨RX4, TX4, 5, tyX4, "TicketRealm$Part", cs_X4, by decide, rfl, fun h => absurd h (by decide), (zt_in (zt_t2 172 rfl) rfl), Or.inl rfl, fun _ => ⟨rfl, rfl⟩⟩
theorem fs_X4_18_4 : zw_FS RX4 18 4 3 2 (.int) := ⟨RX4, TX4, 5, tyX4, "TicketRealm$Part", cs_X4, by decide, rfl, fun h => absurd h (by decide), (zt_in (zt_t2 174 rfl) rfl), Or.inl rfl, fun _ => ⟨rfl, rfl⟩⟩
theorem fs_X4_21_4 : zw_FS RX4 21 4 4 2 (.int) := ⟨RX4, TX4, 5, tyX4, "TicketRealm$Part", cs_X4, by decide, rfl, fun h => absurd h (by decide), (zt_in (zt_t2 176 rfl) rfl), Or.inl rfl, fun _ => ⟨rfl, rfl⟩⟩
theorem fs_X5_9_5 : zw_FS RX5 9 5 1 2 (.int) := ⟨RX5, TX5, 3, tyX5, "TicketRealm$Proof", cs_X5, by decide, rfl, fun h => absurd h (by decide), (zt_in (zt_t1 239 rfl) rfl), Or.inl rfl, fun _ => ⟨rfl, rfl⟩⟩
theorem fs_X5_15_5 : zw_FS RX5 15 5 2 2 (.int) := ⟨RX5, TX5, 3, tyX5, "TicketRealm$Proof", cs_X5, by decide, rfl, fun h => absurd h (by decide), (zt_in (zt_t2 1 rfl) rfl), Or.inl rfl, fun _ => ⟨rfl, rfl⟩⟩
theorem fs_X6_9_1 : zw_FS RX6 9 1 0 2 (.int) := ⟨RX1, TX1, 5, tyX1, "TicketRealm$Seal", cs_X1, by decide, rfl, fun h => absurd h (by decide), (zt_in (zt_t2 3 rfl) rfl), Or.inl rfl, fun _ => ⟨rfl, rfl⟩⟩
theorem fs_X6_9_4 : zw_FS RX6 9 4 0 2 (.int) := ⟨RX4, TX4, 5, tyX4, "TicketRealm$Seal", cs_X4, by decide, rfl, fun h => absurd h (by decide), (zt_in (zt_t2 3 rfl) rfl), Or.inl rfl, fun _ => ⟨rfl, rfl⟩⟩
theorem fs_X6_9_5 : zw_FS RX6 9 5 0 2 (.int) := ⟨RX5, TX5, 3, tyX5, "TicketRealm$Seal", cs_X5, by decide, rfl, fun h => absurd h (by decide), (zt_in (zt_t2 3 rfl) rfl), Or.inl rfl, fun _ => ⟨rfl, rfl⟩⟩
theorem fs_X6_9_6 : zw_FS RX6 9 6 0 2 (.int) := ⟨RX7, TX7, 6, tyX7, "TicketRealm$Seal", cs_X7, by decide, rfl, fun h => absurd h (by decide), (zt_in (zt_t2 3 rfl) rfl), Or.inl rfl, fun _ => ⟨rfl, rfl⟩⟩
theorem fs_X7_9_6 : zw_FS RX7 9 6 1 2 (.int) := ⟨RX7, TX7, 6, tyX7, "TicketRealm$Ticket", cs_X7, by decide, rfl, fun h => absurd h (by decide), (zt_in (zt_t2 143 rfl) rfl), Or.inl rfl, fun _ => ⟨rfl, rfl⟩⟩
theorem fs_X7_15_6 : zw_FS RX7 15 6 2 2 (.int) := ⟨RX7, TX7, 6, tyX7, "TicketRealm$Ticket", cs_X7, by decide, rfl, fun h => absurd h (by decide), (zt_in (zt_t2 145 rfl) rfl), Or.inl rfl, fun _ => ⟨rfl, rfl⟩⟩
theorem fs_X7_18_6 : zw_FS RX7 18 6 3 2 (.int) := ⟨RX7, TX7, 6, tyX7, "TicketRealm$Ticket", cs_X7, by decide, rfl, fun h => absurd h (by decide), (zt_in (zt_t2 147 rfl) rfl), Or.inl rfl, fun _ => ⟨rfl, rfl⟩⟩
theorem fs_X7_21_6 : zw_FS RX7 21 6 4 2 (.int) := ⟨RX7, TX7, 6, tyX7, "TicketRealm$Ticket", cs_X7, by decide, rfl, fun h => absurd h (by decide), (zt_in (zt_t2 149 rfl) rfl), Or.inl rfl, fun _ => ⟨rfl, rfl⟩⟩
theorem fs_X7_24_6 : zw_FS RX7 24 6 5 2 (.int) := ⟨RX7, TX7, 6, tyX7, "TicketRealm$Ticket", cs_X7, by decide, rfl, fun h => absurd h (by decide), (zt_in (zt_t2 151 rfl) rfl), Or.inl rfl, fun _ => ⟨rfl, rfl⟩⟩
theorem fs_X8_9_7 : zw_FS RX8 9 7 0 1 (.int) := ⟨RX8, TX8, 6, tyX8, "TicketRealm$User", cs_X8, by decide, rfl, fun _ => rfl, (zt_in (zt_t1 82 rfl) rfl), Or.inl rfl, fun h => absurd h (by decide)⟩
theorem fs_X8_15_7 : zw_FS RX8 15 7 1 1 (.int) := ⟨RX8, TX8, 6, tyX8, "TicketRealm$User", cs_X8, by decide, rfl, fun _ => rfl, (zt_in (zt_t1 84 rfl) rfl), Or.inl rfl, fun h => absurd h (by decide)⟩
theorem fs_X8_18_7 : zw_FS RX8 18 7 2 1 (.int) := ⟨RX8, TX8, 6, tyX8, "TicketRealm$User", cs_X8, by decide, rfl, fun _ => rfl, (zt_in (zt_t1 86 rfl) rfl), Or.inl rfl, fun h => absurd h (by decide)⟩
theorem fs_X8_21_7 : zw_FS RX8 21 7 3 1 (.int) := ⟨RX8, TX8, 6, tyX8, "TicketRealm$User", cs_X8, by decide, rfl, fun _ => rfl, (zt_in (zt_t1 88 rfl) rfl), Or.inl rfl, fun h => absurd h (by decide)⟩
theorem fs_X8_24_7 : zw_FS RX8 24 7 4 2 (.array .int) := ⟨RX8, TX8, 6, tyX8, "TicketRealm$User", cs_X8, by decide, rfl, fun h => absurd h (by decide), (zt_in (zt_t1 89 rfl) rfl), Or.inl rfl, fun _ => ⟨rfl, rfl⟩⟩
theorem fs_X8_28_7 : zw_FS RX8 28 7 5 2 (.array .int) := ⟨RX8, TX8, 6, tyX8, "TicketRealm$User", cs_X8, by decide, rfl, fun h => absurd h (by decide), (zt_in (zt_t1 91 rfl) rfl), Or.inl rfl, fun _ => ⟨rfl, rfl⟩⟩
theorem fs_X9_9_8 : zw_FS RX9 9 8 1 2 (.array .int) := ⟨RX9, TX9, 12, tyX9, "TicketRealm", cs_X9, by decide, rfl, fun h => absurd h (by decide), (zt_in (zt_t1 108 rfl) rfl), Or.inl rfl, fun _ => ⟨rfl, rfl⟩⟩
theorem fs_X9_13_8 : zw_FS RX9 13 8 2 2 (.array .int) := ⟨RX9, TX9, 12, tyX9, "TicketRealm", cs_X9, by decide, rfl, fun h => absurd h (by decide), (zt_in (zt_t1 109 rfl) rfl), Or.inl rfl, fun _ => ⟨rfl, rfl⟩⟩
theorem fs_X9_19_8 : zw_FS RX9 19 8 3 2 (.object "TicketRealm$Book") := ⟨RX9, TX9, 12, tyX9, "TicketRealm", cs_X9, by decide, rfl, fun h => absurd h (by decide), (zt_in (zt_t1 110 rfl) rfl), Or.inl rfl, fun _ => ⟨rfl, rfl⟩⟩
theorem fs_X9_23_8 : zw_FS RX9 23 8 4 2 (.object "TicketRealm$Book") := ⟨RX9, TX9, 12, tyX9, "TicketRealm", cs_X9, by decide, rfl, fun h => absurd h (by decide), (zt_in (zt_t1 111 rfl) rfl), Or.inl rfl, fun _ => ⟨rfl, rfl⟩⟩
theorem fs_X9_28_8 : zw_FS RX9 28 8 5 2 (.array (.object "TicketRealm$User")) := ⟨RX9, TX9, 12, tyX9, "TicketRealm", cs_X9, by decide, rfl, fun h => absurd h (by decide), (zt_in (zt_t1 112 rfl) rfl), Or.inl rfl, fun _ => ⟨rfl, rfl⟩⟩
theorem fs_X9_35_8 : zw_FS RX9 35 8 6 2 (.object "TicketRealm$FileService") := ⟨RX9, TX9, 12, tyX9, "TicketRealm", cs_X9, by decide, rfl, fun h => absurd h (by decide), (zt_in (zt_t1 113 rfl) rfl), Or.inl rfl, fun _ => ⟨rfl, rfl⟩⟩
theorem fs_X9_41_8 : zw_FS RX9 41 8 7 2 (.array (.object "TicketRealm$Seal")) := ⟨RX9, TX9, 12, tyX9, "TicketRealm", cs_X9, by decide, rfl, fun h => absurd h (by decide), (zt_in (zt_t1 114 rfl) rfl), Or.inl rfl, fun _ => ⟨rfl, rfl⟩⟩
theorem fs_X9_45_8 : zw_FS RX9 45 8 8 1 (.int) := ⟨RX9, TX9, 12, tyX9, "TicketRealm", cs_X9, by decide, rfl, fun _ => rfl, (zt_in (zt_t1 115 rfl) rfl), Or.inl rfl, fun h => absurd h (by decide)⟩
theorem fs_X9_49_8 : zw_FS RX9 49 8 9 2 (.array .boolean) := ⟨RX9, TX9, 12, tyX9, "TicketRealm", cs_X9, by decide, rfl, fun h => absurd h (by decide), (zt_in (zt_t1 116 rfl) rfl), Or.inl rfl, fun _ => ⟨rfl, rfl⟩⟩
theorem fs_X9_53_8 : zw_FS RX9 53 8 10 1 (.int) := ⟨RX9, TX9, 12, tyX9, "TicketRealm", cs_X9, by decide, rfl, fun _ => rfl, (zt_in (zt_t1 117 rfl) rfl), Or.inl rfl, fun h => absurd h (by decide)⟩
theorem fs_X9_56_8 : zw_FS RX9 56 8 11 1 (.int) := ⟨RX9, TX9, 12, tyX9, "TicketRealm", cs_X9, by decide, rfl, fun _ => rfl, (zt_in (zt_t1 118 rfl) rfl), Or.inl rfl, fun h => absurd h (by decide)⟩
theorem fs_X9_68_8 : zw_FS RX9 68 8 0 2 (.int) := ⟨RX9, TX9, 12, tyX9, "TicketRealm", cs_X9, by decide, rfl, fun h => absurd h (by decide), (zt_in (zt_t1 107 rfl) rfl), Or.inl rfl, fun _ => ⟨rfl, rfl⟩⟩
theorem fs_X9_95_0 : zw_FS RX9 95 0 1 0 (.array .int) := ⟨RX0, TX0, 3, tyX0, "TicketRealm$Book", cs_X0, by decide, rfl, fun h => absurd h (by decide), (zt_in (zt_t1 32 rfl) rfl), Or.inl rfl, fun h => absurd h (by decide)⟩
theorem fs_X9_101_0 : zw_FS RX9 101 0 2 0 (.array (.array .int)) := ⟨RX0, TX0, 3, tyX0, "TicketRealm$Book", cs_X0, by decide, rfl, fun h => absurd h (by decide), (zt_in (zt_t1 34 rfl) rfl), Or.inl rfl, fun h => absurd h (by decide)⟩
theorem fs_X9_137_7 : zw_FS RX9 137 7 5 0 (.array .int) := ⟨RX8, TX8, 6, tyX8, "TicketRealm$User", cs_X8, by decide, rfl, fun h => absurd h (by decide), (zt_in (zt_t1 92 rfl) rfl), Or.inl rfl, fun h => absurd h (by decide)⟩
theorem fs_X9_159_7 : zw_FS RX9 159 7 2 0 (.int) := ⟨RX8, TX8, 6, tyX8, "TicketRealm$User", cs_X8, by decide, rfl, fun h => absurd h (by decide), (zt_in (zt_t1 87 rfl) rfl), Or.inl rfl, fun h => absurd h (by decide)⟩
theorem fs_X9_166_4 : zw_FS RX9 166 4 2 0 (.int) := ⟨RX4, TX4, 5, tyX4, "TicketRealm$Part", cs_X4, by decide, rfl, fun h => absurd h (by decide), (zt_in (zt_t2 173 rfl) rfl), Or.inl rfl, fun h => absurd h (by decide)⟩
theorem fs_X9_171_7 : zw_FS RX9 171 7 0 0 (.int) := ⟨RX8, TX8, 6, tyX8, "TicketRealm$User", cs_X8, by decide, rfl, fun h => absurd h (by decide), (zt_in (zt_t1 83 rfl) rfl), Or.inl rfl, fun h => absurd h (by decide)⟩
theorem fs_X9_174_4 : zw_FS RX9 174 4 3 0 (.int) := ⟨RX4, TX4, 5, tyX4, "TicketRealm$Part", cs_X4, by decide, rfl, fun h => absurd h (by decide), (zt_in (zt_t2 175 rfl) rfl), Or.inl rfl, fun h => absurd h (by decide)⟩
theorem fs_X9_177_7 : zw_FS RX9 177 7 1 0 (.int) := ⟨RX8, TX8, 6, tyX8, "TicketRealm$User", cs_X8, by decide, rfl, fun h => absurd h (by decide), (zt_in (zt_t1 85 rfl) rfl), Or.inl rfl, fun h => absurd h (by decide)⟩
theorem fs_X9_180_4 : zw_FS RX9 180 4 1 0 (.int) := ⟨RX4, TX4, 5, tyX4, "TicketRealm$Part", cs_X4, by decide, rfl, fun h => absurd h (by decide), (zt_in (zt_t2 171 rfl) rfl), Or.inl rfl, fun h => absurd h (by decide)⟩
theorem fs_X9_192_0 : zw_FS RX9 192 0 0 0 (.array .int) := ⟨RX0, TX0, 3, tyX0, "TicketRealm$Book", cs_X0, by decide, rfl, fun h => absurd h (by decide), (zt_in (zt_t1 30 rfl) rfl), Or.inl rfl, fun h => absurd h (by decide)⟩
theorem fs_X9_199_5 : zw_FS RX9 199 5 1 0 (.int) := ⟨RX5, TX5, 3, tyX5, "TicketRealm$Proof", cs_X5, by decide, rfl, fun h => absurd h (by decide), (zt_in (zt_t2 0 rfl) rfl), Or.inl rfl, fun h => absurd h (by decide)⟩
theorem fs_X9_202_5 : zw_FS RX9 202 5 2 0 (.int) := ⟨RX5, TX5, 3, tyX5, "TicketRealm$Proof", cs_X5, by decide, rfl, fun h => absurd h (by decide), (zt_in (zt_t2 2 rfl) rfl), Or.inl rfl, fun h => absurd h (by decide)⟩
theorem fs_X9_220_6 : zw_FS RX9 220 6 2 0 (.int) := ⟨RX7, TX7, 6, tyX7, "TicketRealm$Ticket", cs_X7, by decide, rfl, fun h => absurd h (by decide), (zt_in (zt_t2 146 rfl) rfl), Or.inl rfl, fun h => absurd h (by decide)⟩
theorem fs_X9_227_6 : zw_FS RX9 227 6 1 0 (.int) := ⟨RX7, TX7, 6, tyX7, "TicketRealm$Ticket", cs_X7, by decide, rfl, fun h => absurd h (by decide), (zt_in (zt_t2 144 rfl) rfl), Or.inl rfl, fun h => absurd h (by decide)⟩
theorem fs_X9_228_1 : zw_FS RX9 228 1 1 0 (.int) := ⟨RX1, TX1, 5, tyX1, "TicketRealm$Claim", cs_X1, by decide, rfl, fun h => absurd h (by decide), (zt_in (zt_t2 59 rfl) rfl), Or.inl rfl, fun h => absurd h (by decide)⟩
theorem fs_X9_229_1 : zw_FS RX9 229 1 4 0 (.object "TicketRealm$Order") := ⟨RX1, TX1, 5, tyX1, "TicketRealm$Claim", cs_X1, by decide, rfl, fun h => absurd h (by decide), (zt_in (zt_t2 66 rfl) rfl), Or.inl rfl, fun h => absurd h (by decide)⟩
theorem fs_X9_233_3 : zw_FS RX9 233 3 0 0 (.int) := ⟨RX3, TX3, 3, tyX3, "TicketRealm$Order", cs_X3, by decide, rfl, fun h => absurd h (by decide), (zt_in (zt_t2 41 rfl) rfl), Or.inl rfl, fun h => absurd h (by decide)⟩
theorem fs_X9_236_1 : zw_FS RX9 236 1 2 0 (.int) := ⟨RX1, TX1, 5, tyX1, "TicketRealm$Claim", cs_X1, by decide, rfl, fun h => absurd h (by decide), (zt_in (zt_t2 62 rfl) rfl), Or.inl rfl, fun h => absurd h (by decide)⟩
theorem fs_X9_237_6 : zw_FS RX9 237 6 4 0 (.int) := ⟨RX7, TX7, 6, tyX7, "TicketRealm$Ticket", cs_X7, by decide, rfl, fun h => absurd h (by decide), (zt_in (zt_t2 150 rfl) rfl), Or.inl rfl, fun h => absurd h (by decide)⟩
theorem fs_X9_240_6 : zw_FS RX9 240 6 5 0 (.int) := ⟨RX7, TX7, 6, tyX7, "TicketRealm$Ticket", cs_X7, by decide, rfl, fun h => absurd h (by decide), (zt_in (zt_t2 152 rfl) rfl), Or.inl rfl, fun h => absurd h (by decide)⟩
theorem fs_X9_246_6 : zw_FS RX9 246 6 3 0 (.int) := ⟨RX7, TX7, 6, tyX7, "TicketRealm$Ticket", cs_X7, by decide, rfl, fun h => absurd h (by decide), (zt_in (zt_t2 148 rfl) rfl), Or.inl rfl, fun h => absurd h (by decide)⟩
theorem fs_X9_264_2 : zw_FS RX9 264 2 3 0 (.int) := ⟨RX2, TX2, 4, tyX2, "TicketRealm$FileService", cs_X2, by decide, rfl, fun h => absurd h (by decide), (zt_in (zt_t1 59 rfl) rfl), Or.inl rfl, fun h => absurd h (by decide)⟩
theorem fs_X9_267_1 : zw_FS RX9 267 1 0 0 (.int) := ⟨RX1, TX1, 5, tyX1, "TicketRealm$Seal", cs_X1, by decide, rfl, fun h => absurd h (by decide), (zt_in (zt_t2 6 rfl) rfl), Or.inl rfl, fun h => absurd h (by decide)⟩
theorem fs_X9_267_4 : zw_FS RX9 267 4 0 0 (.int) := ⟨RX4, TX4, 5, tyX4, "TicketRealm$Seal", cs_X4, by decide, rfl, fun h => absurd h (by decide), (zt_in (zt_t2 6 rfl) rfl), Or.inl rfl, fun h => absurd h (by decide)⟩
theorem fs_X9_267_5 : zw_FS RX9 267 5 0 0 (.int) := ⟨RX5, TX5, 3, tyX5, "TicketRealm$Seal", cs_X5, by decide, rfl, fun h => absurd h (by decide), (zt_in (zt_t2 6 rfl) rfl), Or.inl rfl, fun h => absurd h (by decide)⟩
theorem fs_X9_267_6 : zw_FS RX9 267 6 0 0 (.int) := ⟨RX7, TX7, 6, tyX7, "TicketRealm$Seal", cs_X7, by decide, rfl, fun h => absurd h (by decide), (zt_in (zt_t2 6 rfl) rfl), Or.inl rfl, fun h => absurd h (by decide)⟩
theorem fs_X9_289_2 : zw_FS RX9 289 2 0 0 (.array .int) := ⟨RX2, TX2, 4, tyX2, "TicketRealm$FileService", cs_X2, by decide, rfl, fun h => absurd h (by decide), (zt_in (zt_t1 54 rfl) rfl), Or.inl rfl, fun h => absurd h (by decide)⟩
theorem fs_X9_292_2 : zw_FS RX9 292 2 2 0 (.int) := ⟨RX2, TX2, 4, tyX2, "TicketRealm$FileService", cs_X2, by decide, rfl, fun h => absurd h (by decide), (zt_in (zt_t1 57 rfl) rfl), Or.inl rfl, fun h => absurd h (by decide)⟩
theorem fs_X9_320_7 : zw_FS RX9 320 7 4 0 (.array .int) := ⟨RX8, TX8, 6, tyX8, "TicketRealm$User", cs_X8, by decide, rfl, fun h => absurd h (by decide), (zt_in (zt_t1 90 rfl) rfl), Or.inl rfl, fun h => absurd h (by decide)⟩
theorem md_X0_init : zw_MD yX0_init cX0_init 2 none 0 := ⟨(zt_in (zt_t1 25 rfl) rfl), (zt_in (zt_t1 2 rfl) rfl), by decide, by decide, by decide +kernel⟩
theorem md_X0_holds : zw_MD yX0_holds cX0_holds 2 (some .boolean) 1 := ⟨(zt_in (zt_t1 166 rfl) rfl), (zt_in (zt_t1 2 rfl) rfl), by decide, by decide, by decide +kernel⟩
theorem md_X0_size : zw_MD yX0_size cX0_size 3 (some .int) 0 := ⟨(zt_in (zt_t1 199 rfl) rfl), (zt_in (zt_t1 2 rfl) rfl), by decide, by decide, by decide +kernel⟩
theorem md_X0_enter : zw_MD yX0_enter cX0_enter 4 none 2 := ⟨(zt_in (zt_t1 162 rfl) rfl), (zt_in (zt_t1 2 rfl) rfl), by decide, by decide, by decide +kernel⟩
theorem md_X0_strike : zw_MD yX0_strike cX0_strike 2 none 1 := ⟨(zt_in (zt_t1 176 rfl) rfl), (zt_in (zt_t1 2 rfl) rfl), by decide, by decide, by decide +kernel⟩
theorem md_X0_permits : zw_MD yX0_permits cX0_permits 3 (some .boolean) 2 := ⟨(zt_in (zt_t2 222 rfl) rfl), (zt_in (zt_t1 2 rfl) rfl), by decide, by decide, by decide +kernel⟩
theorem md_X0_copyFrom : zw_MD yX0_copyFrom cX0_copyFrom 4 none 1 := ⟨(zt_in (zt_t1 195 rfl) rfl), (zt_in (zt_t1 2 rfl) rfl), by decide, by decide, by decide +kernel⟩
theorem md_X1_init : zw_MD yX1_init cX1_init 6 none 5 := ⟨(zt_in (zt_t2 56 rfl) rfl), (zt_in (zt_t1 9 rfl) rfl), by decide, by decide, by decide +kernel⟩
theorem md_X1_kind : zw_MD yX1_kind cX1_kind 1 (some .int) 0 := ⟨(zt_in (zt_t3 36 rfl) rfl), (zt_in (zt_t1 9 rfl) rfl), by decide, by decide, by decide +kernel⟩
theorem md_X1_shownTime : zw_MD yX1_shownTime cX1_shownTime 1 (some .int) 0 := ⟨(zt_in (zt_t3 63 rfl) rfl), (zt_in (zt_t1 9 rfl) rfl), by decide, by decide, by decide +kernel⟩
theorem md_X1_sameAs : zw_MD yX1_sameAs cX1_sameAs 2 (some .boolean) 1 := ⟨(zt_in (zt_t2 214 rfl) rfl), (zt_in (zt_t1 9 rfl) rfl), by decide, by decide, by decide +kernel⟩
theorem md_X2_init : zw_MD yX2_init cX2_init 1 none 0 := ⟨(zt_in (zt_t1 49 rfl) rfl), (zt_in (zt_t1 3 rfl) rfl), by decide, by decide, by decide +kernel⟩
theorem md_X2_dropClaimsBefore : zw_MD yX2_dropClaimsBefore cX2_dropClaimsBefore 4 none 1 := ⟨(zt_in (zt_t2 206 rfl) rfl), (zt_in (zt_t1 3 rfl) rfl), by decide, by decide, by decide +kernel⟩
theorem md_X2_hasServed : zw_MD yX2_hasServed cX2_hasServed 3 (some .boolean) 1 := ⟨(zt_in (zt_t2 210 rfl) rfl), (zt_in (zt_t1 3 rfl) rfl), by decide, by decide, by decide +kernel⟩
theorem md_X2_cacheIsFull : zw_MD yX2_cacheIsFull cX2_cacheIsFull 1 (some .boolean) 0 := ⟨(zt_in (zt_t2 226 rfl) rfl), (zt_in (zt_t1 3 rfl) rfl), by decide, by decide, by decide +kernel⟩
theorem md_X2_carryOut : zw_MD yX2_carryOut cX2_carryOut 3 none 1 := ⟨(zt_in (zt_t2 230 rfl) rfl), (zt_in (zt_t1 3 rfl) rfl), by decide, by decide, by decide +kernel⟩
theorem md_X3_init : zw_MD yX3_init cX3_init 4 none 3 := ⟨(zt_in (zt_t2 36 rfl) rfl), (zt_in (zt_t1 10 rfl) rfl), by decide, by decide, by decide +kernel⟩
theorem md_X3_sameAs : zw_MD yX3_sameAs cX3_sameAs 2 (some .boolean) 1 := ⟨(zt_in (zt_t2 218 rfl) rfl), (zt_in (zt_t1 10 rfl) rfl), by decide, by decide, by decide +kernel⟩
theorem md_X4_init : zw_MD yX4_init cX4_init 6 none 5 := ⟨(zt_in (zt_t2 168 rfl) rfl), (zt_in (zt_t1 12 rfl) rfl), by decide, by decide, by decide +kernel⟩
theorem md_X4_kind : zw_MD yX4_kind cX4_kind 1 (some .int) 0 := ⟨(zt_in (zt_t3 39 rfl) rfl), (zt_in (zt_t1 12 rfl) rfl), by decide, by decide, by decide +kernel⟩
theorem md_X4_heldKey : zw_MD yX4_heldKey cX4_heldKey 1 (some .int) 0 := ⟨(zt_in (zt_t3 13 rfl) rfl), (zt_in (zt_t1 12 rfl) rfl), by decide, by decide, by decide +kernel⟩
theorem md_X4_shownEnd : zw_MD yX4_shownEnd cX4_shownEnd 1 (some .int) 0 := ⟨(zt_in (zt_t3 52 rfl) rfl), (zt_in (zt_t1 12 rfl) rfl), by decide, by decide, by decide +kernel⟩
theorem md_X5_init : zw_MD yX5_init cX5_init 4 none 3 := ⟨(zt_in (zt_t1 234 rfl) rfl), (zt_in (zt_t1 8 rfl) rfl), by decide, by decide, by decide +kernel⟩
theorem md_X5_kind : zw_MD yX5_kind cX5_kind 1 (some .int) 0 := ⟨(zt_in (zt_t3 42 rfl) rfl), (zt_in (zt_t1 8 rfl) rfl), by decide, by decide, by decide +kernel⟩
theorem md_X5_shownTime : zw_MD yX5_shownTime cX5_shownTime 1 (some .int) 0 := ⟨(zt_in (zt_t3 67 rfl) rfl), (zt_in (zt_t1 8 rfl) rfl), by decide, by decide, by decide +kernel⟩
theorem md_X6_init : zw_MD yX6_init cX6_init 2 none 1 := ⟨(zt_in (zt_t1 237 rfl) rfl), (zt_in (zt_t1 7 rfl) rfl), by decide, by decide, by decide +kernel⟩
theorem md_X6_heldKey : zw_MD yX6_heldKey cX6_heldKey 1 (some .int) 0 := ⟨(zt_in (zt_t3 18 rfl) rfl), (zt_in (zt_t1 7 rfl) rfl), by decide, by decide, by decide +kernel⟩
theorem md_X6_shownEnd : zw_MD yX6_shownEnd cX6_shownEnd 1 (some .int) 0 := ⟨(zt_in (zt_t3 57 rfl) rfl), (zt_in (zt_t1 7 rfl) rfl), by decide, by decide, by decide +kernel⟩
theorem md_X6_shownTime : zw_MD yX6_shownTime cX6_shownTime 1 (some .int) 0 := ⟨(zt_in (zt_t3 69 rfl) rfl), (zt_in (zt_t1 7 rfl) rfl), by decide, by decide, by decide +kernel⟩
theorem md_X7_init : zw_MD yX7_init cX7_init 7 none 6 := ⟨(zt_in (zt_t2 141 rfl) rfl), (zt_in (zt_t1 11 rfl) rfl), by decide, by decide, by decide +kernel⟩
theorem md_X7_kind : zw_MD yX7_kind cX7_kind 1 (some .int) 0 := ⟨(zt_in (zt_t3 45 rfl) rfl), (zt_in (zt_t1 11 rfl) rfl), by decide, by decide, by decide +kernel⟩
theorem md_X7_heldKey : zw_MD yX7_heldKey cX7_heldKey 1 (some .int) 0 := ⟨(zt_in (zt_t3 17 rfl) rfl), (zt_in (zt_t1 11 rfl) rfl), by decide, by decide, by decide +kernel⟩
theorem md_X7_shownEnd : zw_MD yX7_shownEnd cX7_shownEnd 1 (some .int) 0 := ⟨(zt_in (zt_t3 56 rfl) rfl), (zt_in (zt_t1 11 rfl) rfl), by decide, by decide, by decide +kernel⟩
theorem md_X8_init : zw_MD yX8_init cX8_init 2 none 0 := ⟨(zt_in (zt_t1 80 rfl) rfl), (zt_in (zt_t1 5 rfl) rfl), by decide, by decide, by decide +kernel⟩
theorem md_X8_hasRequest : zw_MD yX8_hasRequest cX8_hasRequest 1 (some .boolean) 0 := ⟨(zt_in (zt_t2 84 rfl) rfl), (zt_in (zt_t1 5 rfl) rfl), by decide, by decide, by decide +kernel⟩
theorem md_X8_hasCredential : zw_MD yX8_hasCredential cX8_hasCredential 2 (some .boolean) 1 := ⟨(zt_in (zt_t2 25 rfl) rfl), (zt_in (zt_t1 5 rfl) rfl), by decide, by decide, by decide +kernel⟩
theorem md_X8_openRequest : zw_MD yX8_openRequest cX8_openRequest 4 none 3 := ⟨(zt_in (zt_t1 229 rfl) rfl), (zt_in (zt_t1 5 rfl) rfl), by decide, by decide, by decide +kernel⟩
theorem md_X8_closeRequest : zw_MD yX8_closeRequest cX8_closeRequest 3 none 2 := ⟨(zt_in (zt_t2 101 rfl) rfl), (zt_in (zt_t1 5 rfl) rfl), by decide, by decide, by decide +kernel⟩
theorem md_X8_makeSerial : zw_MD yX8_makeSerial cX8_makeSerial 1 (some .int) 0 := ⟨(zt_in (zt_t2 31 rfl) rfl), (zt_in (zt_t1 5 rfl) rfl), by decide, by decide, by decide +kernel⟩
theorem md_X9_init : zw_MD yX9_init cX9_init 3 none 1 := ⟨(zt_in (zt_t1 17 rfl) rfl), (zt_in (zt_t1 1 rfl) rfl), by decide, by decide, by decide +kernel⟩
theorem md_X9_enrol : zw_MD yX9_enrol cX9_enrol 3 (some .int) 1 := ⟨(zt_in (zt_t1 147 rfl) rfl), (zt_in (zt_t1 1 rfl) rfl), by decide, by decide, by decide +kernel⟩
theorem md_X9_remove : zw_MD yX9_remove cX9_remove 2 (some .boolean) 1 := ⟨(zt_in (zt_t1 171 rfl) rfl), (zt_in (zt_t1 1 rfl) rfl), by decide, by decide, by decide +kernel⟩
theorem md_X9_limit : zw_MD yX9_limit cX9_limit 3 (some .boolean) 2 := ⟨(zt_in (zt_t1 180 rfl) rfl), (zt_in (zt_t1 1 rfl) rfl), by decide, by decide, by decide +kernel⟩
theorem md_X9_allow : zw_MD yX9_allow cX9_allow 4 (some .boolean) 3 := ⟨(zt_in (zt_t1 184 rfl) rfl), (zt_in (zt_t1 1 rfl) rfl), by decide, by decide, by decide +kernel⟩
theorem md_X9_save : zw_MD yX9_save cX9_save 1 (some .int) 0 := ⟨(zt_in (zt_t1 191 rfl) rfl), (zt_in (zt_t1 1 rfl) rfl), by decide, by decide, by decide +kernel⟩
theorem md_X9_crash : zw_MD yX9_crash cX9_crash 1 (some .int) 0 := ⟨(zt_in (zt_t1 203 rfl) rfl), (zt_in (zt_t1 1 rfl) rfl), by decide, by decide, by decide +kernel⟩
theorem md_X9_tick : zw_MD yX9_tick cX9_tick 3 (some .int) 2 := ⟨(zt_in (zt_t1 207 rfl) rfl), (zt_in (zt_t1 1 rfl) rfl), by decide, by decide, by decide +kernel⟩
theorem md_X9_login : zw_MD yX9_login cX9_login 4 (some .int) 2 := ⟨(zt_in (zt_t1 211 rfl) rfl), (zt_in (zt_t1 1 rfl) rfl), by decide, by decide, by decide +kernel⟩
theorem md_X9_ask : zw_MD yX9_ask cX9_ask 5 (some .int) 2 := ⟨(zt_in (zt_t2 21 rfl) rfl), (zt_in (zt_t1 1 rfl) rfl), by decide, by decide, by decide +kernel⟩
theorem md_X9_receive : zw_MD yX9_receive cX9_receive 6 (some .boolean) 3 := ⟨(zt_in (zt_t2 80 rfl) rfl), (zt_in (zt_t1 1 rfl) rfl), by decide, by decide, by decide +kernel⟩
theorem md_X9_order : zw_MD yX9_order cX9_order 7 (some .int) 4 := ⟨(zt_in (zt_t2 105 rfl) rfl), (zt_in (zt_t1 1 rfl) rfl), by decide, by decide, by decide +kernel⟩
theorem md_X9_issue : zw_MD yX9_issue cX9_issue 9 (some .int) 5 := ⟨(zt_in (zt_t2 109 rfl) rfl), (zt_in (zt_t1 1 rfl) rfl), by decide, by decide, by decide +kernel⟩
theorem md_X9_grant : zw_MD yX9_grant cX9_grant 12 (some .int) 5 := ⟨(zt_in (zt_t2 190 rfl) rfl), (zt_in (zt_t1 1 rfl) rfl), by decide, by decide, by decide +kernel⟩
theorem md_X9_serve : zw_MD yX9_serve cX9_serve 6 (some .int) 2 := ⟨(zt_in (zt_t2 202 rfl) rfl), (zt_in (zt_t1 1 rfl) rfl), by decide, by decide, by decide +kernel⟩
theorem md_X9_answer : zw_MD yX9_answer cX9_answer 1 (some .int) 0 := ⟨(zt_in (zt_t2 234 rfl) rfl), (zt_in (zt_t1 1 rfl) rfl), by decide, by decide, by decide +kernel⟩
theorem md_X9_steal : zw_MD yX9_steal cX9_steal 2 (some .int) 1 := ⟨(zt_in (zt_t2 238 rfl) rfl), (zt_in (zt_t1 1 rfl) rfl), by decide, by decide, by decide +kernel⟩
theorem md_X9_learn : zw_MD yX9_learn cX9_learn 4 (some .int) 1 := ⟨(zt_in (zt_t3 2 rfl) rfl), (zt_in (zt_t1 1 rfl) rfl), by decide, by decide, by decide +kernel⟩
theorem md_X9_forge : zw_MD yX9_forge cX9_forge 7 (some .int) 5 := ⟨(zt_in (zt_t3 22 rfl) rfl), (zt_in (zt_t1 1 rfl) rfl), by decide, by decide, by decide +kernel⟩
theorem md_X9_seal : zw_MD yX9_seal cX9_seal 4 (some .int) 2 := ⟨(zt_in (zt_t3 30 rfl) rfl), (zt_in (zt_t1 1 rfl) rfl), by decide, by decide, by decide +kernel⟩
theorem md_X9_look : zw_MD yX9_look cX9_look 3 (some .int) 2 := ⟨(zt_in (zt_t3 73 rfl) rfl), (zt_in (zt_t1 1 rfl) rfl), by decide, by decide, by decide +kernel⟩
theorem md_X9_isPrincipal : zw_MD yX9_isPrincipal cX9_isPrincipal 1 (some .boolean) 1 := ⟨(zt_in (zt_t1 150 rfl) rfl), (zt_in (zt_t1 1 rfl) rfl), by decide, by decide, by decide +kernel⟩
theorem md_X9_isUser : zw_MD yX9_isUser cX9_isUser 1 (some .boolean) 1 := ⟨(zt_in (zt_t1 218 rfl) rfl), (zt_in (zt_t1 1 rfl) rfl), by decide, by decide, by decide +kernel⟩
theorem md_X9_isTarget : zw_MD yX9_isTarget cX9_isTarget 1 (some .boolean) 1 := ⟨(zt_in (zt_t1 221 rfl) rfl), (zt_in (zt_t1 1 rfl) rfl), by decide, by decide, by decide +kernel⟩
theorem md_X9_isFile : zw_MD yX9_isFile cX9_isFile 1 (some .boolean) 1 := ⟨(zt_in (zt_t1 187 rfl) rfl), (zt_in (zt_t1 1 rfl) rfl), by decide, by decide, by decide +kernel⟩
theorem md_X9_isUserInBook : zw_MD yX9_isUserInBook cX9_isUserInBook 2 (some .boolean) 1 := ⟨(zt_in (zt_t2 113 rfl) rfl), (zt_in (zt_t1 1 rfl) rfl), by decide, by decide, by decide +kernel⟩
theorem md_X9_isTargetInBook : zw_MD yX9_isTargetInBook cX9_isTargetInBook 2 (some .boolean) 1 := ⟨(zt_in (zt_t2 117 rfl) rfl), (zt_in (zt_t1 1 rfl) rfl), by decide, by decide, by decide +kernel⟩
theorem md_X9_isStolen : zw_MD yX9_isStolen cX9_isStolen 2 (some .boolean) 1 := ⟨(zt_in (zt_t3 6 rfl) rfl), (zt_in (zt_t1 1 rfl) rfl), by decide, by decide, by decide +kernel⟩
theorem md_X9_userAt : zw_MD yX9_userAt cX9_userAt 2 (some (.object "TicketRealm$User")) 1 := ⟨(zt_in (zt_t1 215 rfl) rfl), (zt_in (zt_t1 1 rfl) rfl), by decide, by decide, by decide +kernel⟩
theorem md_X9_near : zw_MD yX9_near cX9_near 3 (some .boolean) 2 := ⟨(zt_in (zt_t2 125 rfl) rfl), (zt_in (zt_t1 1 rfl) rfl), by decide, by decide, by decide +kernel⟩
theorem md_X9_hasRoom : zw_MD yX9_hasRoom cX9_hasRoom 3 (some .boolean) 2 := ⟨(zt_in (zt_t1 154 rfl) rfl), (zt_in (zt_t1 1 rfl) rfl), by decide, by decide, by decide +kernel⟩
theorem md_X9_makeKey : zw_MD yX9_makeKey cX9_makeKey 2 (some .int) 0 := ⟨(zt_in (zt_t1 158 rfl) rfl), (zt_in (zt_t1 1 rfl) rfl), by decide, by decide, by decide +kernel⟩
theorem md_X9_makeNonce : zw_MD yX9_makeNonce cX9_makeNonce 1 (some .int) 0 := ⟨(zt_in (zt_t1 225 rfl) rfl), (zt_in (zt_t1 1 rfl) rfl), by decide, by decide, by decide +kernel⟩
theorem md_X9_keep : zw_MD yX9_keep cX9_keep 3 (some .int) 1 := ⟨(zt_in (zt_t2 17 rfl) rfl), (zt_in (zt_t1 1 rfl) rfl), by decide, by decide, by decide +kernel⟩
theorem md_X9_sealAt : zw_MD yX9_sealAt cX9_sealAt 2 (some (.object "TicketRealm$Seal")) 1 := ⟨(zt_in (zt_t2 88 rfl) rfl), (zt_in (zt_t1 1 rfl) rfl), by decide, by decide, by decide +kernel⟩
theorem md_X9_open : zw_MD yX9_open cX9_open 4 (some (.object "TicketRealm$Seal")) 2 := ⟨(zt_in (zt_t2 96 rfl) rfl), (zt_in (zt_t1 1 rfl) rfl), by decide, by decide, by decide +kernel⟩
theorem md_X9_openProof : zw_MD yX9_openProof cX9_openProof 5 (some (.object "TicketRealm$Proof")) 2 := ⟨(zt_in (zt_t2 121 rfl) rfl), (zt_in (zt_t1 1 rfl) rfl), by decide, by decide, by decide +kernel⟩
theorem md_X9_openTicket : zw_MD yX9_openTicket cX9_openTicket 5 (some (.object "TicketRealm$Ticket")) 2 := ⟨(zt_in (zt_t2 194 rfl) rfl), (zt_in (zt_t1 1 rfl) rfl), by decide, by decide, by decide +kernel⟩
theorem md_X9_openPart : zw_MD yX9_openPart cX9_openPart 5 (some (.object "TicketRealm$Part")) 2 := ⟨(zt_in (zt_t2 92 rfl) rfl), (zt_in (zt_t1 1 rfl) rfl), by decide, by decide, by decide +kernel⟩
theorem md_X9_openClaim : zw_MD yX9_openClaim cX9_openClaim 5 (some (.object "TicketRealm$Claim")) 2 := ⟨(zt_in (zt_t2 198 rfl) rfl), (zt_in (zt_t1 1 rfl) rfl), by decide, by decide, by decide +kernel⟩
theorem md_X9_firstEnd : zw_MD yX9_firstEnd cX9_firstEnd 5 (some .int) 3 := ⟨(zt_in (zt_t2 132 rfl) rfl), (zt_in (zt_t1 1 rfl) rfl), by decide, by decide, by decide +kernel⟩
theorem md_X9_makeTicketAndPart : zw_MD yX9_makeTicketAndPart cX9_makeTicketAndPart 9 (some .int) 6 := ⟨(zt_in (zt_t2 136 rfl) rfl), (zt_in (zt_t1 1 rfl) rfl), by decide, by decide, by decide +kernel⟩
theorem md_X9_forgedSeal : zw_MD yX9_forgedSeal cX9_forgedSeal 5 (some (.object "TicketRealm$Seal")) 5 := ⟨(zt_in (zt_t3 25 rfl) rfl), (zt_in (zt_t1 1 rfl) rfl), by decide, by decide, by decide +kernel⟩
theorem md_X9_openNonce : zw_MD yX9_openNonce cX9_openNonce 3 (some .int) 1 := ⟨(zt_in (zt_t3 77 rfl) rfl), (zt_in (zt_t1 1 rfl) rfl), by decide, by decide, by decide +kernel⟩
theorem md_X9_heldTicket : zw_MD yX9_heldTicket cX9_heldTicket 4 (some .int) 2 := ⟨(zt_in (zt_t3 81 rfl) rfl), (zt_in (zt_t1 1 rfl) rfl), by decide, by decide, by decide +kernel⟩
theorem md_X10_init : zw_MD yX10_init cX10_init 3 none 1 := ⟨(zt_in (zt_t3 89 rfl) rfl), (zt_in (zt_t1 6 rfl) rfl), by decide, by decide, by decide +kernel⟩
theorem md_X10_in : zw_MD yX10_in cX10_in 3 (some .boolean) 3 := ⟨(zt_in (zt_t3 188 rfl) rfl), (zt_in (zt_t1 6 rfl) rfl), by decide, by decide, by decide +kernel⟩
theorem md_X10_booked : zw_MD yX10_booked cX10_booked 2 (some .boolean) 1 := ⟨(zt_in (zt_t3 196 rfl) rfl), (zt_in (zt_t1 6 rfl) rfl), by decide, by decide, by decide +kernel⟩
theorem md_X10_user : zw_MD yX10_user cX10_user 2 (some .boolean) 1 := ⟨(zt_in (zt_t3 228 rfl) rfl), (zt_in (zt_t1 6 rfl) rfl), by decide, by decide, by decide +kernel⟩
theorem md_X10_near : zw_MD yX10_near cX10_near 5 (some .boolean) 2 := ⟨(zt_in (zt_t4 28 rfl) rfl), (zt_in (zt_t1 6 rfl) rfl), by decide, by decide, by decide +kernel⟩
theorem md_X10_enrol : zw_MD yX10_enrol cX10_enrol 3 (some .int) 1 := ⟨(zt_in (zt_t3 185 rfl) rfl), (zt_in (zt_t1 6 rfl) rfl), by decide, by decide, by decide +kernel⟩
theorem md_X10_remove : zw_MD yX10_remove cX10_remove 3 (some .boolean) 1 := ⟨(zt_in (zt_t3 192 rfl) rfl), (zt_in (zt_t1 6 rfl) rfl), by decide, by decide, by decide +kernel⟩
theorem md_X10_limit : zw_MD yX10_limit cX10_limit 3 (some .boolean) 2 := ⟨(zt_in (zt_t3 200 rfl) rfl), (zt_in (zt_t1 6 rfl) rfl), by decide, by decide, by decide +kernel⟩
theorem md_X10_allow : zw_MD yX10_allow cX10_allow 4 (some .boolean) 3 := ⟨(zt_in (zt_t3 204 rfl) rfl), (zt_in (zt_t1 6 rfl) rfl), by decide, by decide, by decide +kernel⟩
theorem md_X10_copyBook : zw_MD yX10_copyBook cX10_copyBook 6 (some .int) 2 := ⟨(zt_in (zt_t3 212 rfl) rfl), (zt_in (zt_t1 6 rfl) rfl), by decide, by decide, by decide +kernel⟩
theorem md_X10_save : zw_MD yX10_save cX10_save 1 (some .int) 0 := ⟨(zt_in (zt_t3 208 rfl) rfl), (zt_in (zt_t1 6 rfl) rfl), by decide, by decide, by decide +kernel⟩
theorem md_X10_crash : zw_MD yX10_crash cX10_crash 1 (some .int) 0 := ⟨(zt_in (zt_t3 216 rfl) rfl), (zt_in (zt_t1 6 rfl) rfl), by decide, by decide, by decide +kernel⟩
theorem md_X10_tick : zw_MD yX10_tick cX10_tick 3 (some .int) 2 := ⟨(zt_in (zt_t3 220 rfl) rfl), (zt_in (zt_t1 6 rfl) rfl), by decide, by decide, by decide +kernel⟩
theorem md_X10_make : zw_MD yX10_make cX10_make 5 (some .int) 4 := ⟨(zt_in (zt_t4 0 rfl) rfl), (zt_in (zt_t1 6 rfl) rfl), by decide, by decide, by decide +kernel⟩
theorem md_X10_makeProof : zw_MD yX10_makeProof cX10_makeProof 5 (some .int) 3 := ⟨(zt_in (zt_t3 236 rfl) rfl), (zt_in (zt_t1 6 rfl) rfl), by decide, by decide, by decide +kernel⟩
theorem md_X10_makeTicket : zw_MD yX10_makeTicket cX10_makeTicket 8 (some .int) 6 := ⟨(zt_in (zt_t4 39 rfl) rfl), (zt_in (zt_t1 6 rfl) rfl), by decide, by decide, by decide +kernel⟩
theorem md_X10_makePart : zw_MD yX10_makePart cX10_makePart 7 (some .int) 5 := ⟨(zt_in (zt_t4 43 rfl) rfl), (zt_in (zt_t1 6 rfl) rfl), by decide, by decide, by decide +kernel⟩
theorem md_X10_makeClaim : zw_MD yX10_makeClaim cX10_makeClaim 6 (some .int) 4 := ⟨(zt_in (zt_t4 8 rfl) rfl), (zt_in (zt_t1 6 rfl) rfl), by decide, by decide, by decide +kernel⟩
theorem md_X10_opens : zw_MD yX10_opens cX10_opens 4 (some .boolean) 3 := ⟨(zt_in (zt_t4 16 rfl) rfl), (zt_in (zt_t1 6 rfl) rfl), by decide, by decide, by decide +kernel⟩
theorem md_X10_request : zw_MD yX10_request cX10_request 4 none 3 := ⟨(zt_in (zt_t3 232 rfl) rfl), (zt_in (zt_t1 6 rfl) rfl), by decide, by decide, by decide +kernel⟩
theorem md_X10_login : zw_MD yX10_login cX10_login 3 (some .int) 2 := ⟨(zt_in (zt_t3 224 rfl) rfl), (zt_in (zt_t1 6 rfl) rfl), by decide, by decide, by decide +kernel⟩
theorem md_X10_ask : zw_MD yX10_ask cX10_ask 3 (some .int) 2 := ⟨(zt_in (zt_t4 4 rfl) rfl), (zt_in (zt_t1 6 rfl) rfl), by decide, by decide, by decide +kernel⟩
theorem md_X10_receive : zw_MD yX10_receive cX10_receive 4 (some .boolean) 3 := ⟨(zt_in (zt_t4 12 rfl) rfl), (zt_in (zt_t1 6 rfl) rfl), by decide, by decide, by decide +kernel⟩
theorem md_X10_order : zw_MD yX10_order cX10_order 6 (some .int) 4 := ⟨(zt_in (zt_t4 20 rfl) rfl), (zt_in (zt_t1 6 rfl) rfl), by decide, by decide, by decide +kernel⟩
theorem md_X10_least : zw_MD yX10_least cX10_least 2 (some .int) 2 := ⟨(zt_in (zt_t4 31 rfl) rfl), (zt_in (zt_t1 6 rfl) rfl), by decide, by decide, by decide +kernel⟩
theorem md_X10_bothSeals : zw_MD yX10_bothSeals cX10_bothSeals 8 (some .int) 6 := ⟨(zt_in (zt_t4 35 rfl) rfl), (zt_in (zt_t1 6 rfl) rfl), by decide, by decide, by decide +kernel⟩
theorem md_X10_issue : zw_MD yX10_issue cX10_issue 8 (some .int) 5 := ⟨(zt_in (zt_t4 24 rfl) rfl), (zt_in (zt_t1 6 rfl) rfl), by decide, by decide, by decide +kernel⟩
theorem md_X10_grant : zw_MD yX10_grant cX10_grant 9 (some .int) 5 := ⟨(zt_in (zt_t4 47 rfl) rfl), (zt_in (zt_t1 6 rfl) rfl), by decide, by decide, by decide +kernel⟩
theorem md_X10_forgetOld : zw_MD yX10_forgetOld cX10_forgetOld 3 none 0 := ⟨(zt_in (zt_t4 55 rfl) rfl), (zt_in (zt_t1 6 rfl) rfl), by decide, by decide, by decide +kernel⟩
theorem md_X10_same : zw_MD yX10_same cX10_same 4 (some .boolean) 2 := ⟨(zt_in (zt_t4 59 rfl) rfl), (zt_in (zt_t1 6 rfl) rfl), by decide, by decide, by decide +kernel⟩
theorem md_X10_serve : zw_MD yX10_serve cX10_serve 7 (some .int) 2 := ⟨(zt_in (zt_t4 51 rfl) rfl), (zt_in (zt_t1 6 rfl) rfl), by decide, by decide, by decide +kernel⟩
theorem md_X10_answer : zw_MD yX10_answer cX10_answer 1 (some .int) 0 := ⟨(zt_in (zt_t4 63 rfl) rfl), (zt_in (zt_t1 6 rfl) rfl), by decide, by decide, by decide +kernel⟩
theorem md_X10_steal : zw_MD yX10_steal cX10_steal 2 (some .int) 1 := ⟨(zt_in (zt_t4 67 rfl) rfl), (zt_in (zt_t1 6 rfl) rfl), by decide, by decide, by decide +kernel⟩
theorem md_X10_learn : zw_MD yX10_learn cX10_learn 2 (some .int) 1 := ⟨(zt_in (zt_t4 71 rfl) rfl), (zt_in (zt_t1 6 rfl) rfl), by decide, by decide, by decide +kernel⟩
theorem md_X10_isStolen : zw_MD yX10_isStolen cX10_isStolen 2 (some .boolean) 1 := ⟨(zt_in (zt_t4 79 rfl) rfl), (zt_in (zt_t1 6 rfl) rfl), by decide, by decide, by decide +kernel⟩
theorem md_X10_forge : zw_MD yX10_forge cX10_forge 7 (some .int) 5 := ⟨(zt_in (zt_t4 75 rfl) rfl), (zt_in (zt_t1 6 rfl) rfl), by decide, by decide, by decide +kernel⟩
theorem md_X10_seal : zw_MD yX10_seal cX10_seal 4 (some .int) 2 := ⟨(zt_in (zt_t4 84 rfl) rfl), (zt_in (zt_t1 6 rfl) rfl), by decide, by decide, by decide +kernel⟩
theorem md_X10_look : zw_MD yX10_look cX10_look 3 (some .int) 2 := ⟨(zt_in (zt_t4 88 rfl) rfl), (zt_in (zt_t1 6 rfl) rfl), by decide, by decide, by decide +kernel⟩
theorem md_J9_abs_067f4 : zw_MD yJ9_abs_067f4 cJ9_abs_067f4 2 (some .long) 1 := ⟨(zt_in (zt_t2 128 rfl) rfl), (zt_in (zt_t1 4 rfl) rfl), by decide, by decide, by decide +kernel⟩
theorem md_J9_max_7cf53 : zw_MD yJ9_max_7cf53 cJ9_max_7cf53 2 (some .int) 2 := ⟨(zt_in (zt_t1 76 rfl) rfl), (zt_in (zt_t1 4 rfl) rfl), by decide, by decide, by decide +kernel⟩
theorem md_J9_min_7cf53 : zw_MD yJ9_min_7cf53 cJ9_min_7cf53 2 (some .int) 2 := ⟨(zt_in (zt_t1 73 rfl) rfl), (zt_in (zt_t1 4 rfl) rfl), by decide, by decide, by decide +kernel⟩
theorem md_L_cell : zw_MD yL_cell cL_cell 2 (some .int) 2 := ⟨(zt_in (zt_t3 84 rfl) rfl), (zt_in (zt_t1 0 rfl) rfl), by decide, by decide, by decide +kernel⟩
theorem ms_L_15 : Cond.methodLink RL 15 yX9_init ∈ zt_good ∧ Cond.instanceMethod yX9_init ∈ zt_good := ⟨(zt_in (zt_t1 15 rfl) rfl), (zt_in (zt_t1 16 rfl) rfl)⟩
theorem ms_L_20 : Cond.methodLink RL 20 yX10_init ∈ zt_good ∧ Cond.instanceMethod yX10_init ∈ zt_good := ⟨(zt_in (zt_t3 87 rfl) rfl), (zt_in (zt_t3 88 rfl) rfl)⟩
theorem ms_L_9 : Cond.methodLink RL 9 yL_cell ∈ zt_good ∧ Cond.static yL_cell ∈ zt_good := ⟨(zt_in (zt_t3 82 rfl) rfl), (zt_in (zt_t3 83 rfl) rfl)⟩
theorem ms_L_21 : Cond.methodLink RL 21 yX9_enrol ∈ zt_good ∧ Cond.instanceMethod yX9_enrol ∈ zt_good ∧ Cond.selects yX9_enrol.cls yX9_enrol yX9_enrol ∈ zt_good := ⟨(zt_in (zt_t1 144 rfl) rfl), (zt_in (zt_t1 145 rfl) rfl), (zt_in (zt_t1 146 rfl) rfl)⟩
theorem ms_L_25 : Cond.methodLink RL 25 yX10_enrol ∈ zt_good ∧ Cond.instanceMethod yX10_enrol ∈ zt_good ∧ Cond.selects yX10_enrol.cls yX10_enrol yX10_enrol ∈ zt_good := ⟨(zt_in (zt_t3 182 rfl) rfl), (zt_in (zt_t3 183 rfl) rfl), (zt_in (zt_t3 184 rfl) rfl)⟩
theorem ms_L_26 : Cond.methodLink RL 26 yX9_remove ∈ zt_good ∧ Cond.instanceMethod yX9_remove ∈ zt_good ∧ Cond.selects yX9_remove.cls yX9_remove yX9_remove ∈ zt_good := ⟨(zt_in (zt_t1 168 rfl) rfl), (zt_in (zt_t1 169 rfl) rfl), (zt_in (zt_t1 170 rfl) rfl)⟩
theorem ms_L_30 : Cond.methodLink RL 30 yX10_remove ∈ zt_good ∧ Cond.instanceMethod yX10_remove ∈ zt_good ∧ Cond.selects yX10_remove.cls yX10_remove yX10_remove ∈ zt_good := ⟨(zt_in (zt_t3 189 rfl) rfl), (zt_in (zt_t3 190 rfl) rfl), (zt_in (zt_t3 191 rfl) rfl)⟩
theorem ms_L_31 : Cond.methodLink RL 31 yX9_limit ∈ zt_good ∧ Cond.instanceMethod yX9_limit ∈ zt_good ∧ Cond.selects yX9_limit.cls yX9_limit yX9_limit ∈ zt_good := ⟨(zt_in (zt_t1 177 rfl) rfl), (zt_in (zt_t1 178 rfl) rfl), (zt_in (zt_t1 179 rfl) rfl)⟩
theorem ms_L_35 : Cond.methodLink RL 35 yX10_limit ∈ zt_good ∧ Cond.instanceMethod yX10_limit ∈ zt_good ∧ Cond.selects yX10_limit.cls yX10_limit yX10_limit ∈ zt_good := ⟨(zt_in (zt_t3 197 rfl) rfl), (zt_in (zt_t3 198 rfl) rfl), (zt_in (zt_t3 199 rfl) rfl)⟩
theorem ms_L_36 : Cond.methodLink RL 36 yX9_allow ∈ zt_good ∧ Cond.instanceMethod yX9_allow ∈ zt_good ∧ Cond.selects yX9_allow.cls yX9_allow yX9_allow ∈ zt_good := ⟨(zt_in (zt_t1 181 rfl) rfl), (zt_in (zt_t1 182 rfl) rfl), (zt_in (zt_t1 183 rfl) rfl)⟩
theorem ms_L_40 : Cond.methodLink RL 40 yX10_allow ∈ zt_good ∧ Cond.instanceMethod yX10_allow ∈ zt_good ∧ Cond.selects yX10_allow.cls yX10_allow yX10_allow ∈ zt_good := ⟨(zt_in (zt_t3 201 rfl) rfl), (zt_in (zt_t3 202 rfl) rfl), (zt_in (zt_t3 203 rfl) rfl)⟩
theorem ms_L_41 : Cond.methodLink RL 41 yX9_save ∈ zt_good ∧ Cond.instanceMethod yX9_save ∈ zt_good ∧ Cond.selects yX9_save.cls yX9_save yX9_save ∈ zt_good := ⟨(zt_in (zt_t1 188 rfl) rfl), (zt_in (zt_t1 189 rfl) rfl), (zt_in (zt_t1 190 rfl) rfl)⟩
theorem ms_L_45 : Cond.methodLink RL 45 yX10_save ∈ zt_good ∧ Cond.instanceMethod yX10_save ∈ zt_good ∧ Cond.selects yX10_save.cls yX10_save yX10_save ∈ zt_good := ⟨(zt_in (zt_t3 205 rfl) rfl), (zt_in (zt_t3 206 rfl) rfl), (zt_in (zt_t3 207 rfl) rfl)⟩
theorem ms_L_46 : Cond.methodLink RL 46 yX9_crash ∈ zt_good ∧ Cond.instanceMethod yX9_crash ∈ zt_good ∧ Cond.selects yX9_crash.cls yX9_crash yX9_crash ∈ zt_good := ⟨(zt_in (zt_t1 200 rfl) rfl), (zt_in (zt_t1 201 rfl) rfl), (zt_in (zt_t1 202 rfl) rfl)⟩
theorem ms_L_49 : Cond.methodLink RL 49 yX10_crash ∈ zt_good ∧ Cond.instanceMethod yX10_crash ∈ zt_good ∧ Cond.selects yX10_crash.cls yX10_crash yX10_crash ∈ zt_good := ⟨(zt_in (zt_t3 213 rfl) rfl), (zt_in (zt_t3 214 rfl) rfl), (zt_in (zt_t3 215 rfl) rfl)⟩
theorem ms_L_50 : Cond.methodLink RL 50 yX9_tick ∈ zt_good ∧ Cond.instanceMethod yX9_tick ∈ zt_good ∧ Cond.selects yX9_tick.cls yX9_tick yX9_tick ∈ zt_good := ⟨(zt_in (zt_t1 204 rfl) rfl), (zt_in (zt_t1 205 rfl) rfl), (zt_in (zt_t1 206 rfl) rfl)⟩
theorem ms_L_54 : Cond.methodLink RL 54 yX10_tick ∈ zt_good ∧ Cond.instanceMethod yX10_tick ∈ zt_good ∧ Cond.selects yX10_tick.cls yX10_tick yX10_tick ∈ zt_good := ⟨(zt_in (zt_t3 217 rfl) rfl), (zt_in (zt_t3 218 rfl) rfl), (zt_in (zt_t3 219 rfl) rfl)⟩
theorem ms_L_55 : Cond.methodLink RL 55 yX9_login ∈ zt_good ∧ Cond.instanceMethod yX9_login ∈ zt_good ∧ Cond.selects yX9_login.cls yX9_login yX9_login ∈ zt_good := ⟨(zt_in (zt_t1 208 rfl) rfl), (zt_in (zt_t1 209 rfl) rfl), (zt_in (zt_t1 210 rfl) rfl)⟩
theorem ms_L_58 : Cond.methodLink RL 58 yX10_login ∈ zt_good ∧ Cond.instanceMethod yX10_login ∈ zt_good ∧ Cond.selects yX10_login.cls yX10_login yX10_login ∈ zt_good := ⟨(zt_in (zt_t3 221 rfl) rfl), (zt_in (zt_t3 222 rfl) rfl), (zt_in (zt_t3 223 rfl) rfl)⟩
theorem ms_L_59 : Cond.methodLink RL 59 yX9_ask ∈ zt_good ∧ Cond.instanceMethod yX9_ask ∈ zt_good ∧ Cond.selects yX9_ask.cls yX9_ask yX9_ask ∈ zt_good := ⟨(zt_in (zt_t2 18 rfl) rfl), (zt_in (zt_t2 19 rfl) rfl), (zt_in (zt_t2 20 rfl) rfl)⟩
theorem ms_L_62 : Cond.methodLink RL 62 yX10_ask ∈ zt_good ∧ Cond.instanceMethod yX10_ask ∈ zt_good ∧ Cond.selects yX10_ask.cls yX10_ask yX10_ask ∈ zt_good := ⟨(zt_in (zt_t4 1 rfl) rfl), (zt_in (zt_t4 2 rfl) rfl), (zt_in (zt_t4 3 rfl) rfl)⟩
theorem ms_L_63 : Cond.methodLink RL 63 yX9_receive ∈ zt_good ∧ Cond.instanceMethod yX9_receive ∈ zt_good ∧ Cond.selects yX9_receive.cls yX9_receive yX9_receive ∈ zt_good := ⟨(zt_in (zt_t2 77 rfl) rfl), (zt_in (zt_t2 78 rfl) rfl), (zt_in (zt_t2 79 rfl) rfl)⟩
theorem ms_L_66 : Cond.methodLink RL 66 yX10_receive ∈ zt_good ∧ Cond.instanceMethod yX10_receive ∈ zt_good ∧ Cond.selects yX10_receive.cls yX10_receive yX10_receive ∈ zt_good := ⟨(zt_in (zt_t4 9 rfl) rfl), (zt_in (zt_t4 10 rfl) rfl), (zt_in (zt_t4 11 rfl) rfl)⟩
theorem ms_L_67 : Cond.methodLink RL 67 yX9_order ∈ zt_good ∧ Cond.instanceMethod yX9_order ∈ zt_good ∧ Cond.selects yX9_order.cls yX9_order yX9_order ∈ zt_good := ⟨(zt_in (zt_t2 102 rfl) rfl), (zt_in (zt_t2 103 rfl) rfl), (zt_in (zt_t2 104 rfl) rfl)⟩
theorem ms_L_71 : Cond.methodLink RL 71 yX10_order ∈ zt_good ∧ Cond.instanceMethod yX10_order ∈ zt_good ∧ Cond.selects yX10_order.cls yX10_order yX10_order ∈ zt_good := ⟨(zt_in (zt_t4 17 rfl) rfl), (zt_in (zt_t4 18 rfl) rfl), (zt_in (zt_t4 19 rfl) rfl)⟩
theorem ms_L_72 : Cond.methodLink RL 72 yX9_issue ∈ zt_good ∧ Cond.instanceMethod yX9_issue ∈ zt_good ∧ Cond.selects yX9_issue.cls yX9_issue yX9_issue ∈ zt_good := ⟨(zt_in (zt_t2 106 rfl) rfl), (zt_in (zt_t2 107 rfl) rfl), (zt_in (zt_t2 108 rfl) rfl)⟩
theorem ms_L_76 : Cond.methodLink RL 76 yX10_issue ∈ zt_good ∧ Cond.instanceMethod yX10_issue ∈ zt_good ∧ Cond.selects yX10_issue.cls yX10_issue yX10_issue ∈ zt_good := ⟨(zt_in (zt_t4 21 rfl) rfl), (zt_in (zt_t4 22 rfl) rfl), (zt_in (zt_t4 23 rfl) rfl)⟩
theorem ms_L_77 : Cond.methodLink RL 77 yX9_grant ∈ zt_good ∧ Cond.instanceMethod yX9_grant ∈ zt_good ∧ Cond.selects yX9_grant.cls yX9_grant yX9_grant ∈ zt_good := ⟨(zt_in (zt_t2 187 rfl) rfl), (zt_in (zt_t2 188 rfl) rfl), (zt_in (zt_t2 189 rfl) rfl)⟩
theorem ms_L_80 : Cond.methodLink RL 80 yX10_grant ∈ zt_good ∧ Cond.instanceMethod yX10_grant ∈ zt_good ∧ Cond.selects yX10_grant.cls yX10_grant yX10_grant ∈ zt_good := ⟨(zt_in (zt_t4 44 rfl) rfl), (zt_in (zt_t4 45 rfl) rfl), (zt_in (zt_t4 46 rfl) rfl)⟩
theorem ms_L_81 : Cond.methodLink RL 81 yX9_serve ∈ zt_good ∧ Cond.instanceMethod yX9_serve ∈ zt_good ∧ Cond.selects yX9_serve.cls yX9_serve yX9_serve ∈ zt_good := ⟨(zt_in (zt_t2 199 rfl) rfl), (zt_in (zt_t2 200 rfl) rfl), (zt_in (zt_t2 201 rfl) rfl)⟩
theorem ms_L_84 : Cond.methodLink RL 84 yX10_serve ∈ zt_good ∧ Cond.instanceMethod yX10_serve ∈ zt_good ∧ Cond.selects yX10_serve.cls yX10_serve yX10_serve ∈ zt_good := ⟨(zt_in (zt_t4 48 rfl) rfl), (zt_in (zt_t4 49 rfl) rfl), (zt_in (zt_t4 50 rfl) rfl)⟩
theorem ms_L_85 : Cond.methodLink RL 85 yX9_answer ∈ zt_good ∧ Cond.instanceMethod yX9_answer ∈ zt_good ∧ Cond.selects yX9_answer.cls yX9_answer yX9_answer ∈ zt_good := ⟨(zt_in (zt_t2 231 rfl) rfl), (zt_in (zt_t2 232 rfl) rfl), (zt_in (zt_t2 233 rfl) rfl)⟩
theorem ms_L_88 : Cond.methodLink RL 88 yX10_answer ∈ zt_good ∧ Cond.instanceMethod yX10_answer ∈ zt_good ∧ Cond.selects yX10_answer.cls yX10_answer yX10_answer ∈ zt_good := ⟨(zt_in (zt_t4 60 rfl) rfl), (zt_in (zt_t4 61 rfl) rfl), (zt_in (zt_t4 62 rfl) rfl)⟩
theorem ms_L_89 : Cond.methodLink RL 89 yX9_steal ∈ zt_good ∧ Cond.instanceMethod yX9_steal ∈ zt_good ∧ Cond.selects yX9_steal.cls yX9_steal yX9_steal ∈ zt_good := ⟨(zt_in (zt_t2 235 rfl) rfl), (zt_in (zt_t2 236 rfl) rfl), (zt_in (zt_t2 237 rfl) rfl)⟩
theorem ms_L_92 : Cond.methodLink RL 92 yX10_steal ∈ zt_good ∧ Cond.instanceMethod yX10_steal ∈ zt_good ∧ Cond.selects yX10_steal.cls yX10_steal yX10_steal ∈ zt_good := ⟨(zt_in (zt_t4 64 rfl) rfl), (zt_in (zt_t4 65 rfl) rfl), (zt_in (zt_t4 66 rfl) rfl)⟩
theorem ms_L_93 : Cond.methodLink RL 93 yX9_learn ∈ zt_good ∧ Cond.instanceMethod yX9_learn ∈ zt_good ∧ Cond.selects yX9_learn.cls yX9_learn yX9_learn ∈ zt_good := ⟨(zt_in (zt_t2 239 rfl) rfl), (zt_in (zt_t3 0 rfl) rfl), (zt_in (zt_t3 1 rfl) rfl)⟩
theorem ms_L_96 : Cond.methodLink RL 96 yX10_learn ∈ zt_good ∧ Cond.instanceMethod yX10_learn ∈ zt_good ∧ Cond.selects yX10_learn.cls yX10_learn yX10_learn ∈ zt_good := ⟨(zt_in (zt_t4 68 rfl) rfl), (zt_in (zt_t4 69 rfl) rfl), (zt_in (zt_t4 70 rfl) rfl)⟩
theorem ms_L_97 : Cond.methodLink RL 97 yX9_forge ∈ zt_good ∧ Cond.instanceMethod yX9_forge ∈ zt_good ∧ Cond.selects yX9_forge.cls yX9_forge yX9_forge ∈ zt_good := ⟨(zt_in (zt_t3 19 rfl) rfl), (zt_in (zt_t3 20 rfl) rfl), (zt_in (zt_t3 21 rfl) rfl)⟩
theorem ms_L_100 : Cond.methodLink RL 100 yX10_forge ∈ zt_good ∧ Cond.instanceMethod yX10_forge ∈ zt_good ∧ Cond.selects yX10_forge.cls yX10_forge yX10_forge ∈ zt_good := ⟨(zt_in (zt_t4 72 rfl) rfl), (zt_in (zt_t4 73 rfl) rfl), (zt_in (zt_t4 74 rfl) rfl)⟩
theorem ms_L_101 : Cond.methodLink RL 101 yX9_seal ∈ zt_good ∧ Cond.instanceMethod yX9_seal ∈ zt_good ∧ Cond.selects yX9_seal.cls yX9_seal yX9_seal ∈ zt_good := ⟨(zt_in (zt_t3 27 rfl) rfl), (zt_in (zt_t3 28 rfl) rfl), (zt_in (zt_t3 29 rfl) rfl)⟩
theorem ms_L_104 : Cond.methodLink RL 104 yX10_seal ∈ zt_good ∧ Cond.instanceMethod yX10_seal ∈ zt_good ∧ Cond.selects yX10_seal.cls yX10_seal yX10_seal ∈ zt_good := ⟨(zt_in (zt_t4 81 rfl) rfl), (zt_in (zt_t4 82 rfl) rfl), (zt_in (zt_t4 83 rfl) rfl)⟩
theorem ms_L_105 : Cond.methodLink RL 105 yX9_look ∈ zt_good ∧ Cond.instanceMethod yX9_look ∈ zt_good ∧ Cond.selects yX9_look.cls yX9_look yX9_look ∈ zt_good := ⟨(zt_in (zt_t3 70 rfl) rfl), (zt_in (zt_t3 71 rfl) rfl), (zt_in (zt_t3 72 rfl) rfl)⟩
theorem ms_L_108 : Cond.methodLink RL 108 yX10_look ∈ zt_good ∧ Cond.instanceMethod yX10_look ∈ zt_good ∧ Cond.selects yX10_look.cls yX10_look yX10_look ∈ zt_good := ⟨(zt_in (zt_t4 85 rfl) rfl), (zt_in (zt_t4 86 rfl) rfl), (zt_in (zt_t4 87 rfl) rfl)⟩
theorem ms_X0_3 : Cond.methodLink RX0 3 objectInit ∈ zt_good ∧ Cond.instanceMethod objectInit ∈ zt_good ∧ Cond.code objectInit ⟨#[0xb1]⟩ 1 none ∈ zt_good := ⟨(zt_in (zt_t1 26 rfl) rfl), (zt_in (zt_t1 19 rfl) rfl), (zt_in (zt_t1 20 rfl) rfl)⟩
theorem ms_X0_23 : (RX0, 23, yX9_isPrincipal, "TicketRealm") ∈ zt_nest ∧ Cond.static yX9_isPrincipal ∈ zt_good := ⟨(by unfold zt_nest; simp [RX0, yX9_isPrincipal, RX9]), (zt_in (zt_t1 149 rfl) rfl)⟩
theorem ms_X0_27 : Cond.methodLink RX0 27 yX0_holds ∈ zt_good ∧ Cond.instanceMethod yX0_holds ∈ zt_good ∧ Cond.selects yX0_holds.cls yX0_holds yX0_holds ∈ zt_good := ⟨(zt_in (zt_t1 163 rfl) rfl), (zt_in (zt_t1 164 rfl) rfl), (zt_in (zt_t1 165 rfl) rfl)⟩
theorem ms_X1_3 : Cond.methodLink RX1 3 yX6_init ∈ zt_good ∧ Cond.instanceMethod yX6_init ∈ zt_good := ⟨(zt_in (zt_t2 57 rfl) rfl), (zt_in (zt_t1 236 rfl) rfl)⟩
theorem ms_X1_28 : Cond.methodLink RX1 28 yX3_sameAs ∈ zt_good ∧ Cond.instanceMethod yX3_sameAs ∈ zt_good ∧ Cond.selects yX3_sameAs.cls yX3_sameAs yX3_sameAs ∈ zt_good := ⟨(zt_in (zt_t2 215 rfl) rfl), (zt_in (zt_t2 216 rfl) rfl), (zt_in (zt_t2 217 rfl) rfl)⟩
theorem ms_X10_1 : Cond.methodLink RX10 1 objectInit ∈ zt_good ∧ Cond.instanceMethod objectInit ∈ zt_good ∧ Cond.code objectInit ⟨#[0xb1]⟩ 1 none ∈ zt_good := ⟨(zt_in (zt_t3 90 rfl) rfl), (zt_in (zt_t1 19 rfl) rfl), (zt_in (zt_t1 20 rfl) rfl)⟩
theorem ms_X10_87 : Cond.methodLink RX10 87 yX10_in ∈ zt_good ∧ Cond.static yX10_in ∈ zt_good := ⟨(zt_in (zt_t3 186 rfl) rfl), (zt_in (zt_t3 187 rfl) rfl)⟩
theorem ms_X10_141 : Cond.methodLink RX10 141 yX10_least ∈ zt_good ∧ Cond.static yX10_least ∈ zt_good := ⟨(zt_in (zt_t4 29 rfl) rfl), (zt_in (zt_t4 30 rfl) rfl)⟩
theorem ms_X10_94 : Cond.methodLink RX10 94 yX10_booked ∈ zt_good ∧ Cond.instanceMethod yX10_booked ∈ zt_good ∧ Cond.selects yX10_booked.cls yX10_booked yX10_booked ∈ zt_good := ⟨(zt_in (zt_t3 193 rfl) rfl), (zt_in (zt_t3 195 rfl) rfl), (zt_in (zt_t0 19 rfl) rfl)⟩
theorem ms_X10_98 : Cond.methodLink RX10 98 yX10_copyBook ∈ zt_good ∧ Cond.instanceMethod yX10_copyBook ∈ zt_good ∧ Cond.selects yX10_copyBook.cls yX10_copyBook yX10_copyBook ∈ zt_good := ⟨(zt_in (zt_t3 209 rfl) rfl), (zt_in (zt_t3 211 rfl) rfl), (zt_in (zt_t0 20 rfl) rfl)⟩
theorem ms_X10_105 : Cond.methodLink RX10 105 yX10_make ∈ zt_good ∧ Cond.instanceMethod yX10_make ∈ zt_good ∧ Cond.selects yX10_make.cls yX10_make yX10_make ∈ zt_good := ⟨(zt_in (zt_t3 237 rfl) rfl), (zt_in (zt_t3 239 rfl) rfl), (zt_in (zt_t0 24 rfl) rfl)⟩
theorem ms_X10_112 : Cond.methodLink RX10 112 yX10_user ∈ zt_good ∧ Cond.instanceMethod yX10_user ∈ zt_good ∧ Cond.selects yX10_user.cls yX10_user yX10_user ∈ zt_good := ⟨(zt_in (zt_t3 225 rfl) rfl), (zt_in (zt_t3 227 rfl) rfl), (zt_in (zt_t0 21 rfl) rfl)⟩
theorem ms_X10_115 : Cond.methodLink RX10 115 yX10_request ∈ zt_good ∧ Cond.instanceMethod yX10_request ∈ zt_good ∧ Cond.selects yX10_request.cls yX10_request yX10_request ∈ zt_good := ⟨(zt_in (zt_t3 229 rfl) rfl), (zt_in (zt_t3 231 rfl) rfl), (zt_in (zt_t0 22 rfl) rfl)⟩
theorem ms_X10_119 : Cond.methodLink RX10 119 yX10_makeProof ∈ zt_good ∧ Cond.instanceMethod yX10_makeProof ∈ zt_good ∧ Cond.selects yX10_makeProof.cls yX10_makeProof yX10_makeProof ∈ zt_good := ⟨(zt_in (zt_t3 233 rfl) rfl), (zt_in (zt_t3 235 rfl) rfl), (zt_in (zt_t0 23 rfl) rfl)⟩
theorem ms_X10_123 : Cond.methodLink RX10 123 yX10_makeClaim ∈ zt_good ∧ Cond.instanceMethod yX10_makeClaim ∈ zt_good ∧ Cond.selects yX10_makeClaim.cls yX10_makeClaim yX10_makeClaim ∈ zt_good := ⟨(zt_in (zt_t4 5 rfl) rfl), (zt_in (zt_t4 7 rfl) rfl), (zt_in (zt_t0 25 rfl) rfl)⟩
theorem ms_X10_126 : Cond.methodLink RX10 126 yX10_opens ∈ zt_good ∧ Cond.instanceMethod yX10_opens ∈ zt_good ∧ Cond.selects yX10_opens.cls yX10_opens yX10_opens ∈ zt_good := ⟨(zt_in (zt_t4 13 rfl) rfl), (zt_in (zt_t4 15 rfl) rfl), (zt_in (zt_t0 26 rfl) rfl)⟩
theorem ms_X10_129 : Cond.methodLink RX10 129 yX10_makeTicket ∈ zt_good ∧ Cond.instanceMethod yX10_makeTicket ∈ zt_good ∧ Cond.selects yX10_makeTicket.cls yX10_makeTicket yX10_makeTicket ∈ zt_good := ⟨(zt_in (zt_t4 36 rfl) rfl), (zt_in (zt_t4 38 rfl) rfl), (zt_in (zt_t0 29 rfl) rfl)⟩
theorem ms_X10_133 : Cond.methodLink RX10 133 yX10_makePart ∈ zt_good ∧ Cond.instanceMethod yX10_makePart ∈ zt_good ∧ Cond.selects yX10_makePart.cls yX10_makePart yX10_makePart ∈ zt_good := ⟨(zt_in (zt_t4 40 rfl) rfl), (zt_in (zt_t4 42 rfl) rfl), (zt_in (zt_t0 30 rfl) rfl)⟩
theorem ms_X10_137 : Cond.methodLink RX10 137 yX10_near ∈ zt_good ∧ Cond.instanceMethod yX10_near ∈ zt_good ∧ Cond.selects yX10_near.cls yX10_near yX10_near ∈ zt_good := ⟨(zt_in (zt_t4 25 rfl) rfl), (zt_in (zt_t4 27 rfl) rfl), (zt_in (zt_t0 27 rfl) rfl)⟩
theorem ms_X10_144 : Cond.methodLink RX10 144 yX10_bothSeals ∈ zt_good ∧ Cond.instanceMethod yX10_bothSeals ∈ zt_good ∧ Cond.selects yX10_bothSeals.cls yX10_bothSeals yX10_bothSeals ∈ zt_good := ⟨(zt_in (zt_t4 32 rfl) rfl), (zt_in (zt_t4 34 rfl) rfl), (zt_in (zt_t0 28 rfl) rfl)⟩
theorem ms_X10_150 : Cond.methodLink RX10 150 yX10_forgetOld ∈ zt_good ∧ Cond.instanceMethod yX10_forgetOld ∈ zt_good ∧ Cond.selects yX10_forgetOld.cls yX10_forgetOld yX10_forgetOld ∈ zt_good := ⟨(zt_in (zt_t4 52 rfl) rfl), (zt_in (zt_t4 54 rfl) rfl), (zt_in (zt_t0 31 rfl) rfl)⟩
theorem ms_X10_153 : Cond.methodLink RX10 153 yX10_same ∈ zt_good ∧ Cond.instanceMethod yX10_same ∈ zt_good ∧ Cond.selects yX10_same.cls yX10_same yX10_same ∈ zt_good := ⟨(zt_in (zt_t4 56 rfl) rfl), (zt_in (zt_t4 58 rfl) rfl), (zt_in (zt_t0 32 rfl) rfl)⟩
theorem ms_X10_159 : Cond.methodLink RX10 159 yX10_isStolen ∈ zt_good ∧ Cond.instanceMethod yX10_isStolen ∈ zt_good ∧ Cond.selects yX10_isStolen.cls yX10_isStolen yX10_isStolen ∈ zt_good := ⟨(zt_in (zt_t4 76 rfl) rfl), (zt_in (zt_t4 78 rfl) rfl), (zt_in (zt_t0 33 rfl) rfl)⟩
theorem ms_X2_3 : Cond.methodLink RX2 3 objectInit ∈ zt_good ∧ Cond.instanceMethod objectInit ∈ zt_good ∧ Cond.code objectInit ⟨#[0xb1]⟩ 1 none ∈ zt_good := ⟨(zt_in (zt_t1 50 rfl) rfl), (zt_in (zt_t1 19 rfl) rfl), (zt_in (zt_t1 20 rfl) rfl)⟩
theorem ms_X2_31 : Cond.methodLink RX2 31 yX1_sameAs ∈ zt_good ∧ Cond.instanceMethod yX1_sameAs ∈ zt_good ∧ Cond.selects yX1_sameAs.cls yX1_sameAs yX1_sameAs ∈ zt_good := ⟨(zt_in (zt_t2 211 rfl) rfl), (zt_in (zt_t2 212 rfl) rfl), (zt_in (zt_t2 213 rfl) rfl)⟩
theorem ms_X3_1 : Cond.methodLink RX3 1 objectInit ∈ zt_good ∧ Cond.instanceMethod objectInit ∈ zt_good ∧ Cond.code objectInit ⟨#[0xb1]⟩ 1 none ∈ zt_good := ⟨(zt_in (zt_t2 37 rfl) rfl), (zt_in (zt_t1 19 rfl) rfl), (zt_in (zt_t1 20 rfl) rfl)⟩
theorem ms_X4_3 : Cond.methodLink RX4 3 yX6_init ∈ zt_good ∧ Cond.instanceMethod yX6_init ∈ zt_good := ⟨(zt_in (zt_t2 169 rfl) rfl), (zt_in (zt_t1 236 rfl) rfl)⟩
theorem ms_X5_3 : Cond.methodLink RX5 3 yX6_init ∈ zt_good ∧ Cond.instanceMethod yX6_init ∈ zt_good := ⟨(zt_in (zt_t1 235 rfl) rfl), (zt_in (zt_t1 236 rfl) rfl)⟩
theorem ms_X6_3 : Cond.methodLink RX6 3 objectInit ∈ zt_good ∧ Cond.instanceMethod objectInit ∈ zt_good ∧ Cond.code objectInit ⟨#[0xb1]⟩ 1 none ∈ zt_good := ⟨(zt_in (zt_t1 238 rfl) rfl), (zt_in (zt_t1 19 rfl) rfl), (zt_in (zt_t1 20 rfl) rfl)⟩
theorem ms_X7_3 : Cond.methodLink RX7 3 yX6_init ∈ zt_good ∧ Cond.instanceMethod yX6_init ∈ zt_good := ⟨(zt_in (zt_t2 142 rfl) rfl), (zt_in (zt_t1 236 rfl) rfl)⟩
theorem ms_X8_3 : Cond.methodLink RX8 3 objectInit ∈ zt_good ∧ Cond.instanceMethod objectInit ∈ zt_good ∧ Cond.code objectInit ⟨#[0xb1]⟩ 1 none ∈ zt_good := ⟨(zt_in (zt_t1 81 rfl) rfl), (zt_in (zt_t1 19 rfl) rfl), (zt_in (zt_t1 20 rfl) rfl)⟩
theorem ms_X9_1 : Cond.methodLink RX9 1 objectInit ∈ zt_good ∧ Cond.instanceMethod objectInit ∈ zt_good ∧ Cond.code objectInit ⟨#[0xb1]⟩ 1 none ∈ zt_good := ⟨(zt_in (zt_t1 18 rfl) rfl), (zt_in (zt_t1 19 rfl) rfl), (zt_in (zt_t1 20 rfl) rfl)⟩
theorem ms_X9_18 : Cond.methodLink RX9 18 yX0_init ∈ zt_good ∧ Cond.instanceMethod yX0_init ∈ zt_good := ⟨(zt_in (zt_t1 23 rfl) rfl), (zt_in (zt_t1 24 rfl) rfl)⟩
theorem ms_X9_34 : (RX9, 34, yX2_init, "TicketRealm") ∈ zt_nest ∧ Cond.instanceMethod yX2_init ∈ zt_good := ⟨(by unfold zt_nest; simp [RX9, yX2_init, RX2]), (zt_in (zt_t1 48 rfl) rfl)⟩
theorem ms_X9_71 : Cond.methodLink RX9 71 yX8_init ∈ zt_good ∧ Cond.instanceMethod yX8_init ∈ zt_good := ⟨(zt_in (zt_t1 78 rfl) rfl), (zt_in (zt_t1 79 rfl) rfl)⟩
theorem ms_X9_128 : Cond.methodLink RX9 128 yX5_init ∈ zt_good ∧ Cond.instanceMethod yX5_init ∈ zt_good := ⟨(zt_in (zt_t1 232 rfl) rfl), (zt_in (zt_t1 233 rfl) rfl)⟩
theorem ms_X9_147 : Cond.methodLink RX9 147 yX3_init ∈ zt_good ∧ Cond.instanceMethod yX3_init ∈ zt_good := ⟨(zt_in (zt_t2 34 rfl) rfl), (zt_in (zt_t2 35 rfl) rfl)⟩
theorem ms_X9_148 : Cond.methodLink RX9 148 yX1_init ∈ zt_good ∧ Cond.instanceMethod yX1_init ∈ zt_good := ⟨(zt_in (zt_t2 54 rfl) rfl), (zt_in (zt_t2 55 rfl) rfl)⟩
theorem ms_X9_313 : Cond.methodLink RX9 313 yX7_init ∈ zt_good ∧ Cond.instanceMethod yX7_init ∈ zt_good := ⟨(zt_in (zt_t2 139 rfl) rfl), (zt_in (zt_t2 140 rfl) rfl)⟩
theorem ms_X9_316 : Cond.methodLink RX9 316 yX4_init ∈ zt_good ∧ Cond.instanceMethod yX4_init ∈ zt_good := ⟨(zt_in (zt_t2 166 rfl) rfl), (zt_in (zt_t2 167 rfl) rfl)⟩
theorem ms_X9_59 : Cond.methodLink RX9 59 yJ9_min_7cf53 ∈ zt_good ∧ Cond.static yJ9_min_7cf53 ∈ zt_good := ⟨(zt_in (zt_t1 71 rfl) rfl), (zt_in (zt_t1 72 rfl) rfl)⟩
theorem ms_X9_65 : Cond.methodLink RX9 65 yJ9_max_7cf53 ∈ zt_good ∧ Cond.static yJ9_max_7cf53 ∈ zt_good := ⟨(zt_in (zt_t1 74 rfl) rfl), (zt_in (zt_t1 75 rfl) rfl)⟩
theorem ms_X9_72 : Cond.methodLink RX9 72 yX9_isPrincipal ∈ zt_good ∧ Cond.static yX9_isPrincipal ∈ zt_good := ⟨(zt_in (zt_t1 148 rfl) rfl), (zt_in (zt_t1 149 rfl) rfl)⟩
theorem ms_X9_98 : Cond.methodLink RX9 98 yX9_isFile ∈ zt_good ∧ Cond.static yX9_isFile ∈ zt_good := ⟨(zt_in (zt_t1 185 rfl) rfl), (zt_in (zt_t1 186 rfl) rfl)⟩
theorem ms_X9_116 : Cond.methodLink RX9 116 yX9_isTarget ∈ zt_good ∧ Cond.static yX9_isTarget ∈ zt_good := ⟨(zt_in (zt_t1 219 rfl) rfl), (zt_in (zt_t1 220 rfl) rfl)⟩
theorem ms_X9_276 : Cond.methodLink RX9 276 yX9_forgedSeal ∈ zt_good ∧ Cond.static yX9_forgedSeal ∈ zt_good := ⟨(zt_in (zt_t3 23 rfl) rfl), (zt_in (zt_t3 24 rfl) rfl)⟩
theorem ms_X9_302 : Cond.methodLink RX9 302 yX9_isUser ∈ zt_good ∧ Cond.static yX9_isUser ∈ zt_good := ⟨(zt_in (zt_t1 216 rfl) rfl), (zt_in (zt_t1 217 rfl) rfl)⟩
theorem ms_X9_305 : Cond.methodLink RX9 305 yJ9_abs_067f4 ∈ zt_good ∧ Cond.static yJ9_abs_067f4 ∈ zt_good := ⟨(zt_in (zt_t2 126 rfl) rfl), (zt_in (zt_t2 127 rfl) rfl)⟩
theorem ms_X9_76 : Cond.methodLink RX9 76 yX9_hasRoom ∈ zt_good ∧ Cond.instanceMethod yX9_hasRoom ∈ zt_good ∧ Cond.selects yX9_hasRoom.cls yX9_hasRoom yX9_hasRoom ∈ zt_good := ⟨(zt_in (zt_t1 151 rfl) rfl), (zt_in (zt_t1 153 rfl) rfl), (zt_in (zt_t0 0 rfl) rfl)⟩
theorem ms_X9_80 : Cond.methodLink RX9 80 yX9_makeKey ∈ zt_good ∧ Cond.instanceMethod yX9_makeKey ∈ zt_good ∧ Cond.selects yX9_makeKey.cls yX9_makeKey yX9_makeKey ∈ zt_good := ⟨(zt_in (zt_t1 155 rfl) rfl), (zt_in (zt_t1 157 rfl) rfl), (zt_in (zt_t0 1 rfl) rfl)⟩
theorem ms_X9_84 : Cond.methodLink RX9 84 yX0_enter ∈ zt_good ∧ Cond.instanceMethod yX0_enter ∈ zt_good ∧ Cond.selects yX0_enter.cls yX0_enter yX0_enter ∈ zt_good := ⟨(zt_in (zt_t1 159 rfl) rfl), (zt_in (zt_t1 160 rfl) rfl), (zt_in (zt_t1 161 rfl) rfl)⟩
theorem ms_X9_88 : Cond.methodLink RX9 88 yX0_holds ∈ zt_good ∧ Cond.instanceMethod yX0_holds ∈ zt_good ∧ Cond.selects yX0_holds.cls yX0_holds yX0_holds ∈ zt_good := ⟨(zt_in (zt_t1 172 rfl) rfl), (zt_in (zt_t1 164 rfl) rfl), (zt_in (zt_t1 165 rfl) rfl)⟩
theorem ms_X9_91 : Cond.methodLink RX9 91 yX0_strike ∈ zt_good ∧ Cond.instanceMethod yX0_strike ∈ zt_good ∧ Cond.selects yX0_strike.cls yX0_strike yX0_strike ∈ zt_good := ⟨(zt_in (zt_t1 173 rfl) rfl), (zt_in (zt_t1 174 rfl) rfl), (zt_in (zt_t1 175 rfl) rfl)⟩
theorem ms_X9_105 : Cond.methodLink RX9 105 yX0_copyFrom ∈ zt_good ∧ Cond.instanceMethod yX0_copyFrom ∈ zt_good ∧ Cond.selects yX0_copyFrom.cls yX0_copyFrom yX0_copyFrom ∈ zt_good := ⟨(zt_in (zt_t1 192 rfl) rfl), (zt_in (zt_t1 193 rfl) rfl), (zt_in (zt_t1 194 rfl) rfl)⟩
theorem ms_X9_109 : Cond.methodLink RX9 109 yX0_size ∈ zt_good ∧ Cond.instanceMethod yX0_size ∈ zt_good ∧ Cond.selects yX0_size.cls yX0_size yX0_size ∈ zt_good := ⟨(zt_in (zt_t1 196 rfl) rfl), (zt_in (zt_t1 197 rfl) rfl), (zt_in (zt_t1 198 rfl) rfl)⟩
theorem ms_X9_112 : Cond.methodLink RX9 112 yX9_userAt ∈ zt_good ∧ Cond.instanceMethod yX9_userAt ∈ zt_good ∧ Cond.selects yX9_userAt.cls yX9_userAt yX9_userAt ∈ zt_good := ⟨(zt_in (zt_t1 212 rfl) rfl), (zt_in (zt_t1 214 rfl) rfl), (zt_in (zt_t0 2 rfl) rfl)⟩
theorem ms_X9_119 : Cond.methodLink RX9 119 yX9_makeNonce ∈ zt_good ∧ Cond.instanceMethod yX9_makeNonce ∈ zt_good ∧ Cond.selects yX9_makeNonce.cls yX9_makeNonce yX9_makeNonce ∈ zt_good := ⟨(zt_in (zt_t1 222 rfl) rfl), (zt_in (zt_t1 224 rfl) rfl), (zt_in (zt_t0 3 rfl) rfl)⟩
theorem ms_X9_122 : Cond.methodLink RX9 122 yX8_openRequest ∈ zt_good ∧ Cond.instanceMethod yX8_openRequest ∈ zt_good ∧ Cond.selects yX8_openRequest.cls yX8_openRequest yX8_openRequest ∈ zt_good := ⟨(zt_in (zt_t1 226 rfl) rfl), (zt_in (zt_t1 227 rfl) rfl), (zt_in (zt_t1 228 rfl) rfl)⟩
theorem ms_X9_130 : Cond.methodLink RX9 130 yX9_keep ∈ zt_good ∧ Cond.instanceMethod yX9_keep ∈ zt_good ∧ Cond.selects yX9_keep.cls yX9_keep yX9_keep ∈ zt_good := ⟨(zt_in (zt_t2 14 rfl) rfl), (zt_in (zt_t2 16 rfl) rfl), (zt_in (zt_t0 4 rfl) rfl)⟩
theorem ms_X9_134 : Cond.methodLink RX9 134 yX8_hasCredential ∈ zt_good ∧ Cond.instanceMethod yX8_hasCredential ∈ zt_good ∧ Cond.selects yX8_hasCredential.cls yX8_hasCredential yX8_hasCredential ∈ zt_good := ⟨(zt_in (zt_t2 22 rfl) rfl), (zt_in (zt_t2 23 rfl) rfl), (zt_in (zt_t2 24 rfl) rfl)⟩
theorem ms_X9_142 : Cond.methodLink RX9 142 yX8_makeSerial ∈ zt_good ∧ Cond.instanceMethod yX8_makeSerial ∈ zt_good ∧ Cond.selects yX8_makeSerial.cls yX8_makeSerial yX8_makeSerial ∈ zt_good := ⟨(zt_in (zt_t2 28 rfl) rfl), (zt_in (zt_t2 29 rfl) rfl), (zt_in (zt_t2 30 rfl) rfl)⟩
theorem ms_X9_151 : Cond.methodLink RX9 151 yX8_hasRequest ∈ zt_good ∧ Cond.instanceMethod yX8_hasRequest ∈ zt_good ∧ Cond.selects yX8_hasRequest.cls yX8_hasRequest yX8_hasRequest ∈ zt_good := ⟨(zt_in (zt_t2 81 rfl) rfl), (zt_in (zt_t2 82 rfl) rfl), (zt_in (zt_t2 83 rfl) rfl)⟩
theorem ms_X9_155 : Cond.methodLink RX9 155 yX9_sealAt ∈ zt_good ∧ Cond.instanceMethod yX9_sealAt ∈ zt_good ∧ Cond.selects yX9_sealAt.cls yX9_sealAt yX9_sealAt ∈ zt_good := ⟨(zt_in (zt_t2 85 rfl) rfl), (zt_in (zt_t2 87 rfl) rfl), (zt_in (zt_t0 5 rfl) rfl)⟩
theorem ms_X9_162 : Cond.methodLink RX9 162 yX9_openPart ∈ zt_good ∧ Cond.instanceMethod yX9_openPart ∈ zt_good ∧ Cond.selects yX9_openPart.cls yX9_openPart yX9_openPart ∈ zt_good := ⟨(zt_in (zt_t2 89 rfl) rfl), (zt_in (zt_t2 91 rfl) rfl), (zt_in (zt_t0 6 rfl) rfl)⟩
theorem ms_X9_183 : Cond.methodLink RX9 183 yX8_closeRequest ∈ zt_good ∧ Cond.instanceMethod yX8_closeRequest ∈ zt_good ∧ Cond.selects yX8_closeRequest.cls yX8_closeRequest yX8_closeRequest ∈ zt_good := ⟨(zt_in (zt_t2 98 rfl) rfl), (zt_in (zt_t2 99 rfl) rfl), (zt_in (zt_t2 100 rfl) rfl)⟩
theorem ms_X9_186 : Cond.methodLink RX9 186 yX9_isUserInBook ∈ zt_good ∧ Cond.instanceMethod yX9_isUserInBook ∈ zt_good ∧ Cond.selects yX9_isUserInBook.cls yX9_isUserInBook yX9_isUserInBook ∈ zt_good := ⟨(zt_in (zt_t2 110 rfl) rfl), (zt_in (zt_t2 112 rfl) rfl), (zt_in (zt_t0 8 rfl) rfl)⟩
theorem ms_X9_189 : Cond.methodLink RX9 189 yX9_isTargetInBook ∈ zt_good ∧ Cond.instanceMethod yX9_isTargetInBook ∈ zt_good ∧ Cond.selects yX9_isTargetInBook.cls yX9_isTargetInBook yX9_isTargetInBook ∈ zt_good := ⟨(zt_in (zt_t2 114 rfl) rfl), (zt_in (zt_t2 116 rfl) rfl), (zt_in (zt_t0 9 rfl) rfl)⟩
theorem ms_X9_195 : Cond.methodLink RX9 195 yX9_openProof ∈ zt_good ∧ Cond.instanceMethod yX9_openProof ∈ zt_good ∧ Cond.selects yX9_openProof.cls yX9_openProof yX9_openProof ∈ zt_good := ⟨(zt_in (zt_t2 118 rfl) rfl), (zt_in (zt_t2 120 rfl) rfl), (zt_in (zt_t0 10 rfl) rfl)⟩
theorem ms_X9_205 : Cond.methodLink RX9 205 yX9_near ∈ zt_good ∧ Cond.instanceMethod yX9_near ∈ zt_good ∧ Cond.selects yX9_near.cls yX9_near yX9_near ∈ zt_good := ⟨(zt_in (zt_t2 122 rfl) rfl), (zt_in (zt_t2 124 rfl) rfl), (zt_in (zt_t0 11 rfl) rfl)⟩
theorem ms_X9_208 : Cond.methodLink RX9 208 yX9_firstEnd ∈ zt_good ∧ Cond.instanceMethod yX9_firstEnd ∈ zt_good ∧ Cond.selects yX9_firstEnd.cls yX9_firstEnd yX9_firstEnd ∈ zt_good := ⟨(zt_in (zt_t2 129 rfl) rfl), (zt_in (zt_t2 131 rfl) rfl), (zt_in (zt_t0 12 rfl) rfl)⟩
theorem ms_X9_212 : Cond.methodLink RX9 212 yX9_makeTicketAndPart ∈ zt_good ∧ Cond.instanceMethod yX9_makeTicketAndPart ∈ zt_good ∧ Cond.selects yX9_makeTicketAndPart.cls yX9_makeTicketAndPart yX9_makeTicketAndPart ∈ zt_good := ⟨(zt_in (zt_t2 133 rfl) rfl), (zt_in (zt_t2 135 rfl) rfl), (zt_in (zt_t0 13 rfl) rfl)⟩
theorem ms_X9_216 : Cond.methodLink RX9 216 yX9_openTicket ∈ zt_good ∧ Cond.instanceMethod yX9_openTicket ∈ zt_good ∧ Cond.selects yX9_openTicket.cls yX9_openTicket yX9_openTicket ∈ zt_good := ⟨(zt_in (zt_t2 191 rfl) rfl), (zt_in (zt_t2 193 rfl) rfl), (zt_in (zt_t0 14 rfl) rfl)⟩
theorem ms_X9_223 : Cond.methodLink RX9 223 yX9_openClaim ∈ zt_good ∧ Cond.instanceMethod yX9_openClaim ∈ zt_good ∧ Cond.selects yX9_openClaim.cls yX9_openClaim yX9_openClaim ∈ zt_good := ⟨(zt_in (zt_t2 195 rfl) rfl), (zt_in (zt_t2 197 rfl) rfl), (zt_in (zt_t0 15 rfl) rfl)⟩
theorem ms_X9_243 : Cond.methodLink RX9 243 yX2_dropClaimsBefore ∈ zt_good ∧ Cond.instanceMethod yX2_dropClaimsBefore ∈ zt_good ∧ Cond.selects yX2_dropClaimsBefore.cls yX2_dropClaimsBefore yX2_dropClaimsBefore ∈ zt_good := ⟨(zt_in (zt_t2 203 rfl) rfl), (zt_in (zt_t2 204 rfl) rfl), (zt_in (zt_t2 205 rfl) rfl)⟩
theorem ms_X9_249 : Cond.methodLink RX9 249 yX2_hasServed ∈ zt_good ∧ Cond.instanceMethod yX2_hasServed ∈ zt_good ∧ Cond.selects yX2_hasServed.cls yX2_hasServed yX2_hasServed ∈ zt_good := ⟨(zt_in (zt_t2 207 rfl) rfl), (zt_in (zt_t2 208 rfl) rfl), (zt_in (zt_t2 209 rfl) rfl)⟩
theorem ms_X9_253 : Cond.methodLink RX9 253 yX0_permits ∈ zt_good ∧ Cond.instanceMethod yX0_permits ∈ zt_good ∧ Cond.selects yX0_permits.cls yX0_permits yX0_permits ∈ zt_good := ⟨(zt_in (zt_t2 219 rfl) rfl), (zt_in (zt_t2 220 rfl) rfl), (zt_in (zt_t2 221 rfl) rfl)⟩
theorem ms_X9_257 : Cond.methodLink RX9 257 yX2_cacheIsFull ∈ zt_good ∧ Cond.instanceMethod yX2_cacheIsFull ∈ zt_good ∧ Cond.selects yX2_cacheIsFull.cls yX2_cacheIsFull yX2_cacheIsFull ∈ zt_good := ⟨(zt_in (zt_t2 223 rfl) rfl), (zt_in (zt_t2 224 rfl) rfl), (zt_in (zt_t2 225 rfl) rfl)⟩
theorem ms_X9_260 : Cond.methodLink RX9 260 yX2_carryOut ∈ zt_good ∧ Cond.instanceMethod yX2_carryOut ∈ zt_good ∧ Cond.selects yX2_carryOut.cls yX2_carryOut yX2_carryOut ∈ zt_good := ⟨(zt_in (zt_t2 227 rfl) rfl), (zt_in (zt_t2 228 rfl) rfl), (zt_in (zt_t2 229 rfl) rfl)⟩
theorem ms_X9_270 : Cond.methodLink RX9 270 yX9_isStolen ∈ zt_good ∧ Cond.instanceMethod yX9_isStolen ∈ zt_good ∧ Cond.selects yX9_isStolen.cls yX9_isStolen yX9_isStolen ∈ zt_good := ⟨(zt_in (zt_t3 3 rfl) rfl), (zt_in (zt_t3 5 rfl) rfl), (zt_in (zt_t0 16 rfl) rfl)⟩
theorem ms_X9_295 : Cond.methodLink RX9 295 yX9_openNonce ∈ zt_good ∧ Cond.instanceMethod yX9_openNonce ∈ zt_good ∧ Cond.selects yX9_openNonce.cls yX9_openNonce yX9_openNonce ∈ zt_good := ⟨(zt_in (zt_t3 74 rfl) rfl), (zt_in (zt_t3 76 rfl) rfl), (zt_in (zt_t0 17 rfl) rfl)⟩
theorem ms_X9_299 : Cond.methodLink RX9 299 yX9_heldTicket ∈ zt_good ∧ Cond.instanceMethod yX9_heldTicket ∈ zt_good ∧ Cond.selects yX9_heldTicket.cls yX9_heldTicket yX9_heldTicket ∈ zt_good := ⟨(zt_in (zt_t3 78 rfl) rfl), (zt_in (zt_t3 80 rfl) rfl), (zt_in (zt_t0 18 rfl) rfl)⟩
theorem ms_X9_309 : Cond.methodLink RX9 309 yX9_open ∈ zt_good ∧ Cond.instanceMethod yX9_open ∈ zt_good ∧ Cond.selects yX9_open.cls yX9_open yX9_open ∈ zt_good := ⟨(zt_in (zt_t2 93 rfl) rfl), (zt_in (zt_t2 95 rfl) rfl), (zt_in (zt_t0 7 rfl) rfl)⟩
theorem ns_L_7 : Cond.classLink RL 7 RX9 ∈ zt_good ∧ Cond.instantiable RX9 12 ∈ zt_good ∧ Cond.initialized RX9 ∈ zt_good := ⟨(zt_in (zt_t1 13 rfl) rfl), (zt_in (zt_t1 14 rfl) rfl), (zt_in (zt_t1 1 rfl) rfl)⟩
theorem ns_L_18 : Cond.classLink RL 18 RX10 ∈ zt_good ∧ Cond.instantiable RX10 30 ∈ zt_good ∧ Cond.initialized RX10 ∈ zt_good := ⟨(zt_in (zt_t3 85 rfl) rfl), (zt_in (zt_t3 86 rfl) rfl), (zt_in (zt_t1 6 rfl) rfl)⟩
theorem kl_X2_15 : Cond.classLink RX2 15 "TicketRealm$Claim" ∈ zt_good := (zt_in (zt_t1 51 rfl) rfl)
theorem kl_X9_26 : Cond.classLink RX9 26 "TicketRealm$User" ∈ zt_good := (zt_in (zt_t1 43 rfl) rfl)
theorem kl_X9_39 : Cond.classLink RX9 39 "TicketRealm$Seal" ∈ zt_good := (zt_in (zt_t1 69 rfl) rfl)
theorem kl_X9_126 : Cond.classLink RX9 126 "TicketRealm$Proof" ∈ zt_good := (zt_in (zt_t1 230 rfl) rfl)
theorem kl_X9_140 : Cond.classLink RX9 140 "TicketRealm$Claim" ∈ zt_good := (zt_in (zt_t2 26 rfl) rfl)
theorem kl_X9_167 : Cond.classLink RX9 167 "TicketRealm$Part" ∈ zt_good := (zt_in (zt_t2 97 rfl) rfl)
theorem kl_X9_221 : Cond.classLink RX9 221 "TicketRealm$Ticket" ∈ zt_good := (zt_in (zt_t2 137 rfl) rfl)
theorem ns_X9_16 : Cond.classLink RX9 16 RX0 ∈ zt_good ∧ Cond.instantiable RX0 3 ∈ zt_good ∧ Cond.initialized RX0 ∈ zt_good := ⟨(zt_in (zt_t1 21 rfl) rfl), (zt_in (zt_t1 22 rfl) rfl), (zt_in (zt_t1 2 rfl) rfl)⟩
theorem ns_X9_26 : Cond.classLink RX9 26 RX8 ∈ zt_good ∧ Cond.instantiable RX8 6 ∈ zt_good ∧ Cond.initialized RX8 ∈ zt_good := ⟨(zt_in (zt_t1 43 rfl) rfl), (zt_in (zt_t1 77 rfl) rfl), (zt_in (zt_t1 5 rfl) rfl)⟩
theorem ns_X9_32 : Cond.classLink RX9 32 RX2 ∈ zt_good ∧ Cond.instantiable RX2 4 ∈ zt_good ∧ Cond.initialized RX2 ∈ zt_good := ⟨(zt_in (zt_t1 45 rfl) rfl), (zt_in (zt_t1 46 rfl) rfl), (zt_in (zt_t1 3 rfl) rfl)⟩
theorem ns_X9_126 : Cond.classLink RX9 126 RX5 ∈ zt_good ∧ Cond.instantiable RX5 3 ∈ zt_good ∧ Cond.initialized RX5 ∈ zt_good := ⟨(zt_in (zt_t1 230 rfl) rfl), (zt_in (zt_t1 231 rfl) rfl), (zt_in (zt_t1 8 rfl) rfl)⟩
theorem ns_X9_140 : Cond.classLink RX9 140 RX1 ∈ zt_good ∧ Cond.instantiable RX1 5 ∈ zt_good ∧ Cond.initialized RX1 ∈ zt_good := ⟨(zt_in (zt_t2 26 rfl) rfl), (zt_in (zt_t2 27 rfl) rfl), (zt_in (zt_t1 9 rfl) rfl)⟩
theorem ns_X9_145 : Cond.classLink RX9 145 RX3 ∈ zt_good ∧ Cond.instantiable RX3 3 ∈ zt_good ∧ Cond.initialized RX3 ∈ zt_good := ⟨(zt_in (zt_t2 32 rfl) rfl), (zt_in (zt_t2 33 rfl) rfl), (zt_in (zt_t1 10 rfl) rfl)⟩
theorem ns_X9_167 : Cond.classLink RX9 167 RX4 ∈ zt_good ∧ Cond.instantiable RX4 5 ∈ zt_good ∧ Cond.initialized RX4 ∈ zt_good := ⟨(zt_in (zt_t2 97 rfl) rfl), (zt_in (zt_t2 165 rfl) rfl), (zt_in (zt_t1 12 rfl) rfl)⟩
theorem ns_X9_221 : Cond.classLink RX9 221 RX7 ∈ zt_good ∧ Cond.instantiable RX7 6 ∈ zt_good ∧ Cond.initialized RX7 ∈ zt_good := ⟨(zt_in (zt_t2 137 rfl) rfl), (zt_in (zt_t2 138 rfl) rfl), (zt_in (zt_t1 11 rfl) rfl)⟩
end
section
/-! comparisons, told in whole numbers -/
abbrev zi_in (x : Int32) (lo hi : Int) : Prop := lo ≤ x.toInt ∧ x.toInt ≤ hi
theorem zi_0 : (0 : Int32).toInt = 0 := by decide
theorem zi_vp {x : Int32} {n : Nat} (h : 0 ≤ x.toInt ∧ x.toInt < n) : vp_in x n := vp_in_iff.mpr h
section ZQ
variable {p : Program} {l : Launch} {e : Env} {R : Room} {s : State} {m : MethodId} {args : Array Value} {below : List Frame} {meth : Method} {c : Code} {H : Heap} {locs : List Loc} {cells slots : Nat} {Q : State → Prop}
variable {cc : ByteArray} {pc nL : Nat} {ret : Option FieldType} {ls : Array Slot} {rest st0 : List Value} {Y : zw_Y} {N0 : Nat} {ad : Nat → Nat} {sh : Nat → Option zw_Sh} {g : Nat → Nat → Int32} {own : String}
theorem zr_if_eq (X : zw_X p m meth c cc nL ret s args own Y) {x : Int32} {a : Int} {off : Int} {tgt : Nat} (hdg : decode cc pc = .ok (.ifCond .eq off, 3)) (ht : (pc : Int) + off = (tgt : Int)) (ha : x.toInt = a)
    (kt : a = 0 → W p l e R s m args below meth c H locs cells slots Q (F0 m tgt ls rest)) (kf : ¬ a = 0 → W p l e R s m args below meth c H locs cells slots Q (F0 m (pc + 3) ls rest)) : W p l e R s m args below meth c H locs cells slots Q (F0 m pc ls (.int x :: rest)) := by
  subst ha
  exact lv_if_eq X.1 X.2.1 hdg ht (fun h => kt ((congrArg Int32.toInt h).trans zi_0)) (fun h => kf (fun q => h (Int32.toInt_inj.mp (q.trans zi_0.symm))))
theorem zr_icmp_eq (X : zw_X p m meth c cc nL ret s args own Y) {x y : Int32} {a b : Int} {off : Int} {tgt : Nat} (hdg : decode cc pc = .ok (.if_icmp .eq off, 3)) (ht : (pc : Int) + off = (tgt : Int)) (ha : x.toInt = a) (hb9 : y.toInt = b)
    (kt : a = b → W p l e R s m args below meth c H locs cells slots Q (F0 m tgt ls rest)) (kf : ¬ a = b → W p l e R s m args below meth c H locs cells slots Q (F0 m (pc + 3) ls rest)) : W p l e R s m args below meth c H locs cells slots Q (F0 m pc ls (.int y :: .int x :: rest)) := by
  subst ha
  subst hb9
  exact lv_icmp_eq X.1 X.2.1 hdg ht (fun h => kt (Int32.toInt_inj.mpr h)) (fun h => kf (fun q => h (Int32.toInt_inj.mp q)))
theorem zr_if_ne (X : zw_X p m meth c cc nL ret s args own Y) {x : Int32} {a : Int} {off : Int} {tgt : Nat} (hdg : decode cc pc = .ok (.ifCond .ne off, 3)) (ht : (pc : Int) + off = (tgt : Int)) (ha : x.toInt = a)
    (kt : ¬ a = 0 → W p l e R s m args below meth c H locs cells slots Q (F0 m tgt ls rest)) (kf : a = 0 → W p l e R s m args below meth c H locs cells slots Q (F0 m (pc + 3) ls rest)) : W p l e R s m args below meth c H locs cells slots Q (F0 m pc ls (.int x :: rest)) := by
  subst ha
  exact lv_if_ne X.1 X.2.1 hdg ht (fun h => kt (fun q => h (Int32.toInt_inj.mp (q.trans zi_0.symm)))) (fun h => kf ((congrArg Int32.toInt h).trans zi_0))
theorem zr_icmp_ne (X : zw_X p m meth c cc nL ret s args own Y) {x y : Int32} {a b : Int} {off : Int} {tgt : Nat} (hdg : decode cc pc = .ok (.if_icmp .ne off, 3)) (ht : (pc : Int) + off = (tgt : Int)) (ha : x.toInt = a) (hb9 : y.toInt = b)
    (kt : ¬ a = b → W p l e R s m args below meth c H locs cells slots Q (F0 m tgt ls rest)) (kf : a = b → W p l e R s m args below meth c H locs cells slots Q (F0 m (pc + 3) ls rest)) : W p l e R s m args below meth c H locs cells slots Q (F0 m pc ls (.int y :: .int x :: rest)) := by
  subst ha
  subst hb9
  exact lv_icmp_ne X.1 X.2.1 hdg ht (fun h => kt (fun q => h (Int32.toInt_inj.mp q))) (fun h => kf (Int32.toInt_inj.mpr h))
theorem zr_if_lt (X : zw_X p m meth c cc nL ret s args own Y) {x : Int32} {a : Int} {off : Int} {tgt : Nat} (hdg : decode cc pc = .ok (.ifCond .lt off, 3)) (ht : (pc : Int) + off = (tgt : Int)) (ha : x.toInt = a)
    (kt : a < 0 → W p l e R s m args below meth c H locs cells slots Q (F0 m tgt ls rest)) (kf : ¬ a < 0 → W p l e R s m args below meth c H locs cells slots Q (F0 m (pc + 3) ls rest)) : W p l e R s m args below meth c H locs cells slots Q (F0 m pc ls (.int x :: rest)) := by
  subst ha
  exact lv_if_lt X.1 X.2.1 hdg ht (fun h => kt (by have q := Int32.lt_iff_toInt_lt.mp h; rw [zi_0] at q; exact q)) (fun h => kf (fun q => h (Int32.lt_iff_toInt_lt.mpr (by rw [zi_0]; exact q))))
theorem zr_icmp_lt (X : zw_X p m meth c cc nL ret s args own Y) {x y : Int32} {a b : Int} {off : Int} {tgt : Nat} (hdg : decode cc pc = .ok (.if_icmp .lt off, 3)) (ht : (pc : Int) + off = (tgt : Int)) (ha : x.toInt = a) (hb9 : y.toInt = b)
    (kt : a < b → W p l e R s m args below meth c H locs cells slots Q (F0 m tgt ls rest)) (kf : ¬ a < b → W p l e R s m args below meth c H locs cells slots Q (F0 m (pc + 3) ls rest)) : W p l e R s m args below meth c H locs cells slots Q (F0 m pc ls (.int y :: .int x :: rest)) := by
  subst ha
  subst hb9
  exact lv_icmp_lt X.1 X.2.1 hdg ht (fun h => kt (Int32.lt_iff_toInt_lt.mp h)) (fun h => kf (fun q => h (Int32.lt_iff_toInt_lt.mpr q)))
theorem zr_if_ge (X : zw_X p m meth c cc nL ret s args own Y) {x : Int32} {a : Int} {off : Int} {tgt : Nat} (hdg : decode cc pc = .ok (.ifCond .ge off, 3)) (ht : (pc : Int) + off = (tgt : Int)) (ha : x.toInt = a)
    (kt : 0 ≤ a → W p l e R s m args below meth c H locs cells slots Q (F0 m tgt ls rest)) (kf : ¬ 0 ≤ a → W p l e R s m args below meth c H locs cells slots Q (F0 m (pc + 3) ls rest)) : W p l e R s m args below meth c H locs cells slots Q (F0 m pc ls (.int x :: rest)) := by
  subst ha
  exact lv_if_ge X.1 X.2.1 hdg ht (fun h => kt (by have q := Int32.le_iff_toInt_le.mp h; rw [zi_0] at q; exact q)) (fun h => kf (fun q => h (Int32.le_iff_toInt_le.mpr (by rw [zi_0]; exact q))))
theorem zr_icmp_ge (X : zw_X p m meth c cc nL ret s args own Y) {x y : Int32} {a b : Int} {off : Int} {tgt : Nat} (hdg : decode cc pc = .ok (.if_icmp .ge off, 3)) (ht : (pc : Int) + off = (tgt : Int)) (ha : x.toInt = a) (hb9 : y.toInt = b)
    (kt : b ≤ a → W p l e R s m args below meth c H locs cells slots Q (F0 m tgt ls rest)) (kf : ¬ b ≤ a → W p l e R s m args below meth c H locs cells slots Q (F0 m (pc + 3) ls rest)) : W p l e R s m args below meth c H locs cells slots Q (F0 m pc ls (.int y :: .int x :: rest)) := by
  subst ha
  subst hb9
  exact lv_icmp_ge X.1 X.2.1 hdg ht (fun h => kt (Int32.le_iff_toInt_le.mp h)) (fun h => kf (fun q => h (Int32.le_iff_toInt_le.mpr q)))
theorem zr_if_gt (X : zw_X p m meth c cc nL ret s args own Y) {x : Int32} {a : Int} {off : Int} {tgt : Nat} (hdg : decode cc pc = .ok (.ifCond .gt off, 3)) (ht : (pc : Int) + off = (tgt : Int)) (ha : x.toInt = a)
    (kt : 0 < a → W p l e R s m args below meth c H locs cells slots Q (F0 m tgt ls rest)) (kf : ¬ 0 < a → W p l e R s m args below meth c H locs cells slots Q (F0 m (pc + 3) ls rest)) : W p l e R s m args below meth c H locs cells slots Q (F0 m pc ls (.int x :: rest)) := by
  subst ha
  exact lv_if_gt X.1 X.2.1 hdg ht (fun h => kt (by have q := Int32.lt_iff_toInt_lt.mp h; rw [zi_0] at q; exact q)) (fun h => kf (fun q => h (Int32.lt_iff_toInt_lt.mpr (by rw [zi_0]; exact q))))
theorem zr_icmp_gt (X : zw_X p m meth c cc nL ret s args own Y) {x y : Int32} {a b : Int} {off : Int} {tgt : Nat} (hdg : decode cc pc = .ok (.if_icmp .gt off, 3)) (ht : (pc : Int) + off = (tgt : Int)) (ha : x.toInt = a) (hb9 : y.toInt = b)
    (kt : b < a → W p l e R s m args below meth c H locs cells slots Q (F0 m tgt ls rest)) (kf : ¬ b < a → W p l e R s m args below meth c H locs cells slots Q (F0 m (pc + 3) ls rest)) : W p l e R s m args below meth c H locs cells slots Q (F0 m pc ls (.int y :: .int x :: rest)) := by
  subst ha
  subst hb9
  exact lv_icmp_gt X.1 X.2.1 hdg ht (fun h => kt (Int32.lt_iff_toInt_lt.mp h)) (fun h => kf (fun q => h (Int32.lt_iff_toInt_lt.mpr q)))
theorem zr_if_le (X : zw_X p m meth c cc nL ret s args own Y) {x : Int32} {a : Int} {off : Int} {tgt : Nat} (hdg : decode cc pc = .ok (.ifCond .le off, 3)) (ht : (pc : Int) + off = (tgt : Int)) (ha : x.toInt = a)
    (kt : a ≤ 0 → W p l e R s m args below meth c H locs cells slots Q (F0 m tgt ls rest)) (kf : ¬ a ≤ 0 → W p l e R s m args below meth c H locs cells slots Q (F0 m (pc + 3) ls rest)) : W p l e R s m args below meth c H locs cells slots Q (F0 m pc ls (.int x :: rest)) := by
  subst ha
  exact lv_if_le X.1 X.2.1 hdg ht (fun h => kt (by have q := Int32.le_iff_toInt_le.mp h; rw [zi_0] at q; exact q)) (fun h => kf (fun q => h (Int32.le_iff_toInt_le.mpr (by rw [zi_0]; exact q))))
theorem zr_icmp_le (X : zw_X p m meth c cc nL ret s args own Y) {x y : Int32} {a b : Int} {off : Int} {tgt : Nat} (hdg : decode cc pc = .ok (.if_icmp .le off, 3)) (ht : (pc : Int) + off = (tgt : Int)) (ha : x.toInt = a) (hb9 : y.toInt = b)
    (kt : a ≤ b → W p l e R s m args below meth c H locs cells slots Q (F0 m tgt ls rest)) (kf : ¬ a ≤ b → W p l e R s m args below meth c H locs cells slots Q (F0 m (pc + 3) ls rest)) : W p l e R s m args below meth c H locs cells slots Q (F0 m pc ls (.int y :: .int x :: rest)) := by
  subst ha
  subst hb9
  exact lv_icmp_le X.1 X.2.1 hdg ht (fun h => kt (Int32.le_iff_toInt_le.mp h)) (fun h => kf (fun q => h (Int32.le_iff_toInt_le.mpr q)))
theorem zr_lret {mc ms : Nat} {post : zw_Po} (X : zw_X p m meth c cc nL (some .long) s args own Y) (hW : zw_St Y N0 ad sh g s H locs) (hdg : decode cc pc = .ok (.lreturn, 1)) (hc : cells ≤ mc) (hs : slots ≤ ms) {v : Int64} (hp : post (some (.long v)) ad sh g) : W p l e R s m args below meth c H locs cells slots (MQ below (zw_Q Y N0 post) args s mc ms (fun q => N0 ≤ q)) (F0 m pc ls [.long v]) := by
  obtain ⟨hx, hb, -, -, -, -, hr, hlk⟩ := X
  refine W.widen hc hs ?_
  exact W.lret hx hb hr (fun t ht hw => ⟨_, ad, sh, g, rfl, hp, by rw [ht]; exact hW.1, hW.2.1.F ht⟩) hW.2.1.2.2 hdg
/-- a call of a method of the object's own class, whose named method is another one above it (Seal's) -/
theorem zr_callU {x y : MethodName} {C owner : String} {bytes : ByteArray} {maxL : Nat} {rt : Option FieldType} {d lc mc ms n index : Nat} {post : zw_Po} {As : List Value} {r ci : Nat} {ss : List (Option (Option Nat))} {q : vw_C} (X : zw_X p m meth c cc nL ret s args own Y) (hW : zw_St Y N0 ad sh g s H locs) (hl : ls.size = nL) (h : sh r = some (.inl (ci, ss))) (hc : zw_cls[ci]? = some q) (hqc : q.1 = C) (hdg : decode cc pc = .ok (.invokevirtual index, 3)) (hn : As.length = n) (hst : st0 = As.reverse ++ .ref (ad r) :: rest) (hrm : (rest.map fun v => v.category).sum ≤ 8) (hf : cells + mc ≤ R.cells ∧ slots + ms ≤ R.slots)
    (hcw : zw_K Y s → (∀ w ∈ zt_good, w.before args s = true) → va_CU R s args own C owner index x y bytes maxL rt (Cond.code y bytes maxL rt :: zt_good) { frames := d, cells := mc, slots := ms, locals := lc } mc ms n)
    (hM : zw_Met l Y N0 y bytes maxL rt d lc mc ms ad sh g (.ref (ad r) :: As) post)
    (kk : ∀ (v : Option Value) (ad' : Nat → Nat) (sh' : Nat → Option zw_Sh) (g' : Nat → Nat → Int32) (H1 : Heap) (locs1 : List Loc), post v ad' sh' g' → zw_St Y N0 ad' sh' g' s H1 locs1 → W p l e R s m args below meth c H1 locs1 (cells + mc) (slots + ms) Q (F0 m (pc + 3) ls (v.toList ++ rest))) : W p l e R s m args below meth c H locs cells slots Q (F0 m pc ls st0) := by
  obtain ⟨hx, hb, hml, hown, hts, hK, -, -⟩ := X
  have hrecv := zw_cell hK hW h hc
  rw [hqc] at hrecv
  subst hst
  exact zr_run hW (va_runU (As := As) (rest := rest) (C := C) ⟨hx, hb, hml, hown, hts⟩ hM (hcw hK hts) ⟨zw_blind, hrecv, fun U hU hw9 => ⟨rfl, hK.warm hw9, by rw [hU]; exact hW.1, by rw [hU]; exact Nat.le_trans hW.2.2 hW.2.1.1⟩⟩ rfl hn hl rfl (lv_room hrm) hdg hf) kk
theorem zr_eqi {x v : Int32} (h : x = v) (k : W p l e R s m args below meth c H locs cells slots Q (F0 m pc ls (.int v :: rest))) : W p l e R s m args below meth c H locs cells slots Q (F0 m pc ls (.int x :: rest)) := by
  subst h
  exact k
end ZQ
/-! posts -/
abbrev zm_T : Type := Nat → Nat → Int32
/-- nothing changes; an int of which P holds -/
def zp_I (ad : Nat → Nat) (sh : Nat → Option zw_Sh) (g : zm_T) (P : Int32 → Prop) : zw_Po := fun v ad' sh' g' => ad = ad' ∧ sh = sh' ∧ g = g' ∧ ∃ r : Int32, v = some (.int r) ∧ P r
/-- nothing changes; whether P holds -/
def zp_B (ad : Nat → Nat) (sh : Nat → Option zw_Sh) (g : zm_T) (P : Prop) : zw_Po := fun v ad' sh' g' => ad = ad' ∧ sh = sh' ∧ g = g' ∧ ((P ∧ v = some (.int 1)) ∨ (¬ P ∧ v = some (.int 0)))
/-- the ints change alone -/
def zp_G (ad : Nat → Nat) (sh : Nat → Option zw_Sh) (P : Option Value → zm_T → Prop) : zw_Po := fun v ad' sh' g' => ad = ad' ∧ sh = sh' ∧ P v g'
/-! the reference's memory u and the rest -/
def zm_mix (u g0 : zm_T) : zm_T := fun r => if r < 100 then u r else g0 r
theorem zm_up {u g0 : zm_T} {k : Nat} {x : Nat → Int32} (hk : k < 100) : va_up (zm_mix u g0) k x = zm_mix (va_up u k x) g0 := by
  funext r
  by_cases h : r = k
  · subst h; simp [va_up, zm_mix, hk]
  · simp [va_up, zm_mix, h]
theorem zm_st {Y : zw_Y} {N0 : Nat} {ad : Nat → Nat} {sh : Nat → Option zw_Sh} {u g0 : zm_T} {s : State} {H : Heap} {locs : List Loc} {k : Nat} {x : Nat → Int32} (hk : k < 100) (h : zw_St Y N0 ad sh (va_up (zm_mix u g0) k x) s H locs) : zw_St Y N0 ad sh (zm_mix (va_up u k x) g0) s H locs := by rw [← zm_up hk]; exact h
/-- the change that a store of the reference's makes -/
def zm_w (u : zm_T) (r i : Nat) (x : Int32) : zm_T := va_up u r (upd (u r) i x)
theorem zm_ws (u : zm_T) (r i : Nat) (x : Int32) : zm_w u r i x r i = x := by simp [zm_w, va_up, upd]
theorem zm_wn (u : zm_T) {r i r' i' : Nat} (x : Int32) (h : r' ≠ r ∨ i' ≠ i) : zm_w u r i x r' i' = u r' i' := by
  by_cases hr : r' = r
  · subst hr
    rcases h with h | h
    · exact absurd rfl h
    · simp [zm_w, va_up, upd, h]
  · simp [zm_w, va_up, hr]
abbrev zm_sl : List (Option (Option Nat)) := [none, some (some 1), none, some (some 3), some (some 4), some (some 5), some (some 6), some (some 7), none, some (some 9), some (some 10), some (some 11), some (some 12), some (some 13), some (some 14), some (some 15), some (some 16), some (some 17), some (some 18), none, some (some 20), some (some 21), some (some 22), some (some 23), some (some 24), some (some 25), some (some 26), none, none, some (some 29)]
def zm_shl : List (Nat × zw_Sh) := [(0, .inl (9, zm_sl)), (1, .inr (0, 6, none)), (3, .inr (0, 6, none)), (4, .inr (1, 200, none)), (5, .inr (0, 12, none)), (6, .inr (0, 12, none)), (7, .inr (0, 36, none)), (9, .inr (0, 150, none)), (10, .inr (0, 150, none)), (11, .inr (0, 150, none)), (12, .inr (0, 150, none)), (13, .inr (0, 150, none)), (14, .inr (0, 150, none)), (15, .inr (0, 150, none)), (16, .inr (0, 150, none)), (17, .inr (0, 150, none)), (18, .inr (0, 150, none)), (20, .inr (0, 6, none)), (21, .inr (0, 6, none)), (22, .inr (0, 6, none)), (23, .inr (0, 12, none)), (24, .inr (0, 12, none)), (25, .inr (0, 6, none)), (26, .inr (0, 3, none)), (29, .inr (0, 12, none))]
def zm_S (sh : Nat → Option zw_Sh) : Prop := ∀ q ∈ zm_shl, sh q.1 = some q.2
theorem zm_s0 {sh : Nat → Option zw_Sh} (h : zm_S sh) : sh 0 = some (.inl (9, zm_sl)) := h _ (List.mem_of_getElem? (i := 0) rfl)
theorem zm_s1 {sh : Nat → Option zw_Sh} (h : zm_S sh) : sh 1 = some (.inr (0, 6, none)) := h _ (List.mem_of_getElem? (i := 1) rfl)
theorem zm_s3 {sh : Nat → Option zw_Sh} (h : zm_S sh) : sh 3 = some (.inr (0, 6, none)) := h _ (List.mem_of_getElem? (i := 2) rfl)
theorem zm_s4 {sh : Nat → Option zw_Sh} (h : zm_S sh) : sh 4 = some (.inr (1, 200, none)) := h _ (List.mem_of_getElem? (i := 3) rfl)
theorem zm_s5 {sh : Nat → Option zw_Sh} (h : zm_S sh) : sh 5 = some (.inr (0, 12, none)) := h _ (List.mem_of_getElem? (i := 4) rfl)
theorem zm_s6 {sh : Nat → Option zw_Sh} (h : zm_S sh) : sh 6 = some (.inr (0, 12, none)) := h _ (List.mem_of_getElem? (i := 5) rfl)
theorem zm_s7 {sh : Nat → Option zw_Sh} (h : zm_S sh) : sh 7 = some (.inr (0, 36, none)) := h _ (List.mem_of_getElem? (i := 6) rfl)
theorem zm_s9 {sh : Nat → Option zw_Sh} (h : zm_S sh) : sh 9 = some (.inr (0, 150, none)) := h _ (List.mem_of_getElem? (i := 7) rfl)
theorem zm_s10 {sh : Nat → Option zw_Sh} (h : zm_S sh) : sh 10 = some (.inr (0, 150, none)) := h _ (List.mem_of_getElem? (i := 8) rfl)
theorem zm_s11 {sh : Nat → Option zw_Sh} (h : zm_S sh) : sh 11 = some (.inr (0, 150, none)) := h _ (List.mem_of_getElem? (i := 9) rfl)
theorem zm_s12 {sh : Nat → Option zw_Sh} (h : zm_S sh) : sh 12 = some (.inr (0, 150, none)) := h _ (List.mem_of_getElem? (i := 10) rfl)
theorem zm_s13 {sh : Nat → Option zw_Sh} (h : zm_S sh) : sh 13 = some (.inr (0, 150, none)) := h _ (List.mem_of_getElem? (i := 11) rfl)
theorem zm_s14 {sh : Nat → Option zw_Sh} (h : zm_S sh) : sh 14 = some (.inr (0, 150, none)) := h _ (List.mem_of_getElem? (i := 12) rfl)
theorem zm_s15 {sh : Nat → Option zw_Sh} (h : zm_S sh) : sh 15 = some (.inr (0, 150, none)) := h _ (List.mem_of_getElem? (i := 13) rfl)
theorem zm_s16 {sh : Nat → Option zw_Sh} (h : zm_S sh) : sh 16 = some (.inr (0, 150, none)) := h _ (List.mem_of_getElem? (i := 14) rfl)
theorem zm_s17 {sh : Nat → Option zw_Sh} (h : zm_S sh) : sh 17 = some (.inr (0, 150, none)) := h _ (List.mem_of_getElem? (i := 15) rfl)
theorem zm_s18 {sh : Nat → Option zw_Sh} (h : zm_S sh) : sh 18 = some (.inr (0, 150, none)) := h _ (List.mem_of_getElem? (i := 16) rfl)
theorem zm_s20 {sh : Nat → Option zw_Sh} (h : zm_S sh) : sh 20 = some (.inr (0, 6, none)) := h _ (List.mem_of_getElem? (i := 17) rfl)
theorem zm_s21 {sh : Nat → Option zw_Sh} (h : zm_S sh) : sh 21 = some (.inr (0, 6, none)) := h _ (List.mem_of_getElem? (i := 18) rfl)
theorem zm_s22 {sh : Nat → Option zw_Sh} (h : zm_S sh) : sh 22 = some (.inr (0, 6, none)) := h _ (List.mem_of_getElem? (i := 19) rfl)
theorem zm_s23 {sh : Nat → Option zw_Sh} (h : zm_S sh) : sh 23 = some (.inr (0, 12, none)) := h _ (List.mem_of_getElem? (i := 20) rfl)
theorem zm_s24 {sh : Nat → Option zw_Sh} (h : zm_S sh) : sh 24 = some (.inr (0, 12, none)) := h _ (List.mem_of_getElem? (i := 21) rfl)
theorem zm_s25 {sh : Nat → Option zw_Sh} (h : zm_S sh) : sh 25 = some (.inr (0, 6, none)) := h _ (List.mem_of_getElem? (i := 22) rfl)
theorem zm_s26 {sh : Nat → Option zw_Sh} (h : zm_S sh) : sh 26 = some (.inr (0, 3, none)) := h _ (List.mem_of_getElem? (i := 23) rfl)
theorem zm_s29 {sh : Nat → Option zw_Sh} (h : zm_S sh) : sh 29 = some (.inr (0, 12, none)) := h _ (List.mem_of_getElem? (i := 24) rfl)
end
section
/-! what each call answers and does, over the reference's memory: u 0 k its numbers (0 skew, 2 keys, 8 seals, 19 nonces, 27 latest, 28 cached), u r its arrays by the place of their field -/
abbrev zn (x : Int32) : Nat := x.toNatClampNeg
def zs_clr (u : zm_T) (p : Nat) : zm_T := fun r i => if r = 7 ∧ 3 * p ≤ i ∧ i < 3 * p + 3 then 0 else u r i
def zs_cp (u : zm_T) (f t : Nat) : zm_T := fun r i => if r = 5 ∧ t ≤ i ∧ i < t + 6 then u 5 (f + (i - t)) else if r = 6 ∧ t ≤ i ∧ i < t + 6 then u 6 (f + (i - t)) else if r = 7 ∧ 3 * t ≤ i ∧ i < 3 * t + 18 then u 7 (3 * f + (i - 3 * t)) else u r i
def zs_cnt (u : zm_T) (f : Nat) : Nat → Int32
  | 0 => 0
  | k + 1 => if 0 ≤ (u 5 (f + k)).toInt then zs_cnt u f k + 1 else zs_cnt u f k
def zs_v (a b c d e f g h i j : Int32) : Nat → Int32 := fun r => match r with
  | 9 => a
  | 10 => b
  | 11 => c
  | 12 => d
  | 13 => e
  | 14 => f
  | 15 => g
  | 16 => h
  | 17 => i
  | 18 => j
  | _ => 0
/-- a seal is made: its number is u 0 8 -/
def zs_mk (u : zm_T) (v : Nat → Int32) : zm_T := fun r i => if r = 0 ∧ i = 8 then u 0 8 + 1 else if i = zn (u 0 8) ∧ 9 ≤ r ∧ r ≤ 18 then v r else u r i
def zs_rq (u : zm_T) (a : Nat) (t key : Int32) : zm_T := zm_w (zm_w (zm_w (zm_w u 0 19 (u 0 19 + 1)) 20 a (u 0 19 + 1)) 21 a t) 22 a key
abbrev zs_us (a : Int32) : Prop := zi_in a 2 5
abbrev zs_bk (u : zm_T) (a : Int32) : Prop := zi_in a 0 5 ∧ 0 ≤ (u 5 (zn a)).toInt
abbrev zs_sl (u : zm_T) (s : Int32) : Prop := 0 ≤ s.toInt ∧ s.toInt < (u 0 8).toInt
abbrev zs_op (u : zm_T) (key s : Int32) (k : Int) : Prop := zs_sl u s ∧ (u 9 (zn s)).toInt = k ∧ 0 ≤ key.toInt ∧ (u 10 (zn s)).toInt = key.toInt
abbrev zs_nr (u : zm_T) (x y : Int32) : Prop := x.toInt - y.toInt ≤ (u 0 0).toInt ∧ -(u 0 0).toInt ≤ x.toInt - y.toInt
abbrev zs_st (u : zm_T) (k : Int32) : Prop := 0 ≤ k.toInt ∧ k.toInt < (u 0 2).toInt ∧ (u 4 (zn k)).toInt = 1
def zs_mn (x y : Int32) : Int32 := if x.toInt < y.toInt then x else y
def sp_enrol (a : Int32) (u : zm_T) : Int32 × zm_T := if ¬ zi_in a 0 5 then (-1, u) else if (u 0 2).toInt = 200 then (-7, u) else
  (u 0 2, zm_w (zm_w (zm_w (if (u 5 (zn a)).toInt < 0 then zs_clr (zm_w u 6 (zn a) 20) (zn a) else u) 5 (zn a) (u 0 2)) 3 (zn a) (u 0 2)) 0 2 (u 0 2 + 1))
def sp_remove (a : Int32) (u : zm_T) : Int32 × zm_T := if zs_bk u a then (1, zm_w u 5 (zn a) (-1)) else (0, u)
def sp_limit (a n : Int32) (u : zm_T) : Int32 × zm_T := if zs_bk u a ∧ zi_in n 1 1000 then (1, zm_w u 6 (zn a) n) else (0, u)
def sp_allow (a f r : Int32) (u : zm_T) : Int32 × zm_T := if zs_bk u a ∧ zi_in f 0 2 ∧ zi_in r 0 3 then (1, zm_w u 7 (3 * zn a + zn f) r) else (0, u)
def sp_save (u : zm_T) : Int32 × zm_T := (zs_cnt u 0 6, zs_cp u 0 6)
def sp_crash (u : zm_T) : Int32 × zm_T := (zs_cnt u 6 6, zs_cp u 6 0)
def sp_tick (a n : Int32) (u : zm_T) : Int32 × zm_T := if zi_in a 0 5 ∧ zi_in n 1 1000 then (u 1 (zn a) + n, zm_w u 1 (zn a) (u 1 (zn a) + n)) else (-1, u)
def sp_login (a t : Int32) (u : zm_T) : Int32 × zm_T := if ¬ (zs_us a ∧ 0 ≤ (u 3 (zn a)).toInt ∧ zi_in t 0 1) then (-1, u) else if 150 ≤ (u 0 8).toInt then (-7, u) else
  (u 0 8, zs_mk (zs_rq u (zn a) t (u 3 (zn a))) (zs_v 1 (u 3 (zn a)) a (-1) (u 1 (zn a)) 0 0 0 0 0))
def sp_ask (a t : Int32) (u : zm_T) : Int32 × zm_T := if ¬ (zs_us a ∧ 0 ≤ (u 23 (2 * zn a)).toInt ∧ zi_in t 0 1) then (-1, u) else if 150 ≤ (u 0 8).toInt then (-7, u) else
  (u 0 8, zs_mk (zm_w (zs_rq u (zn a) t (u 24 (2 * zn a))) 25 (zn a) (u 25 (zn a) + 1)) (zs_v 4 (u 24 (2 * zn a)) a (-1) (u 1 (zn a)) (u 25 (zn a) + 1) 0 0 0 0))
def sp_receive (a q t : Int32) (u : zm_T) : Int32 × zm_T := if zs_us a ∧ ¬ (u 20 (zn a)).toInt = 0 ∧ zs_sl u t ∧ zs_op u (u 22 (zn a)) q 3 ∧ (u 13 (zn q)).toInt = (u 20 (zn a)).toInt ∧ (u 14 (zn q)).toInt = (u 21 (zn a)).toInt then
  (1, zm_w (zm_w (zm_w u 23 (2 * zn a + zn (u 21 (zn a))) t) 24 (2 * zn a + zn (u 21 (zn a))) (u 12 (zn q))) 20 (zn a) 0) else (0, u)
def sp_order (a o f x : Int32) (u : zm_T) : Int32 × zm_T := if ¬ (zs_us a ∧ 0 ≤ (u 23 (2 * zn a + 1)).toInt ∧ zi_in o 1 3 ∧ zi_in f 0 2) then (-1, u) else if 150 ≤ (u 0 8).toInt then (-7, u) else
  (u 0 8, zs_mk (zm_w u 25 (zn a) (u 25 (zn a) + 1)) (zs_v 4 (u 24 (2 * zn a + 1)) a (-1) (u 1 (zn a)) (u 25 (zn a) + 1) 0 o f x))
/-- a TICKET, and a PART behind it -/
def zs_two (u : zm_T) (c t nc en la ak : Int32) : zm_T := zm_w (zs_mk (zs_mk u (zs_v 2 (u 5 (zn t)) c (u 0 2) (u 1 0) en la 0 0 0)) (zs_v 3 ak (-1) (u 0 2) nc t en 0 0 0)) 0 2 (u 0 2 + 1)
def zs_most (u : zm_T) (c t life : Int32) : Int32 := zs_mn (zs_mn life (u 6 (zn c))) (u 6 (zn t))
def sp_issue (c t nc q life : Int32) (u : zm_T) : Int32 × zm_T := if ¬ (zs_us c ∧ zs_bk u c ∧ zi_in t 0 1 ∧ zs_bk u t ∧ 1 ≤ life.toInt) then (-1, u) else if ¬ zs_op u (u 5 (zn c)) q 1 then (-2, u) else if ¬ (u 11 (zn q)).toInt = c.toInt then (-3, u) else if ¬ zs_nr u (u 13 (zn q)) (u 1 0) then (-4, u) else if 200 ≤ (u 0 2).toInt ∨ 148 < (u 0 8).toInt then (-7, u) else
  (u 0 8, zs_two u c t nc (u 1 0 + zs_most u c t life) (if t.toInt = 0 then u 1 0 + 5 * u 6 (zn c) else u 1 0 + zs_most u c t life) (u 5 (zn c)))
def zs_gend (u : zm_T) (k t life : Int32) : Int32 := zs_mn (u 1 0 + zs_most u (u 11 (zn k)) t life) (if t.toInt = 1 then u 14 (zn k) else u 15 (zn k))
def sp_grant (k cl t nc life : Int32) (u : zm_T) : Int32 × zm_T := if ¬ (zi_in t 0 1 ∧ zs_bk u t ∧ zs_bk u 0 ∧ 1 ≤ life.toInt) then (-1, u) else if ¬ zs_op u (u 5 0) k 2 then (-2, u) else if ¬ zs_op u (u 12 (zn k)) cl 4 then (-2, u) else
  if ¬ ((u 11 (zn cl)).toInt = (u 11 (zn k)).toInt ∧ (u 16 (zn cl)).toInt = 0 ∧ zs_us (u 11 (zn k)) ∧ zs_bk u (u 11 (zn k))) then (-3, u) else if ¬ (zs_nr u (u 13 (zn cl)) (u 1 0) ∧ (u 1 0).toInt ≤ (u 14 (zn k)).toInt) then (-4, u) else if 200 ≤ (u 0 2).toInt ∨ 148 < (u 0 8).toInt then (-7, u) else
  (u 0 8, zs_two u (u 11 (zn k)) t nc (zs_gend u k t life) (if t.toInt = 1 then zs_gend u k t life else u 15 (zn k)) (u 12 (zn k)))
/-- the cache without what is too old: how many of the first k stay, and what then stands in its first places -/
def zs_kp (u : zm_T) : Nat → Nat × (Nat → Int32)
  | 0 => (0, u 29)
  | k + 1 => if (u 1 1 - u 0 0).toInt ≤ (u 13 (zn (u 29 k))).toInt then ((zs_kp u k).1 + 1, upd (zs_kp u k).2 (zs_kp u k).1 (u 29 k)) else zs_kp u k
def zs_fo (u : zm_T) : zm_T := zm_w (va_up u 29 (zs_kp u (zn (u 0 28))).2) 0 28 (nI (zs_kp u (zn (u 0 28))).1)
abbrev zs_same (u : zm_T) (a b : Nat) : Prop := (u 10 a).toInt = (u 10 b).toInt ∧ (u 11 a).toInt = (u 11 b).toInt ∧ (u 13 a).toInt = (u 13 b).toInt ∧ (u 14 a).toInt = (u 14 b).toInt ∧ (u 16 a).toInt = (u 16 b).toInt ∧ (u 17 a).toInt = (u 17 b).toInt ∧ (u 18 a).toInt = (u 18 b).toInt
def zs_rep (u : zm_T) (cl : Nat) : Nat → Bool
  | 0 => false
  | k + 1 => zs_rep u cl k || decide (zs_same u (zn (u 29 k)) cl)
def zs_may (u : zm_T) (c : Int32) (f : Nat) : Int32 := if zs_bk u c then u 7 (3 * zn c + f) else 0
def zs_new (u : zm_T) (cl : Nat) : Int32 := if (u 16 cl).toInt = 2 then u 18 cl else if (u 16 cl).toInt = 3 then u 26 (zn (u 17 cl)) + u 18 cl else u 26 (zn (u 17 cl))
def sp_serve1 (k cl : Int32) (u : zm_T) : Int32 × zm_T := if ¬ zs_op u (u 3 1) k 2 then (-2, u) else if ¬ zs_op u (u 12 (zn k)) cl 4 then (-2, u) else if ¬ ((u 11 (zn cl)).toInt = (u 11 (zn k)).toInt ∧ ¬ (u 16 (zn cl)).toInt = 0) then (-3, u) else
  if ¬ (zs_nr u (u 13 (zn cl)) (u 1 1) ∧ (u 1 1).toInt ≤ (u 14 (zn k)).toInt ∧ (u 13 (zn k)).toInt ≤ (u 1 1 + u 0 0).toInt) then (-4, u) else if zs_rep u (zn cl) (zn (u 0 28)) = true then (-5, u) else
  if ¬ (zs_may u (u 11 (zn k)) (zn (u 17 (zn cl))) &&& u 16 (zn cl)).toInt = (u 16 (zn cl)).toInt then (-6, u) else if (u 0 28).toInt = 12 then (-7, u) else
  (0, zm_w (zm_w (zm_w (zm_w u 29 (zn (u 0 28)) cl) 0 28 (u 0 28 + 1)) 26 (zn (u 17 (zn cl))) (zs_new u (zn cl))) 0 27 (zs_new u (zn cl)))
def sp_serve (k cl : Int32) (u : zm_T) : Int32 × zm_T := sp_serve1 k cl (zs_fo u)
def sp_answer (u : zm_T) : Int32 × zm_T := (u 0 27, u)
def sp_steal (a : Int32) (u : zm_T) : Int32 × zm_T := if zi_in a 0 5 ∧ 0 ≤ (u 3 (zn a)).toInt then (u 3 (zn a), zm_w u 4 (zn (u 3 (zn a))) 1) else (-1, u)
def sp_learn (s : Int32) (u : zm_T) : Int32 × zm_T := if ¬ zs_sl u s then (-1, u) else if (u 4 (zn (u 10 (zn s)))).toInt = 0 then (-2, u) else if ¬ ((u 9 (zn s)).toInt = 2 ∨ (u 9 (zn s)).toInt = 3) then (0, u) else (u 12 (zn s), zm_w u 4 (zn (u 12 (zn s))) 1)
def sp_forge (key k c a b : Int32) (u : zm_T) : Int32 × zm_T := if ¬ (zi_in k 1 4 ∧ (k.toInt = 3 ∨ zi_in c 0 5)) then (-1, u) else if ¬ (zs_st u key ∧ ((k.toInt = 2 ∨ k.toInt = 3) → zs_st u a)) then (-2, u) else if 150 ≤ (u 0 8).toInt then (-7, u) else
  (u 0 8, zs_mk u (if k.toInt = 1 then zs_v 1 key c (-1) b 0 0 0 0 0 else if k.toInt = 2 then zs_v 2 key c a 0 b b 0 0 0 else if k.toInt = 3 then zs_v 3 key (-1) a b 1 1000000 0 0 0 else zs_v 4 key c (-1) b 0 0 (a &&& 3) ((a >>> ((2 : Int32) &&& 31) &&& 3) - (a >>> ((2 : Int32) &&& 31) &&& 3) / 3 * 3) (a >>> ((4 : Int32) &&& 31))))
def sp_seal (s w : Int32) (u : zm_T) : Int32 × zm_T := if ¬ (zs_sl u s ∧ zi_in w 0 2) then (-1, u) else if w.toInt = 0 then (u 9 (zn s), u) else if w.toInt = 1 then (if (u 9 (zn s)).toInt = 2 then u 14 (zn s) else if (u 9 (zn s)).toInt = 3 then u 15 (zn s) else 0, u) else (if (u 9 (zn s)).toInt = 1 ∨ (u 9 (zn s)).toInt = 4 then u 13 (zn s) else 0, u)
def sp_look (w i : Int32) (u : zm_T) : Int32 × zm_T := (if w.toInt = 0 then (if zi_in i 0 2 then u 26 (zn i) else -1) else if w.toInt = 1 then (if zi_in i 0 5 then u 1 (zn i) else -1) else if w.toInt = 2 then u 0 28 else if w.toInt = 3 then (if zs_us i then u 20 (zn i) else -1) else if w.toInt = 4 then (if zs_us i then u 23 (2 * zn i) else -1) else if w.toInt = 5 then (if zs_us i then u 23 (2 * zn i + 1) else -1) else if w.toInt = 6 then u 0 8 else if w.toInt = 7 then u 0 2 else -1, u)
/-- what holds of the reference's memory between calls -/
def zm_I (u : zm_T) : Prop := (0 ≤ (u 0 0).toInt ∧ (u 0 0).toInt ≤ 100) ∧ (0 ≤ (u 0 2).toInt ∧ (u 0 2).toInt ≤ 200) ∧ (0 ≤ (u 0 8).toInt ∧ (u 0 8).toInt ≤ 150) ∧ (0 ≤ (u 0 28).toInt ∧ (u 0 28).toInt ≤ 12) ∧
  (∀ i : Nat, i < 12 → -1 ≤ (u 5 i).toInt ∧ (u 5 i).toInt < (u 0 2).toInt) ∧ (∀ i : Nat, i < 6 → -1 ≤ (u 3 i).toInt ∧ (u 3 i).toInt < (u 0 2).toInt) ∧ (∀ i : Nat, i < 12 → -1 ≤ (u 23 i).toInt ∧ (u 23 i).toInt < (u 0 8).toInt ∧ (0 ≤ (u 23 i).toInt → 0 ≤ (u 24 i).toInt ∧ (u 24 i).toInt < (u 0 2).toInt)) ∧ (∀ i : Nat, i < 6 → 0 ≤ (u 21 i).toInt ∧ (u 21 i).toInt ≤ 1) ∧
  (∀ i : Nat, (i : Int) < (u 0 8).toInt → (1 ≤ (u 9 i).toInt ∧ (u 9 i).toInt ≤ 4) ∧ (0 ≤ (u 10 i).toInt ∧ (u 10 i).toInt < (u 0 2).toInt) ∧ ((u 9 i).toInt = 2 ∨ (u 9 i).toInt = 3 → 0 ≤ (u 12 i).toInt ∧ (u 12 i).toInt < (u 0 2).toInt) ∧ (¬ (u 9 i).toInt = 3 → 0 ≤ (u 11 i).toInt ∧ (u 11 i).toInt ≤ 5) ∧ ((u 9 i).toInt = 4 → (0 ≤ (u 16 i).toInt ∧ (u 16 i).toInt ≤ 3) ∧ (0 ≤ (u 17 i).toInt ∧ (u 17 i).toInt ≤ 2))) ∧
  (∀ i : Nat, (i : Int) < (u 0 28).toInt → (0 ≤ (u 29 i).toInt ∧ (u 29 i).toInt < (u 0 8).toInt) ∧ (u 9 (zn (u 29 i))).toInt = 4) ∧ (∀ i : Nat, i < 200 → (u 4 i).toInt = 0 ∨ (u 4 i).toInt = 1)
end
section
set_option maxHeartbeats 4000000 in
set_option maxRecDepth 100000 in
theorem c_X10_in (l : Launch) (Y : zw_Y) (N0 : Nat) (ad : Nat → Nat) (sh : Nat → Option zw_Sh) (g : zm_T) (x lo hi : Int32) : zw_Met l Y N0 yX10_in cX10_in 3 (some .boolean) 0 0 0 0 ad sh g [.int x, .int lo, .int hi] (zp_B ad sh g (zi_in x (lo).toInt (hi).toInt)) := by
  refine zw_meth (by decide) (Nat.le_of_ble_eq_true rfl) ?_
  intro p e s m below meth c ls X hnm hl hW
  have hl : lv_has ls 3 [(0, .int x), (1, .int lo), (2, .int hi)] := hl
  refine lv_iload_n X.1 X.2.1 dX10_in_0 rfl (lv_at hl 0 rfl) ?_
  refine lv_iload_n X.1 X.2.1 dX10_in_1 rfl (lv_at hl 1 rfl) ?_
  refine zr_icmp_lt (a := (x).toInt) (b := (lo).toInt) (tgt := 14) X dX10_in_2 (by decide) rfl rfl (fun c_1 => ?_) (fun c_1 => ?_)
  · refine lv_iconst (v := 0) X.1 X.2.1 dX10_in_14 (by decide) ?_
    exact zr_zret X hW dX10_in_15 (Nat.le_refl _) (Nat.le_refl _) rfl ⟨rfl, rfl, rfl, Or.inr ⟨by omega, rfl⟩⟩
  · refine lv_iload_n X.1 X.2.1 dX10_in_5 rfl (lv_at hl 0 rfl) ?_
    refine lv_iload_n X.1 X.2.1 dX10_in_6 rfl (lv_at hl 2 rfl) ?_
    refine zr_icmp_gt (a := (x).toInt) (b := (hi).toInt) (tgt := 14) X dX10_in_7 (by decide) rfl rfl (fun c_2 => ?_) (fun c_2 => ?_)
    · refine lv_iconst (v := 0) X.1 X.2.1 dX10_in_14 (by decide) ?_
      exact zr_zret X hW dX10_in_15 (Nat.le_refl _) (Nat.le_refl _) rfl ⟨rfl, rfl, rfl, Or.inr ⟨by omega, rfl⟩⟩
    · refine lv_iconst (v := 1) X.1 X.2.1 dX10_in_10 (by decide) ?_
      refine lv_goto (tgt := 15) X.1 X.2.1 dX10_in_11 (by decide) ?_
      exact zr_zret X hW dX10_in_15 (Nat.le_refl _) (Nat.le_refl _) rfl ⟨rfl, rfl, rfl, Or.inl ⟨by omega, rfl⟩⟩

set_option maxHeartbeats 4000000 in
set_option maxRecDepth 100000 in
theorem c_X10_user (l : Launch) (Y : zw_Y) (N0 : Nat) (ad : Nat → Nat) (sh : Nat → Option zw_Sh) (u g0 : zm_T) (hM : zm_S sh) (a : Int32) : zw_Met l Y N0 yX10_user cX10_user 2 (some .boolean) 1 22 0 0 ad sh (zm_mix u g0) [.ref (ad 0), .int a] (zp_B ad sh (zm_mix u g0) (zs_us a)) := by
  refine zw_meth (by decide) (Nat.le_of_ble_eq_true rfl) ?_
  intro p e s m below meth c ls X hnm hl hW
  have hl : lv_has ls 2 [(0, .ref (ad 0)), (1, .int a)] := hl
  refine lv_iload_n X.1 X.2.1 dX10_user_0 rfl (lv_at hl 1 rfl) ?_
  refine lv_iconst (v := 2) X.1 X.2.1 dX10_user_1 (by decide) ?_
  refine lv_iconst (v := 5) X.1 X.2.1 dX10_user_2 (by decide) ?_
  refine zr_callS (As := [.int a, .int 2, .int 5]) (rest := []) X hW hl.1 md_X10_in ms_X10_87 dX10_user_3 rfl rfl (Nat.le_of_ble_eq_true rfl) ⟨Nat.le_of_ble_eq_true rfl, Nat.le_of_ble_eq_true rfl⟩ ⟨Nat.le_of_ble_eq_true rfl, Nat.le_of_ble_eq_true rfl⟩ (c_X10_in l Y N0 ad sh (zm_mix u g0) a 2 5) (fun v9 ad9 sh9 g9 H locs hp hW => ?_)
  rcases hp with ⟨rfl, rfl, rfl, ⟨h_1, h9⟩ | ⟨h_1, h9⟩⟩
  · subst h9
    have h_1 : zi_in a 2 5 := h_1
    exact zr_zret X hW dX10_user_6 (Nat.le_refl _) (Nat.le_refl _) rfl ⟨rfl, rfl, rfl, Or.inl ⟨by omega, rfl⟩⟩
  · subst h9
    have h_1 : ¬ (zi_in a 2 5) := h_1
    exact zr_zret X hW dX10_user_6 (Nat.le_refl _) (Nat.le_refl _) rfl ⟨rfl, rfl, rfl, Or.inr ⟨by omega, rfl⟩⟩

set_option maxHeartbeats 4000000 in
set_option maxRecDepth 100000 in
theorem c_X10_booked (l : Launch) (Y : zw_Y) (N0 : Nat) (ad : Nat → Nat) (sh : Nat → Option zw_Sh) (u g0 : zm_T) (hM : zm_S sh) (a : Int32) : zw_Met l Y N0 yX10_booked cX10_booked 2 (some .boolean) 1 22 0 0 ad sh (zm_mix u g0) [.ref (ad 0), .int a] (zp_B ad sh (zm_mix u g0) (zs_bk u a)) := by
  refine zw_meth (by decide) (Nat.le_of_ble_eq_true rfl) ?_
  intro p e s m below meth c ls X hnm hl hW
  have hl : lv_has ls 2 [(0, .ref (ad 0)), (1, .int a)] := hl
  refine lv_iload_n X.1 X.2.1 dX10_booked_0 rfl (lv_at hl 1 rfl) ?_
  refine lv_iconst (v := 0) X.1 X.2.1 dX10_booked_1 (by decide) ?_
  refine lv_iconst (v := 5) X.1 X.2.1 dX10_booked_2 (by decide) ?_
  refine zr_callS (As := [.int a, .int 0, .int 5]) (rest := []) X hW hl.1 md_X10_in ms_X10_87 dX10_booked_3 rfl rfl (Nat.le_of_ble_eq_true rfl) ⟨Nat.le_of_ble_eq_true rfl, Nat.le_of_ble_eq_true rfl⟩ ⟨Nat.le_of_ble_eq_true rfl, Nat.le_of_ble_eq_true rfl⟩ (c_X10_in l Y N0 ad sh (zm_mix u g0) a 0 5) (fun v9 ad9 sh9 g9 H locs hp hW => ?_)
  rcases hp with ⟨rfl, rfl, rfl, ⟨h_1, h9⟩ | ⟨h_1, h9⟩⟩
  · subst h9
    have h_1 : zi_in a 0 5 := h_1
    refine zr_if_eq (a := 1) (tgt := 22) X dX10_booked_6 (by decide) (by decide) (fun c9 => absurd c9 (by decide)) (fun _ => ?_)
    refine lv_aload_n X.1 X.2.1 dX10_booked_9 rfl (lv_at hl 0 rfl) ?_
    refine zr_get (v := .ref (ad 5)) X hW fs_X10_20_9 dX10_booked_10 (zm_s0 hM) rfl rfl rfl ?_
    refine lv_iload_n X.1 X.2.1 dX10_booked_13 rfl (lv_at hl 1 rfl) ?_
    refine zr_iald (v := u 5 (zn a)) X hW dX10_booked_14 (zm_s5 hM) rfl rfl (zi_vp (by omega)) rfl ?_
    refine zr_if_lt (a := (u 5 (zn a)).toInt) (tgt := 22) X dX10_booked_15 (by decide) rfl (fun c_2 => ?_) (fun c_2 => ?_)
    · refine lv_iconst (v := 0) X.1 X.2.1 dX10_booked_22 (by decide) ?_
      exact zr_zret X hW dX10_booked_23 (Nat.le_refl _) (Nat.le_refl _) rfl ⟨rfl, rfl, rfl, Or.inr ⟨by omega, rfl⟩⟩
    · refine lv_iconst (v := 1) X.1 X.2.1 dX10_booked_18 (by decide) ?_
      refine lv_goto (tgt := 23) X.1 X.2.1 dX10_booked_19 (by decide) ?_
      exact zr_zret X hW dX10_booked_23 (Nat.le_refl _) (Nat.le_refl _) rfl ⟨rfl, rfl, rfl, Or.inl ⟨by omega, rfl⟩⟩
  · subst h9
    have h_1 : ¬ (zi_in a 0 5) := h_1
    refine zr_if_eq (a := 0) (tgt := 22) X dX10_booked_6 (by decide) (by decide) (fun _ => ?_) (fun c9 => absurd c9 (by decide))
    refine lv_iconst (v := 0) X.1 X.2.1 dX10_booked_22 (by decide) ?_
    exact zr_zret X hW dX10_booked_23 (Nat.le_refl _) (Nat.le_refl _) rfl ⟨rfl, rfl, rfl, Or.inr ⟨by omega, rfl⟩⟩

theorem zi_cgt (a b : Int64) : 0 < (lg_cmp a b).toInt ↔ b.toInt < a.toInt := by
  unfold lg_cmp
  by_cases h : a > b
  · rw [if_pos h]; have := Int64.lt_iff_toInt_lt.mp h; constructor <;> intro _ <;> first | exact this | decide
  · rw [if_neg h]
    have h2 : ¬ b.toInt < a.toInt := fun q => h (Int64.lt_iff_toInt_lt.mpr q)
    by_cases h3 : a = b
    · rw [if_pos h3]; constructor <;> intro q <;> first | exact absurd q (by decide) | exact absurd q h2
    · rw [if_neg h3]; constructor <;> intro q <;> first | exact absurd q (by decide) | exact absurd q h2
theorem zi_clt (a b : Int64) : (lg_cmp a b).toInt < 0 ↔ a.toInt < b.toInt := by
  unfold lg_cmp
  by_cases h : a > b
  · rw [if_pos h]; have := Int64.lt_iff_toInt_lt.mp h; constructor <;> intro q <;> first | exact absurd q (by decide) | omega
  · rw [if_neg h]
    have h2 : ¬ b.toInt < a.toInt := fun q => h (Int64.lt_iff_toInt_lt.mpr q)
    by_cases h3 : a = b
    · subst h3; rw [if_pos rfl]; constructor <;> intro q <;> first | exact absurd q (by decide) | omega
    · rw [if_neg h3]
      have h4 : a.toInt ≠ b.toInt := fun q => h3 (Int64.toInt_inj.mp q)
      constructor <;> intro q <;> first | omega | decide
theorem zi_rg (x : Int32) : -2147483648 ≤ x.toInt ∧ x.toInt < 2147483648 := ⟨x.le_toInt, x.toInt_lt⟩
theorem zi_lsub (x y : Int32) : (x.toInt64 - y.toInt64).toInt = x.toInt - y.toInt := by
  have h1 := zi_rg x
  have h2 := zi_rg y
  rw [Int64.toInt_sub, Int32.toInt_toInt64, Int32.toInt_toInt64]
  exact Int.bmod_eq_of_le (by omega) (by omega)
theorem zi_neg {x : Int32} (h : 0 ≤ x.toInt ∧ x.toInt ≤ 100) : (-x).toInt = -x.toInt := by
  rw [Int32.toInt_neg]
  exact Int.bmod_eq_of_le (by omega) (by omega)
theorem zi_add (x y : Int32) (h : -2147483648 ≤ x.toInt + y.toInt ∧ x.toInt + y.toInt < 2147483648) : (x + y).toInt = x.toInt + y.toInt := by
  rw [Int32.toInt_add]
  exact Int.bmod_eq_of_le (by omega) (by omega)
theorem zi_sub (x y : Int32) (h : -2147483648 ≤ x.toInt - y.toInt ∧ x.toInt - y.toInt < 2147483648) : (x - y).toInt = x.toInt - y.toInt := by
  rw [Int32.toInt_sub]
  exact Int.bmod_eq_of_le (by omega) (by omega)
theorem zi_mul (x y : Int32) (h : -2147483648 ≤ x.toInt * y.toInt ∧ x.toInt * y.toInt < 2147483648) : (x * y).toInt = x.toInt * y.toInt := by
  rw [Int32.toInt_mul]
  exact Int.bmod_eq_of_le (by omega) (by omega)
theorem zi_n (x : Int32) : zn x = x.toInt.toNat := rfl
theorem zI_sk {u : zm_T} (h : zm_I u) : 0 ≤ (u 0 0).toInt ∧ (u 0 0).toInt ≤ 100 := h.1
theorem zI_ke {u : zm_T} (h : zm_I u) : 0 ≤ (u 0 2).toInt ∧ (u 0 2).toInt ≤ 200 := h.2.1
theorem zI_se {u : zm_T} (h : zm_I u) : 0 ≤ (u 0 8).toInt ∧ (u 0 8).toInt ≤ 150 := h.2.2.1
theorem zI_ca {u : zm_T} (h : zm_I u) : 0 ≤ (u 0 28).toInt ∧ (u 0 28).toInt ≤ 12 := h.2.2.2.1
theorem zI_bk {u : zm_T} (h : zm_I u) (i : Nat) (hi : i < 12) : -1 ≤ (u 5 i).toInt ∧ (u 5 i).toInt < (u 0 2).toInt := h.2.2.2.2.1 i hi
theorem zI_ow {u : zm_T} (h : zm_I u) (i : Nat) (hi : i < 6) : -1 ≤ (u 3 i).toInt ∧ (u 3 i).toInt < (u 0 2).toInt := h.2.2.2.2.2.1 i hi
theorem zI_tk {u : zm_T} (h : zm_I u) (i : Nat) (hi : i < 12) : -1 ≤ (u 23 i).toInt ∧ (u 23 i).toInt < (u 0 8).toInt ∧ (0 ≤ (u 23 i).toInt → 0 ≤ (u 24 i).toInt ∧ (u 24 i).toInt < (u 0 2).toInt) := h.2.2.2.2.2.2.1 i hi
theorem zI_tg {u : zm_T} (h : zm_I u) (i : Nat) (hi : i < 6) : 0 ≤ (u 21 i).toInt ∧ (u 21 i).toInt ≤ 1 := h.2.2.2.2.2.2.2.1 i hi
theorem zI_sl {u : zm_T} (h : zm_I u) (i : Nat) (hi : (i : Int) < (u 0 8).toInt) : (1 ≤ (u 9 i).toInt ∧ (u 9 i).toInt ≤ 4) ∧ (0 ≤ (u 10 i).toInt ∧ (u 10 i).toInt < (u 0 2).toInt) ∧ ((u 9 i).toInt = 2 ∨ (u 9 i).toInt = 3 → 0 ≤ (u 12 i).toInt ∧ (u 12 i).toInt < (u 0 2).toInt) ∧ (¬ (u 9 i).toInt = 3 → 0 ≤ (u 11 i).toInt ∧ (u 11 i).toInt ≤ 5) ∧ ((u 9 i).toInt = 4 → (0 ≤ (u 16 i).toInt ∧ (u 16 i).toInt ≤ 3) ∧ (0 ≤ (u 17 i).toInt ∧ (u 17 i).toInt ≤ 2)) := h.2.2.2.2.2.2.2.2.1 i hi
theorem zI_cq {u : zm_T} (h : zm_I u) (i : Nat) (hi : (i : Int) < (u 0 28).toInt) : (0 ≤ (u 29 i).toInt ∧ (u 29 i).toInt < (u 0 8).toInt) ∧ (u 9 (zn (u 29 i))).toInt = 4 := h.2.2.2.2.2.2.2.2.2.1 i hi
theorem zI_st {u : zm_T} (h : zm_I u) (i : Nat) (hi : i < 200) : (u 4 i).toInt = 0 ∨ (u 4 i).toInt = 1 := h.2.2.2.2.2.2.2.2.2.2 i hi
theorem zi_ext {x y : Int32} (h : x.toInt = y.toInt) : x = y := Int32.toInt_inj.mp h

set_option maxHeartbeats 4000000 in
set_option maxRecDepth 100000 in
theorem c_X10_near (l : Launch) (Y : zw_Y) (N0 : Nat) (ad : Nat → Nat) (sh : Nat → Option zw_Sh) (u g0 : zm_T) (hM : zm_S sh) (x y : Int32) (hI : zm_I u) : zw_Met l Y N0 yX10_near cX10_near 5 (some .boolean) 0 0 0 0 ad sh (zm_mix u g0) [.ref (ad 0), .int x, .int y] (zp_B ad sh (zm_mix u g0) (zs_nr u x y)) := by
  refine zw_meth (by decide) (Nat.le_of_ble_eq_true rfl) ?_
  intro p e s m below meth c ls X hnm hl hW
  have hl : lv_has ls 5 [(0, .ref (ad 0)), (1, .int x), (2, .int y)] := hl
  have hsk := hI.1
  refine lv_iload_n X.1 X.2.1 dX10_near_0 rfl (lv_at hl 1 rfl) ?_
  refine lv_i2l X.1 X.2.1 dX10_near_1 rfl ?_
  refine lv_iload_n X.1 X.2.1 dX10_near_2 rfl (lv_at hl 2 rfl) ?_
  refine lv_i2l X.1 X.2.1 dX10_near_3 rfl ?_
  refine lv_lsub X.1 X.2.1 dX10_near_4 ?_
  refine lv_lstore_n (lv' := [(3, .long (x.toInt64 - y.toInt64)), (0, .ref (ad 0)), (1, .int x), (2, .int y)]) X.1 X.2.1 dX10_near_5 rfl hl (by decide) rfl (fun ls hl => ?_)
  refine lv_lload_n X.1 X.2.1 dX10_near_6 rfl (lv_at hl 0 rfl) ?_
  refine lv_aload_n X.1 X.2.1 dX10_near_7 rfl (lv_at hl 1 rfl) ?_
  refine zr_get (v := .int (u 0 0)) X hW fs_X10_83_9 dX10_near_8 (zm_s0 hM) rfl rfl rfl ?_
  refine lv_i2l X.1 X.2.1 dX10_near_11 rfl ?_
  refine W.lcmp X.1 X.2.1 dX10_near_12 ?_
  refine zr_if_gt (a := (lg_cmp (x.toInt64 - y.toInt64) ((u 0 0).toInt64)).toInt) (tgt := 31) X dX10_near_13 (by decide) rfl (fun c_1 => ?_) (fun c_1 => ?_)
  · refine lv_iconst (v := 0) X.1 X.2.1 dX10_near_31 (by decide) ?_
    exact zr_zret X hW dX10_near_32 (Nat.le_refl _) (Nat.le_refl _) rfl ⟨rfl, rfl, rfl, Or.inr ⟨by first | (simp only [zi_cgt, zi_clt, zi_lsub, Int32.toInt_toInt64, zi_neg hsk] at *; omega) | omega, rfl⟩⟩
  · refine lv_lload_n X.1 X.2.1 dX10_near_16 rfl (lv_at hl 0 rfl) ?_
    refine lv_aload_n X.1 X.2.1 dX10_near_17 rfl (lv_at hl 1 rfl) ?_
    refine zr_get (v := .int (u 0 0)) X hW fs_X10_83_9 dX10_near_18 (zm_s0 hM) rfl rfl rfl ?_
    refine lv_ineg X.1 X.2.1 dX10_near_21 ?_
    refine lv_i2l X.1 X.2.1 dX10_near_22 rfl ?_
    refine W.lcmp X.1 X.2.1 dX10_near_23 ?_
    refine zr_if_lt (a := (lg_cmp (x.toInt64 - y.toInt64) ((-(u 0 0)).toInt64)).toInt) (tgt := 31) X dX10_near_24 (by decide) rfl (fun c_2 => ?_) (fun c_2 => ?_)
    · refine lv_iconst (v := 0) X.1 X.2.1 dX10_near_31 (by decide) ?_
      exact zr_zret X hW dX10_near_32 (Nat.le_refl _) (Nat.le_refl _) rfl ⟨rfl, rfl, rfl, Or.inr ⟨by first | (simp only [zi_cgt, zi_clt, zi_lsub, Int32.toInt_toInt64, zi_neg hsk] at *; omega) | omega, rfl⟩⟩
    · refine lv_iconst (v := 1) X.1 X.2.1 dX10_near_27 (by decide) ?_
      refine lv_goto (tgt := 32) X.1 X.2.1 dX10_near_28 (by decide) ?_
      exact zr_zret X hW dX10_near_32 (Nat.le_refl _) (Nat.le_refl _) rfl ⟨rfl, rfl, rfl, Or.inl ⟨by first | (simp only [zi_cgt, zi_clt, zi_lsub, Int32.toInt_toInt64, zi_neg hsk] at *; omega) | omega, rfl⟩⟩

set_option maxHeartbeats 4000000 in
set_option maxRecDepth 100000 in
theorem c_X10_least (l : Launch) (Y : zw_Y) (N0 : Nat) (ad : Nat → Nat) (sh : Nat → Option zw_Sh) (g : zm_T) (x y : Int32) : zw_Met l Y N0 yX10_least cX10_least 2 (some .int) 0 0 0 0 ad sh g [.int x, .int y] (zp_I ad sh g (fun r => r = zs_mn x y)) := by
  refine zw_meth (by decide) (Nat.le_of_ble_eq_true rfl) ?_
  intro p e s m below meth c ls X hnm hl hW
  have hl : lv_has ls 2 [(0, .int x), (1, .int y)] := hl
  refine lv_iload_n X.1 X.2.1 dX10_least_0 rfl (lv_at hl 0 rfl) ?_
  refine lv_iload_n X.1 X.2.1 dX10_least_1 rfl (lv_at hl 1 rfl) ?_
  refine zr_icmp_ge (a := (x).toInt) (b := (y).toInt) (tgt := 9) X dX10_least_2 (by decide) rfl rfl (fun c_1 => ?_) (fun c_1 => ?_)
  · refine lv_iload_n X.1 X.2.1 dX10_least_9 rfl (lv_at hl 1 rfl) ?_
    exact zr_iret X hW dX10_least_10 (Nat.le_refl _) (Nat.le_refl _) ⟨rfl, rfl, rfl, _, rfl, by unfold zs_mn; split <;> first | rfl | omega⟩
  · refine lv_iload_n X.1 X.2.1 dX10_least_5 rfl (lv_at hl 0 rfl) ?_
    refine lv_goto (tgt := 10) X.1 X.2.1 dX10_least_6 (by decide) ?_
    exact zr_iret X hW dX10_least_10 (Nat.le_refl _) (Nat.le_refl _) ⟨rfl, rfl, rfl, _, rfl, by unfold zs_mn; split <;> first | rfl | omega⟩

set_option maxHeartbeats 4000000 in
set_option maxRecDepth 100000 in
theorem c_X10_answer (l : Launch) (Y : zw_Y) (N0 : Nat) (ad : Nat → Nat) (sh : Nat → Option zw_Sh) (u g0 : zm_T) (hM : zm_S sh) : zw_Met l Y N0 yX10_answer cX10_answer 1 (some .int) 0 0 0 0 ad sh (zm_mix u g0) [.ref (ad 0)] (zp_I ad sh (zm_mix u g0) (fun r => r = u 0 27)) := by
  refine zw_meth (by decide) (Nat.le_of_ble_eq_true rfl) ?_
  intro p e s m below meth c ls X hnm hl hW
  have hl : lv_has ls 1 [(0, .ref (ad 0))] := hl
  refine lv_aload_n X.1 X.2.1 dX10_answer_0 rfl (lv_at hl 0 rfl) ?_
  refine zr_get (v := .int (u 0 27)) X hW fs_X10_156_9 dX10_answer_1 (zm_s0 hM) rfl rfl rfl ?_
  exact zr_iret X hW dX10_answer_4 (Nat.le_refl _) (Nat.le_refl _) ⟨rfl, rfl, rfl, _, rfl, rfl⟩

set_option maxHeartbeats 4000000 in
set_option maxRecDepth 100000 in
theorem c_X10_opens (l : Launch) (Y : zw_Y) (N0 : Nat) (ad : Nat → Nat) (sh : Nat → Option zw_Sh) (u g0 : zm_T) (hM : zm_S sh) (key q k : Int32) (hI : zm_I u) : zw_Met l Y N0 yX10_opens cX10_opens 4 (some .boolean) 1 22 0 0 ad sh (zm_mix u g0) [.ref (ad 0), .int key, .int q, .int k] (zp_B ad sh (zm_mix u g0) (zs_op u key q (k).toInt)) := by
  refine zw_meth (by decide) (Nat.le_of_ble_eq_true rfl) ?_
  intro p e s m below meth c ls X hnm hl hW
  have hl : lv_has ls 4 [(0, .ref (ad 0)), (1, .int key), (2, .int q), (3, .int k)] := hl
  have hse := hI.2.2.1
  have hs1 := zi_sub (u 0 8) 1 (by rw [show (1 : Int32).toInt = 1 from rfl]; omega)
  rw [show (1 : Int32).toInt = 1 from rfl] at hs1
  refine lv_iload_n X.1 X.2.1 dX10_opens_0 rfl (lv_at hl 2 rfl) ?_
  refine lv_iconst (v := 0) X.1 X.2.1 dX10_opens_1 (by decide) ?_
  refine lv_aload_n X.1 X.2.1 dX10_opens_2 rfl (lv_at hl 0 rfl) ?_
  refine zr_get (v := .int (u 0 8)) X hW fs_X10_102_9 dX10_opens_3 (zm_s0 hM) rfl rfl rfl ?_
  refine lv_iconst (v := 1) X.1 X.2.1 dX10_opens_6 (by decide) ?_
  refine lv_isub X.1 X.2.1 dX10_opens_7 ?_
  refine zr_callS (As := [.int q, .int 0, .int ((u 0 8) - 1)]) (rest := []) X hW hl.1 md_X10_in ms_X10_87 dX10_opens_8 rfl rfl (Nat.le_of_ble_eq_true rfl) ⟨Nat.le_of_ble_eq_true rfl, Nat.le_of_ble_eq_true rfl⟩ ⟨Nat.le_of_ble_eq_true rfl, Nat.le_of_ble_eq_true rfl⟩ (c_X10_in l Y N0 ad sh (zm_mix u g0) q 0 ((u 0 8) - 1)) (fun v9 ad9 sh9 g9 H locs hp hW => ?_)
  rcases hp with ⟨rfl, rfl, rfl, ⟨h_1, h9⟩ | ⟨h_1, h9⟩⟩
  · subst h9
    have h_1 : zi_in q 0 ((u 0 8) - 1).toInt := h_1
    refine zr_if_eq (a := 1) (tgt := 42) X dX10_opens_11 (by decide) (by decide) (fun c9 => absurd c9 (by decide)) (fun _ => ?_)
    refine lv_aload_n X.1 X.2.1 dX10_opens_14 rfl (lv_at hl 0 rfl) ?_
    refine zr_get (v := .ref (ad 9)) X hW fs_X10_29_9 dX10_opens_15 (zm_s0 hM) rfl rfl rfl ?_
    refine lv_iload_n X.1 X.2.1 dX10_opens_18 rfl (lv_at hl 2 rfl) ?_
    refine zr_iald (v := u 9 (zn q)) X hW dX10_opens_19 (zm_s9 hM) rfl rfl (zi_vp (by omega)) rfl ?_
    refine lv_iload_n X.1 X.2.1 dX10_opens_20 rfl (lv_at hl 3 rfl) ?_
    refine zr_icmp_ne (a := (u 9 (zn q)).toInt) (b := (k).toInt) (tgt := 42) X dX10_opens_21 (by decide) rfl rfl (fun c_2 => ?_) (fun c_2 => ?_)
    · refine lv_iconst (v := 0) X.1 X.2.1 dX10_opens_42 (by decide) ?_
      exact zr_zret X hW dX10_opens_43 (Nat.le_refl _) (Nat.le_refl _) rfl ⟨rfl, rfl, rfl, Or.inr ⟨by omega, rfl⟩⟩
    · refine lv_iload_n X.1 X.2.1 dX10_opens_24 rfl (lv_at hl 1 rfl) ?_
      refine zr_if_lt (a := (key).toInt) (tgt := 42) X dX10_opens_25 (by decide) rfl (fun c_3 => ?_) (fun c_3 => ?_)
      · refine lv_iconst (v := 0) X.1 X.2.1 dX10_opens_42 (by decide) ?_
        exact zr_zret X hW dX10_opens_43 (Nat.le_refl _) (Nat.le_refl _) rfl ⟨rfl, rfl, rfl, Or.inr ⟨by omega, rfl⟩⟩
      · refine lv_aload_n X.1 X.2.1 dX10_opens_28 rfl (lv_at hl 0 rfl) ?_
        refine zr_get (v := .ref (ad 10)) X hW fs_X10_32_9 dX10_opens_29 (zm_s0 hM) rfl rfl rfl ?_
        refine lv_iload_n X.1 X.2.1 dX10_opens_32 rfl (lv_at hl 2 rfl) ?_
        refine zr_iald (v := u 10 (zn q)) X hW dX10_opens_33 (zm_s10 hM) rfl rfl (zi_vp (by omega)) rfl ?_
        refine lv_iload_n X.1 X.2.1 dX10_opens_34 rfl (lv_at hl 1 rfl) ?_
        refine zr_icmp_ne (a := (u 10 (zn q)).toInt) (b := (key).toInt) (tgt := 42) X dX10_opens_35 (by decide) rfl rfl (fun c_4 => ?_) (fun c_4 => ?_)
        · refine lv_iconst (v := 0) X.1 X.2.1 dX10_opens_42 (by decide) ?_
          exact zr_zret X hW dX10_opens_43 (Nat.le_refl _) (Nat.le_refl _) rfl ⟨rfl, rfl, rfl, Or.inr ⟨by omega, rfl⟩⟩
        · refine lv_iconst (v := 1) X.1 X.2.1 dX10_opens_38 (by decide) ?_
          refine lv_goto (tgt := 43) X.1 X.2.1 dX10_opens_39 (by decide) ?_
          exact zr_zret X hW dX10_opens_43 (Nat.le_refl _) (Nat.le_refl _) rfl ⟨rfl, rfl, rfl, Or.inl ⟨by omega, rfl⟩⟩
  · subst h9
    have h_1 : ¬ (zi_in q 0 ((u 0 8) - 1).toInt) := h_1
    refine zr_if_eq (a := 0) (tgt := 42) X dX10_opens_11 (by decide) (by decide) (fun _ => ?_) (fun c9 => absurd c9 (by decide))
    refine lv_iconst (v := 0) X.1 X.2.1 dX10_opens_42 (by decide) ?_
    exact zr_zret X hW dX10_opens_43 (Nat.le_refl _) (Nat.le_refl _) rfl ⟨rfl, rfl, rfl, Or.inr ⟨by omega, rfl⟩⟩

set_option maxHeartbeats 4000000 in
set_option maxRecDepth 100000 in
theorem c_X10_isStolen (l : Launch) (Y : zw_Y) (N0 : Nat) (ad : Nat → Nat) (sh : Nat → Option zw_Sh) (u g0 : zm_T) (hM : zm_S sh) (k : Int32) (hI : zm_I u) : zw_Met l Y N0 yX10_isStolen cX10_isStolen 2 (some .boolean) 1 22 0 0 ad sh (zm_mix u g0) [.ref (ad 0), .int k] (zp_B ad sh (zm_mix u g0) (zs_st u k)) := by
  refine zw_meth (by decide) (Nat.le_of_ble_eq_true rfl) ?_
  intro p e s m below meth c ls X hnm hl hW
  have hl : lv_has ls 2 [(0, .ref (ad 0)), (1, .int k)] := hl
  have hke := hI.2.1
  have hs1 := zi_sub (u 0 2) 1 (by rw [show (1 : Int32).toInt = 1 from rfl]; omega)
  rw [show (1 : Int32).toInt = 1 from rfl] at hs1
  refine lv_iload_n X.1 X.2.1 dX10_isStolen_0 rfl (lv_at hl 1 rfl) ?_
  refine lv_iconst (v := 0) X.1 X.2.1 dX10_isStolen_1 (by decide) ?_
  refine lv_aload_n X.1 X.2.1 dX10_isStolen_2 rfl (lv_at hl 0 rfl) ?_
  refine zr_get (v := .int (u 0 2)) X hW fs_X10_91_9 dX10_isStolen_3 (zm_s0 hM) rfl rfl rfl ?_
  refine lv_iconst (v := 1) X.1 X.2.1 dX10_isStolen_6 (by decide) ?_
  refine lv_isub X.1 X.2.1 dX10_isStolen_7 ?_
  refine zr_callS (As := [.int k, .int 0, .int ((u 0 2) - 1)]) (rest := []) X hW hl.1 md_X10_in ms_X10_87 dX10_isStolen_8 rfl rfl (Nat.le_of_ble_eq_true rfl) ⟨Nat.le_of_ble_eq_true rfl, Nat.le_of_ble_eq_true rfl⟩ ⟨Nat.le_of_ble_eq_true rfl, Nat.le_of_ble_eq_true rfl⟩ (c_X10_in l Y N0 ad sh (zm_mix u g0) k 0 ((u 0 2) - 1)) (fun v9 ad9 sh9 g9 H locs hp hW => ?_)
  rcases hp with ⟨rfl, rfl, rfl, ⟨h_1, h9⟩ | ⟨h_1, h9⟩⟩
  · subst h9
    have h_1 : zi_in k 0 ((u 0 2) - 1).toInt := h_1
    refine zr_if_eq (a := 1) (tgt := 27) X dX10_isStolen_11 (by decide) (by decide) (fun c9 => absurd c9 (by decide)) (fun _ => ?_)
    refine lv_aload_n X.1 X.2.1 dX10_isStolen_14 rfl (lv_at hl 0 rfl) ?_
    refine zr_get (v := .ref (ad 4)) X hW fs_X10_16_9 dX10_isStolen_15 (zm_s0 hM) rfl rfl rfl ?_
    refine lv_iload_n X.1 X.2.1 dX10_isStolen_18 rfl (lv_at hl 1 rfl) ?_
    refine zr_zald (v := u 4 (zn k)) X hW dX10_isStolen_19 (zm_s4 hM) rfl rfl (zi_vp (by omega)) rfl ?_
    refine zr_if_eq (a := (u 4 (zn k)).toInt) (tgt := 27) X dX10_isStolen_20 (by decide) rfl (fun c_2 => ?_) (fun c_2 => ?_)
    · refine lv_iconst (v := 0) X.1 X.2.1 dX10_isStolen_27 (by decide) ?_
      exact zr_zret X hW dX10_isStolen_28 (Nat.le_refl _) (Nat.le_refl _) rfl ⟨rfl, rfl, rfl, Or.inr ⟨by first | omega | (have h9 := zI_st hI (zn k) (by rw [zi_n]; omega); rw [zi_0] at *; omega), rfl⟩⟩
    · refine lv_iconst (v := 1) X.1 X.2.1 dX10_isStolen_23 (by decide) ?_
      refine lv_goto (tgt := 28) X.1 X.2.1 dX10_isStolen_24 (by decide) ?_
      exact zr_zret X hW dX10_isStolen_28 (Nat.le_refl _) (Nat.le_refl _) rfl ⟨rfl, rfl, rfl, Or.inl ⟨by first | omega | (have h9 := zI_st hI (zn k) (by rw [zi_n]; omega); rw [zi_0] at *; omega), rfl⟩⟩
  · subst h9
    have h_1 : ¬ (zi_in k 0 ((u 0 2) - 1).toInt) := h_1
    refine zr_if_eq (a := 0) (tgt := 27) X dX10_isStolen_11 (by decide) (by decide) (fun _ => ?_) (fun c9 => absurd c9 (by decide))
    refine lv_iconst (v := 0) X.1 X.2.1 dX10_isStolen_27 (by decide) ?_
    exact zr_zret X hW dX10_isStolen_28 (Nat.le_refl _) (Nat.le_refl _) rfl ⟨rfl, rfl, rfl, Or.inr ⟨by first | omega | (have h9 := zI_st hI (zn k) (by rw [zi_n]; omega); rw [zi_0] at *; omega), rfl⟩⟩
end
section
def zp_S (ad : Nat → Nat) (sh : Nat → Option zw_Sh) (g0 : zm_T) (q : Int32 × zm_T) : zw_Po := zp_G ad sh (fun v g' => v = some (.int q.1) ∧ g' = zm_mix q.2 g0)
theorem zi_ix3 (a f : Int32) (ha : 0 ≤ a.toInt ∧ a.toInt ≤ 11) (hf : 0 ≤ f.toInt ∧ f.toInt ≤ 17) : (3 * a + f).toInt = 3 * a.toInt + f.toInt ∧ (3 * a + f).toNatClampNeg = 3 * zn a + zn f := by
  have h3 : (3 : Int32).toInt = 3 := rfl
  have h1 := zi_mul 3 a (by rw [h3]; omega)
  have h2 := zi_add (3 * a) f (by rw [h1, h3]; omega)
  rw [h1, h3] at h2
  refine ⟨h2, ?_⟩
  show zn (3 * a + f) = _
  rw [zi_n, h2, zi_n, zi_n]; omega
theorem zi_ix2 (a : Int32) (ha : 0 ≤ a.toInt ∧ a.toInt ≤ 5) : (2 * a).toInt = 2 * a.toInt ∧ (2 * a).toNatClampNeg = 2 * zn a := by
  have h3 : (2 : Int32).toInt = 2 := rfl
  have h1 := zi_mul 2 a (by rw [h3]; omega)
  rw [h3] at h1
  refine ⟨h1, ?_⟩
  show zn (2 * a) = _
  rw [zi_n, h1, zi_n]; omega
theorem zi_ix2t (a f : Int32) (ha : 0 ≤ a.toInt ∧ a.toInt ≤ 5) (hf : 0 ≤ f.toInt ∧ f.toInt ≤ 1) : (2 * a + f).toInt = 2 * a.toInt + f.toInt ∧ (2 * a + f).toNatClampNeg = 2 * zn a + zn f := by
  have h1 := (zi_ix2 a ha).1
  have h2 := zi_add (2 * a) f (by rw [h1]; omega)
  rw [h1] at h2
  refine ⟨h2, ?_⟩
  show zn (2 * a + f) = _
  rw [zi_n, h2, zi_n, zi_n]; omega
theorem zi_ix21 (a : Int32) (ha : 0 ≤ a.toInt ∧ a.toInt ≤ 5) : (2 * a + 1).toInt = 2 * a.toInt + 1 ∧ (2 * a + 1).toNatClampNeg = 2 * zn a + 1 := zi_ix2t a 1 ha (by decide)

set_option maxHeartbeats 4000000 in
set_option maxRecDepth 100000 in
theorem c_X10_remove (l : Launch) (Y : zw_Y) (N0 : Nat) (ad : Nat → Nat) (sh : Nat → Option zw_Sh) (u g0 : zm_T) (hM : zm_S sh) (a : Int32) (hI : zm_I u) : zw_Met l Y N0 yX10_remove cX10_remove 3 (some .boolean) 2 43 0 0 ad sh (zm_mix u g0) [.ref (ad 0), .int a] (zp_S ad sh g0 (sp_remove a u)) := by
  refine zw_meth (by decide) (Nat.le_of_ble_eq_true rfl) ?_
  intro p e s m below meth c ls X hnm hl hW
  have hl : lv_has ls 3 [(0, .ref (ad 0)), (1, .int a)] := hl
  refine lv_aload_n X.1 X.2.1 dX10_remove_0 rfl (lv_at hl 0 rfl) ?_
  refine lv_iload_n X.1 X.2.1 dX10_remove_1 rfl (lv_at hl 1 rfl) ?_
  refine zr_callV (As := [.int a]) (rest := []) X hW hl.1 md_X10_booked ms_X10_94 dX10_remove_2 (zm_s0 hM) rfl rfl rfl rfl (Nat.le_of_ble_eq_true rfl) ⟨Nat.le_of_ble_eq_true rfl, Nat.le_of_ble_eq_true rfl⟩ ⟨Nat.le_of_ble_eq_true rfl, Nat.le_of_ble_eq_true rfl⟩ (c_X10_booked l Y N0 ad sh u g0 hM a) (fun v9 ad9 sh9 g9 H locs hp hW => ?_)
  rcases hp with ⟨rfl, rfl, rfl, ⟨h_1, h9⟩ | ⟨h_1, h9⟩⟩
  · subst h9
    have h_1 : zs_bk u a := h_1
    refine lv_istore_n (lv' := [(2, .int 1), (0, .ref (ad 0)), (1, .int a)]) X.1 X.2.1 dX10_remove_5 rfl hl (by decide) rfl (fun ls hl => ?_)
    refine lv_iload_n X.1 X.2.1 dX10_remove_6 rfl (lv_at hl 0 rfl) ?_
    refine zr_if_eq (a := 1) (tgt := 17) X dX10_remove_7 (by decide) (by decide) (fun c9 => absurd c9 (by decide)) (fun _ => ?_)
    refine lv_aload_n X.1 X.2.1 dX10_remove_10 rfl (lv_at hl 1 rfl) ?_
    refine zr_get (v := .ref (ad 5)) X hW fs_X10_20_9 dX10_remove_11 (zm_s0 hM) rfl rfl rfl ?_
    refine lv_iload_n X.1 X.2.1 dX10_remove_14 rfl (lv_at hl 2 rfl) ?_
    refine lv_iconst (v := (-1)) X.1 X.2.1 dX10_remove_15 (by decide) ?_
    refine zr_iast X hW dX10_remove_16 (zm_s5 hM) rfl rfl (zi_vp (by omega)) (fun H locs hW => ?_)
    have hW : zw_St Y N0 ad sh (zm_mix (zm_w u 5 (zn a) ((-1))) g0) s H locs := zm_st (by decide) hW
    obtain ⟨u_2, hu_2⟩ : ∃ z : zm_T, z = zm_w u 5 (zn a) ((-1)) := ⟨_, rfl⟩
    rw [← hu_2] at hW
    refine lv_iload_n X.1 X.2.1 dX10_remove_17 rfl (lv_at hl 0 rfl) ?_
    have e9 : sp_remove a u = (1, u_2) := (by subst hu_2; unfold sp_remove; (repeat (first | refine (if_pos (by omega)).trans ?_ | refine (if_neg (by omega)).trans ?_)); first | rfl | (rw [zm_ws]))
    exact zr_zret X hW dX10_remove_18 (Nat.le_refl _) (Nat.le_refl _) rfl ⟨rfl, rfl, by rw [e9], by rw [e9]⟩
  · subst h9
    have h_1 : ¬ (zs_bk u a) := h_1
    refine lv_istore_n (lv' := [(2, .int 0), (0, .ref (ad 0)), (1, .int a)]) X.1 X.2.1 dX10_remove_5 rfl hl (by decide) rfl (fun ls hl => ?_)
    refine lv_iload_n X.1 X.2.1 dX10_remove_6 rfl (lv_at hl 0 rfl) ?_
    refine zr_if_eq (a := 0) (tgt := 17) X dX10_remove_7 (by decide) (by decide) (fun _ => ?_) (fun c9 => absurd c9 (by decide))
    refine lv_iload_n X.1 X.2.1 dX10_remove_17 rfl (lv_at hl 0 rfl) ?_
    have e9 : sp_remove a u = (0, u) := (by unfold sp_remove; (repeat (first | refine (if_pos (by omega)).trans ?_ | refine (if_neg (by omega)).trans ?_)); first | rfl | (rw [zm_ws]))
    exact zr_zret X hW dX10_remove_18 (Nat.le_refl _) (Nat.le_refl _) rfl ⟨rfl, rfl, by rw [e9], by rw [e9]⟩

set_option maxHeartbeats 4000000 in
set_option maxRecDepth 100000 in
theorem c_X10_limit (l : Launch) (Y : zw_Y) (N0 : Nat) (ad : Nat → Nat) (sh : Nat → Option zw_Sh) (u g0 : zm_T) (hM : zm_S sh) (a n : Int32) (hI : zm_I u) : zw_Met l Y N0 yX10_limit cX10_limit 3 (some .boolean) 2 43 0 0 ad sh (zm_mix u g0) [.ref (ad 0), .int a, .int n] (zp_S ad sh g0 (sp_limit a n u)) := by
  refine zw_meth (by decide) (Nat.le_of_ble_eq_true rfl) ?_
  intro p e s m below meth c ls X hnm hl hW
  have hl : lv_has ls 3 [(0, .ref (ad 0)), (1, .int a), (2, .int n)] := hl
  refine lv_aload_n X.1 X.2.1 dX10_limit_0 rfl (lv_at hl 0 rfl) ?_
  refine lv_iload_n X.1 X.2.1 dX10_limit_1 rfl (lv_at hl 1 rfl) ?_
  refine zr_callV (As := [.int a]) (rest := []) X hW hl.1 md_X10_booked ms_X10_94 dX10_limit_2 (zm_s0 hM) rfl rfl rfl rfl (Nat.le_of_ble_eq_true rfl) ⟨Nat.le_of_ble_eq_true rfl, Nat.le_of_ble_eq_true rfl⟩ ⟨Nat.le_of_ble_eq_true rfl, Nat.le_of_ble_eq_true rfl⟩ (c_X10_booked l Y N0 ad sh u g0 hM a) (fun v9 ad9 sh9 g9 H locs hp hW => ?_)
  rcases hp with ⟨rfl, rfl, rfl, ⟨h_1, h9⟩ | ⟨h_1, h9⟩⟩
  · subst h9
    have h_1 : zs_bk u a := h_1
    refine zr_if_eq (a := 1) (tgt := 19) X dX10_limit_5 (by decide) (by decide) (fun c9 => absurd c9 (by decide)) (fun _ => ?_)
    refine lv_iload_n X.1 X.2.1 dX10_limit_8 rfl (lv_at hl 2 rfl) ?_
    refine lv_iconst (v := 1) X.1 X.2.1 dX10_limit_9 (by decide) ?_
    refine lv_sipush (v := 1000) X.1 X.2.1 dX10_limit_10 (by decide) ?_
    refine zr_callS (As := [.int n, .int 1, .int 1000]) (rest := []) X hW hl.1 md_X10_in ms_X10_87 dX10_limit_13 rfl rfl (Nat.le_of_ble_eq_true rfl) ⟨Nat.le_of_ble_eq_true rfl, Nat.le_of_ble_eq_true rfl⟩ ⟨Nat.le_of_ble_eq_true rfl, Nat.le_of_ble_eq_true rfl⟩ (c_X10_in l Y N0 ad sh (zm_mix u g0) n 1 1000) (fun v9 ad9 sh9 g9 H locs hp hW => ?_)
    rcases hp with ⟨rfl, rfl, rfl, ⟨h_2, h9⟩ | ⟨h_2, h9⟩⟩
    · subst h9
      have h_2 : zi_in n 1 1000 := h_2
      refine zr_if_ne (a := 1) (tgt := 21) X dX10_limit_16 (by decide) (by decide) (fun _ => ?_) (fun c9 => absurd c9 (by decide))
      refine lv_aload_n X.1 X.2.1 dX10_limit_21 rfl (lv_at hl 0 rfl) ?_
      refine zr_get (v := .ref (ad 6)) X hW fs_X10_23_9 dX10_limit_22 (zm_s0 hM) rfl rfl rfl ?_
      refine lv_iload_n X.1 X.2.1 dX10_limit_25 rfl (lv_at hl 1 rfl) ?_
      refine lv_iload_n X.1 X.2.1 dX10_limit_26 rfl (lv_at hl 2 rfl) ?_
      refine zr_iast X hW dX10_limit_27 (zm_s6 hM) rfl rfl (zi_vp (by omega)) (fun H locs hW => ?_)
      have hW : zw_St Y N0 ad sh (zm_mix (zm_w u 6 (zn a) n) g0) s H locs := zm_st (by decide) hW
      obtain ⟨u_3, hu_3⟩ : ∃ z : zm_T, z = zm_w u 6 (zn a) n := ⟨_, rfl⟩
      rw [← hu_3] at hW
      refine lv_iconst (v := 1) X.1 X.2.1 dX10_limit_28 (by decide) ?_
      have e9 : sp_limit a n u = (1, u_3) := (by subst hu_3; unfold sp_limit; (repeat (first | refine (if_pos (by omega)).trans ?_ | refine (if_neg (by omega)).trans ?_)); first | rfl | (rw [zm_ws]))
      exact zr_zret X hW dX10_limit_29 (Nat.le_refl _) (Nat.le_refl _) rfl ⟨rfl, rfl, by rw [e9], by rw [e9]⟩
    · subst h9
      have h_2 : ¬ (zi_in n 1 1000) := h_2
      refine zr_if_ne (a := 0) (tgt := 21) X dX10_limit_16 (by decide) (by decide) (fun c9 => absurd c9 (by decide)) (fun _ => ?_)
      refine lv_iconst (v := 0) X.1 X.2.1 dX10_limit_19 (by decide) ?_
      have e9 : sp_limit a n u = (0, u) := (by unfold sp_limit; (repeat (first | refine (if_pos (by omega)).trans ?_ | refine (if_neg (by omega)).trans ?_)); first | rfl | (rw [zm_ws]))
      exact zr_zret X hW dX10_limit_20 (Nat.le_refl _) (Nat.le_refl _) rfl ⟨rfl, rfl, by rw [e9], by rw [e9]⟩
  · subst h9
    have h_1 : ¬ (zs_bk u a) := h_1
    refine zr_if_eq (a := 0) (tgt := 19) X dX10_limit_5 (by decide) (by decide) (fun _ => ?_) (fun c9 => absurd c9 (by decide))
    refine lv_iconst (v := 0) X.1 X.2.1 dX10_limit_19 (by decide) ?_
    have e9 : sp_limit a n u = (0, u) := (by unfold sp_limit; (repeat (first | refine (if_pos (by omega)).trans ?_ | refine (if_neg (by omega)).trans ?_)); first | rfl | (rw [zm_ws]))
    exact zr_zret X hW dX10_limit_20 (Nat.le_refl _) (Nat.le_refl _) rfl ⟨rfl, rfl, by rw [e9], by rw [e9]⟩

set_option maxHeartbeats 4000000 in
set_option maxRecDepth 100000 in
theorem c_X10_allow (l : Launch) (Y : zw_Y) (N0 : Nat) (ad : Nat → Nat) (sh : Nat → Option zw_Sh) (u g0 : zm_T) (hM : zm_S sh) (a f r : Int32) (hI : zm_I u) : zw_Met l Y N0 yX10_allow cX10_allow 4 (some .boolean) 2 43 0 0 ad sh (zm_mix u g0) [.ref (ad 0), .int a, .int f, .int r] (zp_S ad sh g0 (sp_allow a f r u)) := by
  refine zw_meth (by decide) (Nat.le_of_ble_eq_true rfl) ?_
  intro p e s m below meth c ls X hnm hl hW
  have hl : lv_has ls 4 [(0, .ref (ad 0)), (1, .int a), (2, .int f), (3, .int r)] := hl
  refine lv_aload_n X.1 X.2.1 dX10_allow_0 rfl (lv_at hl 0 rfl) ?_
  refine lv_iload_n X.1 X.2.1 dX10_allow_1 rfl (lv_at hl 1 rfl) ?_
  refine zr_callV (As := [.int a]) (rest := []) X hW hl.1 md_X10_booked ms_X10_94 dX10_allow_2 (zm_s0 hM) rfl rfl rfl rfl (Nat.le_of_ble_eq_true rfl) ⟨Nat.le_of_ble_eq_true rfl, Nat.le_of_ble_eq_true rfl⟩ ⟨Nat.le_of_ble_eq_true rfl, Nat.le_of_ble_eq_true rfl⟩ (c_X10_booked l Y N0 ad sh u g0 hM a) (fun v9 ad9 sh9 g9 H locs hp hW => ?_)
  rcases hp with ⟨rfl, rfl, rfl, ⟨h_1, h9⟩ | ⟨h_1, h9⟩⟩
  · subst h9
    have h_1 : zs_bk u a := h_1
    refine zr_if_eq (a := 1) (tgt := 26) X dX10_allow_5 (by decide) (by decide) (fun c9 => absurd c9 (by decide)) (fun _ => ?_)
    refine lv_iload_n X.1 X.2.1 dX10_allow_8 rfl (lv_at hl 2 rfl) ?_
    refine lv_iconst (v := 0) X.1 X.2.1 dX10_allow_9 (by decide) ?_
    refine lv_iconst (v := 2) X.1 X.2.1 dX10_allow_10 (by decide) ?_
    refine zr_callS (As := [.int f, .int 0, .int 2]) (rest := []) X hW hl.1 md_X10_in ms_X10_87 dX10_allow_11 rfl rfl (Nat.le_of_ble_eq_true rfl) ⟨Nat.le_of_ble_eq_true rfl, Nat.le_of_ble_eq_true rfl⟩ ⟨Nat.le_of_ble_eq_true rfl, Nat.le_of_ble_eq_true rfl⟩ (c_X10_in l Y N0 ad sh (zm_mix u g0) f 0 2) (fun v9 ad9 sh9 g9 H locs hp hW => ?_)
    rcases hp with ⟨rfl, rfl, rfl, ⟨h_2, h9⟩ | ⟨h_2, h9⟩⟩
    · subst h9
      have h_2 : zi_in f 0 2 := h_2
      refine zr_if_eq (a := 1) (tgt := 26) X dX10_allow_14 (by decide) (by decide) (fun c9 => absurd c9 (by decide)) (fun _ => ?_)
      refine lv_iload_n X.1 X.2.1 dX10_allow_17 rfl (lv_at hl 3 rfl) ?_
      refine lv_iconst (v := 0) X.1 X.2.1 dX10_allow_18 (by decide) ?_
      refine lv_iconst (v := 3) X.1 X.2.1 dX10_allow_19 (by decide) ?_
      refine zr_callS (As := [.int r, .int 0, .int 3]) (rest := []) X hW hl.1 md_X10_in ms_X10_87 dX10_allow_20 rfl rfl (Nat.le_of_ble_eq_true rfl) ⟨Nat.le_of_ble_eq_true rfl, Nat.le_of_ble_eq_true rfl⟩ ⟨Nat.le_of_ble_eq_true rfl, Nat.le_of_ble_eq_true rfl⟩ (c_X10_in l Y N0 ad sh (zm_mix u g0) r 0 3) (fun v9 ad9 sh9 g9 H locs hp hW => ?_)
      rcases hp with ⟨rfl, rfl, rfl, ⟨h_3, h9⟩ | ⟨h_3, h9⟩⟩
      · subst h9
        have h_3 : zi_in r 0 3 := h_3
        refine zr_if_ne (a := 1) (tgt := 28) X dX10_allow_23 (by decide) (by decide) (fun _ => ?_) (fun c9 => absurd c9 (by decide))
        refine lv_aload_n X.1 X.2.1 dX10_allow_28 rfl (lv_at hl 0 rfl) ?_
        refine zr_get (v := .ref (ad 7)) X hW fs_X10_26_9 dX10_allow_29 (zm_s0 hM) rfl rfl rfl ?_
        refine lv_iconst (v := 3) X.1 X.2.1 dX10_allow_32 (by decide) ?_
        refine lv_iload_n X.1 X.2.1 dX10_allow_33 rfl (lv_at hl 1 rfl) ?_
        refine lv_imul X.1 X.2.1 dX10_allow_34 ?_
        refine lv_iload_n X.1 X.2.1 dX10_allow_35 rfl (lv_at hl 2 rfl) ?_
        refine lv_iadd X.1 X.2.1 dX10_allow_36 ?_
        refine lv_iload_n X.1 X.2.1 dX10_allow_37 rfl (lv_at hl 3 rfl) ?_
        have hx_4 := zi_ix3 a f (by omega) (by omega)
        obtain ⟨hx_4, hx_4n⟩ := hx_4
        refine zr_iast X hW dX10_allow_38 (zm_s7 hM) rfl rfl (zi_vp (by omega)) (fun H locs hW => ?_)
        rw [hx_4n] at hW
        have hW : zw_St Y N0 ad sh (zm_mix (zm_w u 7 (3 * zn a + zn f) r) g0) s H locs := zm_st (by decide) hW
        obtain ⟨u_5, hu_5⟩ : ∃ z : zm_T, z = zm_w u 7 (3 * zn a + zn f) r := ⟨_, rfl⟩
        rw [← hu_5] at hW
        refine lv_iconst (v := 1) X.1 X.2.1 dX10_allow_39 (by decide) ?_
        have e9 : sp_allow a f r u = (1, u_5) := (by subst hu_5; unfold sp_allow; (repeat (first | refine (if_pos (by omega)).trans ?_ | refine (if_neg (by omega)).trans ?_)); first | rfl | (rw [zm_ws]))
        exact zr_zret X hW dX10_allow_40 (Nat.le_refl _) (Nat.le_refl _) rfl ⟨rfl, rfl, by rw [e9], by rw [e9]⟩
      · subst h9
        have h_3 : ¬ (zi_in r 0 3) := h_3
        refine zr_if_ne (a := 0) (tgt := 28) X dX10_allow_23 (by decide) (by decide) (fun c9 => absurd c9 (by decide)) (fun _ => ?_)
        refine lv_iconst (v := 0) X.1 X.2.1 dX10_allow_26 (by decide) ?_
        have e9 : sp_allow a f r u = (0, u) := (by unfold sp_allow; (repeat (first | refine (if_pos (by omega)).trans ?_ | refine (if_neg (by omega)).trans ?_)); first | rfl | (rw [zm_ws]))
        exact zr_zret X hW dX10_allow_27 (Nat.le_refl _) (Nat.le_refl _) rfl ⟨rfl, rfl, by rw [e9], by rw [e9]⟩
    · subst h9
      have h_2 : ¬ (zi_in f 0 2) := h_2
      refine zr_if_eq (a := 0) (tgt := 26) X dX10_allow_14 (by decide) (by decide) (fun _ => ?_) (fun c9 => absurd c9 (by decide))
      refine lv_iconst (v := 0) X.1 X.2.1 dX10_allow_26 (by decide) ?_
      have e9 : sp_allow a f r u = (0, u) := (by unfold sp_allow; (repeat (first | refine (if_pos (by omega)).trans ?_ | refine (if_neg (by omega)).trans ?_)); first | rfl | (rw [zm_ws]))
      exact zr_zret X hW dX10_allow_27 (Nat.le_refl _) (Nat.le_refl _) rfl ⟨rfl, rfl, by rw [e9], by rw [e9]⟩
  · subst h9
    have h_1 : ¬ (zs_bk u a) := h_1
    refine zr_if_eq (a := 0) (tgt := 26) X dX10_allow_5 (by decide) (by decide) (fun _ => ?_) (fun c9 => absurd c9 (by decide))
    refine lv_iconst (v := 0) X.1 X.2.1 dX10_allow_26 (by decide) ?_
    have e9 : sp_allow a f r u = (0, u) := (by unfold sp_allow; (repeat (first | refine (if_pos (by omega)).trans ?_ | refine (if_neg (by omega)).trans ?_)); first | rfl | (rw [zm_ws]))
    exact zr_zret X hW dX10_allow_27 (Nat.le_refl _) (Nat.le_refl _) rfl ⟨rfl, rfl, by rw [e9], by rw [e9]⟩

set_option maxHeartbeats 4000000 in
set_option maxRecDepth 100000 in
theorem c_X10_tick (l : Launch) (Y : zw_Y) (N0 : Nat) (ad : Nat → Nat) (sh : Nat → Option zw_Sh) (u g0 : zm_T) (hM : zm_S sh) (a n : Int32) (hI : zm_I u) : zw_Met l Y N0 yX10_tick cX10_tick 3 (some .int) 1 22 0 0 ad sh (zm_mix u g0) [.ref (ad 0), .int a, .int n] (zp_S ad sh g0 (sp_tick a n u)) := by
  refine zw_meth (by decide) (Nat.le_of_ble_eq_true rfl) ?_
  intro p e s m below meth c ls X hnm hl hW
  have hl : lv_has ls 3 [(0, .ref (ad 0)), (1, .int a), (2, .int n)] := hl
  refine lv_iload_n X.1 X.2.1 dX10_tick_0 rfl (lv_at hl 1 rfl) ?_
  refine lv_iconst (v := 0) X.1 X.2.1 dX10_tick_1 (by decide) ?_
  refine lv_iconst (v := 5) X.1 X.2.1 dX10_tick_2 (by decide) ?_
  refine zr_callS (As := [.int a, .int 0, .int 5]) (rest := []) X hW hl.1 md_X10_in ms_X10_87 dX10_tick_3 rfl rfl (Nat.le_of_ble_eq_true rfl) ⟨Nat.le_of_ble_eq_true rfl, Nat.le_of_ble_eq_true rfl⟩ ⟨Nat.le_of_ble_eq_true rfl, Nat.le_of_ble_eq_true rfl⟩ (c_X10_in l Y N0 ad sh (zm_mix u g0) a 0 5) (fun v9 ad9 sh9 g9 H locs hp hW => ?_)
  rcases hp with ⟨rfl, rfl, rfl, ⟨h_1, h9⟩ | ⟨h_1, h9⟩⟩
  · subst h9
    have h_1 : zi_in a 0 5 := h_1
    refine zr_if_eq (a := 1) (tgt := 20) X dX10_tick_6 (by decide) (by decide) (fun c9 => absurd c9 (by decide)) (fun _ => ?_)
    refine lv_iload_n X.1 X.2.1 dX10_tick_9 rfl (lv_at hl 2 rfl) ?_
    refine lv_iconst (v := 1) X.1 X.2.1 dX10_tick_10 (by decide) ?_
    refine lv_sipush (v := 1000) X.1 X.2.1 dX10_tick_11 (by decide) ?_
    refine zr_callS (As := [.int n, .int 1, .int 1000]) (rest := []) X hW hl.1 md_X10_in ms_X10_87 dX10_tick_14 rfl rfl (Nat.le_of_ble_eq_true rfl) ⟨Nat.le_of_ble_eq_true rfl, Nat.le_of_ble_eq_true rfl⟩ ⟨Nat.le_of_ble_eq_true rfl, Nat.le_of_ble_eq_true rfl⟩ (c_X10_in l Y N0 ad sh (zm_mix u g0) n 1 1000) (fun v9 ad9 sh9 g9 H locs hp hW => ?_)
    rcases hp with ⟨rfl, rfl, rfl, ⟨h_2, h9⟩ | ⟨h_2, h9⟩⟩
    · subst h9
      have h_2 : zi_in n 1 1000 := h_2
      refine zr_if_ne (a := 1) (tgt := 22) X dX10_tick_17 (by decide) (by decide) (fun _ => ?_) (fun c9 => absurd c9 (by decide))
      refine lv_aload_n X.1 X.2.1 dX10_tick_22 rfl (lv_at hl 0 rfl) ?_
      refine zr_get (v := .ref (ad 1)) X hW fs_X10_7_9 dX10_tick_23 (zm_s0 hM) rfl rfl rfl ?_
      refine lv_iload_n X.1 X.2.1 dX10_tick_26 rfl (lv_at hl 1 rfl) ?_
      refine lv_dup2_11 X.1 X.2.1 dX10_tick_27 rfl rfl ?_
      refine zr_iald (v := u 1 (zn a)) X hW dX10_tick_28 (zm_s1 hM) rfl rfl (zi_vp (by omega)) rfl ?_
      refine lv_iload_n X.1 X.2.1 dX10_tick_29 rfl (lv_at hl 2 rfl) ?_
      refine lv_iadd X.1 X.2.1 dX10_tick_30 ?_
      refine zr_iast X hW dX10_tick_31 (zm_s1 hM) rfl rfl (zi_vp (by omega)) (fun H locs hW => ?_)
      have hW : zw_St Y N0 ad sh (zm_mix (zm_w u 1 (zn a) ((u 1 (zn a)) + n)) g0) s H locs := zm_st (by decide) hW
      obtain ⟨u_3, hu_3⟩ : ∃ z : zm_T, z = zm_w u 1 (zn a) ((u 1 (zn a)) + n) := ⟨_, rfl⟩
      rw [← hu_3] at hW
      refine lv_aload_n X.1 X.2.1 dX10_tick_32 rfl (lv_at hl 0 rfl) ?_
      refine zr_get (v := .ref (ad 1)) X hW fs_X10_7_9 dX10_tick_33 (zm_s0 hM) rfl rfl rfl ?_
      refine lv_iload_n X.1 X.2.1 dX10_tick_36 rfl (lv_at hl 1 rfl) ?_
      refine zr_iald (v := (u 1 (zn a)) + n) X hW dX10_tick_37 (zm_s1 hM) rfl rfl (zi_vp (by omega)) ((show zm_mix u_3 g0 1 (a : Int32).toNatClampNeg = u_3 1 (zn a) from rfl).trans (show u_3 1 (zn a) = (u 1 (zn a)) + n from (by rw [hu_3]; exact zm_ws _ _ _ _))) ?_
      have e9 : sp_tick a n u = ((u 1 (zn a)) + n, u_3) := (by subst hu_3; unfold sp_tick; (repeat (first | refine (if_pos (by omega)).trans ?_ | refine (if_neg (by omega)).trans ?_)); first | rfl | (rw [zm_ws]))
      exact zr_iret X hW dX10_tick_38 (Nat.le_refl _) (Nat.le_refl _) ⟨rfl, rfl, by rw [e9], by rw [e9]⟩
    · subst h9
      have h_2 : ¬ (zi_in n 1 1000) := h_2
      refine zr_if_ne (a := 0) (tgt := 22) X dX10_tick_17 (by decide) (by decide) (fun c9 => absurd c9 (by decide)) (fun _ => ?_)
      refine lv_iconst (v := (-1)) X.1 X.2.1 dX10_tick_20 (by decide) ?_
      have e9 : sp_tick a n u = ((-1), u) := (by unfold sp_tick; (repeat (first | refine (if_pos (by omega)).trans ?_ | refine (if_neg (by omega)).trans ?_)); first | rfl | (rw [zm_ws]))
      exact zr_iret X hW dX10_tick_21 (Nat.le_refl _) (Nat.le_refl _) ⟨rfl, rfl, by rw [e9], by rw [e9]⟩
  · subst h9
    have h_1 : ¬ (zi_in a 0 5) := h_1
    refine zr_if_eq (a := 0) (tgt := 20) X dX10_tick_6 (by decide) (by decide) (fun _ => ?_) (fun c9 => absurd c9 (by decide))
    refine lv_iconst (v := (-1)) X.1 X.2.1 dX10_tick_20 (by decide) ?_
    have e9 : sp_tick a n u = ((-1), u) := (by unfold sp_tick; (repeat (first | refine (if_pos (by omega)).trans ?_ | refine (if_neg (by omega)).trans ?_)); first | rfl | (rw [zm_ws]))
    exact zr_iret X hW dX10_tick_21 (Nat.le_refl _) (Nat.le_refl _) ⟨rfl, rfl, by rw [e9], by rw [e9]⟩

set_option maxHeartbeats 4000000 in
set_option maxRecDepth 100000 in
theorem c_X10_steal (l : Launch) (Y : zw_Y) (N0 : Nat) (ad : Nat → Nat) (sh : Nat → Option zw_Sh) (u g0 : zm_T) (hM : zm_S sh) (a : Int32) (hI : zm_I u) : zw_Met l Y N0 yX10_steal cX10_steal 2 (some .int) 1 22 0 0 ad sh (zm_mix u g0) [.ref (ad 0), .int a] (zp_S ad sh g0 (sp_steal a u)) := by
  refine zw_meth (by decide) (Nat.le_of_ble_eq_true rfl) ?_
  intro p e s m below meth c ls X hnm hl hW
  have hl : lv_has ls 2 [(0, .ref (ad 0)), (1, .int a)] := hl
  refine lv_iload_n X.1 X.2.1 dX10_steal_0 rfl (lv_at hl 1 rfl) ?_
  refine lv_iconst (v := 0) X.1 X.2.1 dX10_steal_1 (by decide) ?_
  refine lv_iconst (v := 5) X.1 X.2.1 dX10_steal_2 (by decide) ?_
  refine zr_callS (As := [.int a, .int 0, .int 5]) (rest := []) X hW hl.1 md_X10_in ms_X10_87 dX10_steal_3 rfl rfl (Nat.le_of_ble_eq_true rfl) ⟨Nat.le_of_ble_eq_true rfl, Nat.le_of_ble_eq_true rfl⟩ ⟨Nat.le_of_ble_eq_true rfl, Nat.le_of_ble_eq_true rfl⟩ (c_X10_in l Y N0 ad sh (zm_mix u g0) a 0 5) (fun v9 ad9 sh9 g9 H locs hp hW => ?_)
  rcases hp with ⟨rfl, rfl, rfl, ⟨h_1, h9⟩ | ⟨h_1, h9⟩⟩
  · subst h9
    have h_1 : zi_in a 0 5 := h_1
    refine zr_if_eq (a := 1) (tgt := 18) X dX10_steal_6 (by decide) (by decide) (fun c9 => absurd c9 (by decide)) (fun _ => ?_)
    refine lv_aload_n X.1 X.2.1 dX10_steal_9 rfl (lv_at hl 0 rfl) ?_
    refine zr_get (v := .ref (ad 3)) X hW fs_X10_13_9 dX10_steal_10 (zm_s0 hM) rfl rfl rfl ?_
    refine lv_iload_n X.1 X.2.1 dX10_steal_13 rfl (lv_at hl 1 rfl) ?_
    refine zr_iald (v := u 3 (zn a)) X hW dX10_steal_14 (zm_s3 hM) rfl rfl (zi_vp (by omega)) rfl ?_
    refine zr_if_ge (a := (u 3 (zn a)).toInt) (tgt := 20) X dX10_steal_15 (by decide) rfl (fun c_2 => ?_) (fun c_2 => ?_)
    · have hke := zI_ke hI
      have how := zI_ow hI (zn a) (by rw [zi_n]; omega)
      refine lv_aload_n X.1 X.2.1 dX10_steal_20 rfl (lv_at hl 0 rfl) ?_
      refine zr_get (v := .ref (ad 4)) X hW fs_X10_16_9 dX10_steal_21 (zm_s0 hM) rfl rfl rfl ?_
      refine lv_aload_n X.1 X.2.1 dX10_steal_24 rfl (lv_at hl 0 rfl) ?_
      refine zr_get (v := .ref (ad 3)) X hW fs_X10_13_9 dX10_steal_25 (zm_s0 hM) rfl rfl rfl ?_
      refine lv_iload_n X.1 X.2.1 dX10_steal_28 rfl (lv_at hl 1 rfl) ?_
      refine zr_iald (v := u 3 (zn a)) X hW dX10_steal_29 (zm_s3 hM) rfl rfl (zi_vp (by omega)) rfl ?_
      refine lv_iconst (v := 1) X.1 X.2.1 dX10_steal_30 (by decide) ?_
      refine zr_zast X hW dX10_steal_31 (zm_s4 hM) rfl rfl (zi_vp (by omega)) rfl (fun H locs hW => ?_)
      have hW : zw_St Y N0 ad sh (zm_mix (zm_w u 4 (zn (u 3 (zn a))) 1) g0) s H locs := zm_st (by decide) hW
      obtain ⟨u_3, hu_3⟩ : ∃ z : zm_T, z = zm_w u 4 (zn (u 3 (zn a))) 1 := ⟨_, rfl⟩
      rw [← hu_3] at hW
      refine lv_aload_n X.1 X.2.1 dX10_steal_32 rfl (lv_at hl 0 rfl) ?_
      refine zr_get (v := .ref (ad 3)) X hW fs_X10_13_9 dX10_steal_33 (zm_s0 hM) rfl rfl rfl ?_
      refine lv_iload_n X.1 X.2.1 dX10_steal_36 rfl (lv_at hl 1 rfl) ?_
      refine zr_iald (v := u 3 (zn a)) X hW dX10_steal_37 (zm_s3 hM) rfl rfl (zi_vp (by omega)) ((show zm_mix u_3 g0 3 (a : Int32).toNatClampNeg = u_3 3 (zn a) from rfl).trans (show u_3 3 (zn a) = u 3 (zn a) from (by rw [hu_3]; rfl))) ?_
      have e9 : sp_steal a u = (u 3 (zn a), u_3) := (by subst hu_3; unfold sp_steal; (repeat (first | refine (if_pos (by omega)).trans ?_ | refine (if_neg (by omega)).trans ?_)); first | rfl | (rw [zm_ws]))
      exact zr_iret X hW dX10_steal_38 (Nat.le_refl _) (Nat.le_refl _) ⟨rfl, rfl, by rw [e9], by rw [e9]⟩
    · refine lv_iconst (v := (-1)) X.1 X.2.1 dX10_steal_18 (by decide) ?_
      have e9 : sp_steal a u = ((-1), u) := (by unfold sp_steal; (repeat (first | refine (if_pos (by omega)).trans ?_ | refine (if_neg (by omega)).trans ?_)); first | rfl | (rw [zm_ws]))
      exact zr_iret X hW dX10_steal_19 (Nat.le_refl _) (Nat.le_refl _) ⟨rfl, rfl, by rw [e9], by rw [e9]⟩
  · subst h9
    have h_1 : ¬ (zi_in a 0 5) := h_1
    refine zr_if_eq (a := 0) (tgt := 18) X dX10_steal_6 (by decide) (by decide) (fun _ => ?_) (fun c9 => absurd c9 (by decide))
    refine lv_iconst (v := (-1)) X.1 X.2.1 dX10_steal_18 (by decide) ?_
    have e9 : sp_steal a u = ((-1), u) := (by unfold sp_steal; (repeat (first | refine (if_pos (by omega)).trans ?_ | refine (if_neg (by omega)).trans ?_)); first | rfl | (rw [zm_ws]))
    exact zr_iret X hW dX10_steal_19 (Nat.le_refl _) (Nat.le_refl _) ⟨rfl, rfl, by rw [e9], by rw [e9]⟩

set_option maxHeartbeats 4000000 in
set_option maxRecDepth 100000 in
theorem c_X10_learn (l : Launch) (Y : zw_Y) (N0 : Nat) (ad : Nat → Nat) (sh : Nat → Option zw_Sh) (u g0 : zm_T) (hM : zm_S sh) (q : Int32) (hI : zm_I u) : zw_Met l Y N0 yX10_learn cX10_learn 2 (some .int) 1 22 0 0 ad sh (zm_mix u g0) [.ref (ad 0), .int q] (zp_S ad sh g0 (sp_learn q u)) := by
  refine zw_meth (by decide) (Nat.le_of_ble_eq_true rfl) ?_
  intro p e s m below meth c ls X hnm hl hW
  have hl : lv_has ls 2 [(0, .ref (ad 0)), (1, .int q)] := hl
  have hse := zI_se hI
  have hke := zI_ke hI
  have hs1 := zi_sub (u 0 8) 1 (by rw [show (1 : Int32).toInt = 1 from rfl]; omega)
  rw [show (1 : Int32).toInt = 1 from rfl] at hs1
  refine lv_iload_n X.1 X.2.1 dX10_learn_0 rfl (lv_at hl 1 rfl) ?_
  refine lv_iconst (v := 0) X.1 X.2.1 dX10_learn_1 (by decide) ?_
  refine lv_aload_n X.1 X.2.1 dX10_learn_2 rfl (lv_at hl 0 rfl) ?_
  refine zr_get (v := .int (u 0 8)) X hW fs_X10_102_9 dX10_learn_3 (zm_s0 hM) rfl rfl rfl ?_
  refine lv_iconst (v := 1) X.1 X.2.1 dX10_learn_6 (by decide) ?_
  refine lv_isub X.1 X.2.1 dX10_learn_7 ?_
  refine zr_callS (As := [.int q, .int 0, .int ((u 0 8) - 1)]) (rest := []) X hW hl.1 md_X10_in ms_X10_87 dX10_learn_8 rfl rfl (Nat.le_of_ble_eq_true rfl) ⟨Nat.le_of_ble_eq_true rfl, Nat.le_of_ble_eq_true rfl⟩ ⟨Nat.le_of_ble_eq_true rfl, Nat.le_of_ble_eq_true rfl⟩ (c_X10_in l Y N0 ad sh (zm_mix u g0) q 0 ((u 0 8) - 1)) (fun v9 ad9 sh9 g9 H locs hp hW => ?_)
  rcases hp with ⟨rfl, rfl, rfl, ⟨h_1, h9⟩ | ⟨h_1, h9⟩⟩
  · subst h9
    have h_1 : zi_in q 0 ((u 0 8) - 1).toInt := h_1
    refine zr_if_ne (a := 1) (tgt := 16) X dX10_learn_11 (by decide) (by decide) (fun _ => ?_) (fun c9 => absurd c9 (by decide))
    have hsl := zI_sl hI (zn q) (by rw [zi_n]; omega)
    refine lv_aload_n X.1 X.2.1 dX10_learn_16 rfl (lv_at hl 0 rfl) ?_
    refine zr_get (v := .ref (ad 4)) X hW fs_X10_16_9 dX10_learn_17 (zm_s0 hM) rfl rfl rfl ?_
    refine lv_aload_n X.1 X.2.1 dX10_learn_20 rfl (lv_at hl 0 rfl) ?_
    refine zr_get (v := .ref (ad 10)) X hW fs_X10_32_9 dX10_learn_21 (zm_s0 hM) rfl rfl rfl ?_
    refine lv_iload_n X.1 X.2.1 dX10_learn_24 rfl (lv_at hl 1 rfl) ?_
    refine zr_iald (v := u 10 (zn q)) X hW dX10_learn_25 (zm_s10 hM) rfl rfl (zi_vp (by omega)) rfl ?_
    refine zr_zald (v := u 4 (zn (u 10 (zn q)))) X hW dX10_learn_26 (zm_s4 hM) rfl rfl (zi_vp (by omega)) rfl ?_
    refine zr_if_ne (a := (u 4 (zn (u 10 (zn q)))).toInt) (tgt := 33) X dX10_learn_27 (by decide) rfl (fun c_2 => ?_) (fun c_2 => ?_)
    · refine lv_aload_n X.1 X.2.1 dX10_learn_33 rfl (lv_at hl 0 rfl) ?_
      refine zr_get (v := .ref (ad 9)) X hW fs_X10_29_9 dX10_learn_34 (zm_s0 hM) rfl rfl rfl ?_
      refine lv_iload_n X.1 X.2.1 dX10_learn_37 rfl (lv_at hl 1 rfl) ?_
      refine zr_iald (v := u 9 (zn q)) X hW dX10_learn_38 (zm_s9 hM) rfl rfl (zi_vp (by omega)) rfl ?_
      refine lv_iconst (v := 2) X.1 X.2.1 dX10_learn_39 (by decide) ?_
      refine zr_icmp_eq (a := (u 9 (zn q)).toInt) (b := 2) (tgt := 55) X dX10_learn_40 (by decide) rfl (by decide) (fun c_3 => ?_) (fun c_3 => ?_)
      · refine lv_aload_n X.1 X.2.1 dX10_learn_55 rfl (lv_at hl 0 rfl) ?_
        refine zr_get (v := .ref (ad 4)) X hW fs_X10_16_9 dX10_learn_56 (zm_s0 hM) rfl rfl rfl ?_
        refine lv_aload_n X.1 X.2.1 dX10_learn_59 rfl (lv_at hl 0 rfl) ?_
        refine zr_get (v := .ref (ad 12)) X hW fs_X10_38_9 dX10_learn_60 (zm_s0 hM) rfl rfl rfl ?_
        refine lv_iload_n X.1 X.2.1 dX10_learn_63 rfl (lv_at hl 1 rfl) ?_
        refine zr_iald (v := u 12 (zn q)) X hW dX10_learn_64 (zm_s12 hM) rfl rfl (zi_vp (by omega)) rfl ?_
        refine lv_iconst (v := 1) X.1 X.2.1 dX10_learn_65 (by decide) ?_
        refine zr_zast X hW dX10_learn_66 (zm_s4 hM) rfl rfl (zi_vp (by omega)) rfl (fun H locs hW => ?_)
        have hW : zw_St Y N0 ad sh (zm_mix (zm_w u 4 (zn (u 12 (zn q))) 1) g0) s H locs := zm_st (by decide) hW
        obtain ⟨u_4, hu_4⟩ : ∃ z : zm_T, z = zm_w u 4 (zn (u 12 (zn q))) 1 := ⟨_, rfl⟩
        rw [← hu_4] at hW
        refine lv_aload_n X.1 X.2.1 dX10_learn_67 rfl (lv_at hl 0 rfl) ?_
        refine zr_get (v := .ref (ad 12)) X hW fs_X10_38_9 dX10_learn_68 (zm_s0 hM) rfl rfl rfl ?_
        refine lv_iload_n X.1 X.2.1 dX10_learn_71 rfl (lv_at hl 1 rfl) ?_
        refine zr_iald (v := u 12 (zn q)) X hW dX10_learn_72 (zm_s12 hM) rfl rfl (zi_vp (by omega)) ((show zm_mix u_4 g0 12 (q : Int32).toNatClampNeg = u_4 12 (zn q) from rfl).trans (show u_4 12 (zn q) = u 12 (zn q) from (by rw [hu_4]; rfl))) ?_
        have e9 : sp_learn q u = (u 12 (zn q), u_4) := (by subst hu_4; unfold sp_learn; (repeat (first | refine (if_pos (by omega)).trans ?_ | refine (if_neg (by omega)).trans ?_)); first | rfl | (rw [zm_ws]))
        exact zr_iret X hW dX10_learn_73 (Nat.le_refl _) (Nat.le_refl _) ⟨rfl, rfl, by rw [e9], by rw [e9]⟩
      · refine lv_aload_n X.1 X.2.1 dX10_learn_43 rfl (lv_at hl 0 rfl) ?_
        refine zr_get (v := .ref (ad 9)) X hW fs_X10_29_9 dX10_learn_44 (zm_s0 hM) rfl rfl rfl ?_
        refine lv_iload_n X.1 X.2.1 dX10_learn_47 rfl (lv_at hl 1 rfl) ?_
        refine zr_iald (v := u 9 (zn q)) X hW dX10_learn_48 (zm_s9 hM) rfl rfl (zi_vp (by omega)) rfl ?_
        refine lv_iconst (v := 3) X.1 X.2.1 dX10_learn_49 (by decide) ?_
        refine zr_icmp_eq (a := (u 9 (zn q)).toInt) (b := 3) (tgt := 55) X dX10_learn_50 (by decide) rfl (by decide) (fun c_5 => ?_) (fun c_5 => ?_)
        · refine lv_aload_n X.1 X.2.1 dX10_learn_55 rfl (lv_at hl 0 rfl) ?_
          refine zr_get (v := .ref (ad 4)) X hW fs_X10_16_9 dX10_learn_56 (zm_s0 hM) rfl rfl rfl ?_
          refine lv_aload_n X.1 X.2.1 dX10_learn_59 rfl (lv_at hl 0 rfl) ?_
          refine zr_get (v := .ref (ad 12)) X hW fs_X10_38_9 dX10_learn_60 (zm_s0 hM) rfl rfl rfl ?_
          refine lv_iload_n X.1 X.2.1 dX10_learn_63 rfl (lv_at hl 1 rfl) ?_
          refine zr_iald (v := u 12 (zn q)) X hW dX10_learn_64 (zm_s12 hM) rfl rfl (zi_vp (by omega)) rfl ?_
          refine lv_iconst (v := 1) X.1 X.2.1 dX10_learn_65 (by decide) ?_
          refine zr_zast X hW dX10_learn_66 (zm_s4 hM) rfl rfl (zi_vp (by omega)) rfl (fun H locs hW => ?_)
          have hW : zw_St Y N0 ad sh (zm_mix (zm_w u 4 (zn (u 12 (zn q))) 1) g0) s H locs := zm_st (by decide) hW
          obtain ⟨u_6, hu_6⟩ : ∃ z : zm_T, z = zm_w u 4 (zn (u 12 (zn q))) 1 := ⟨_, rfl⟩
          rw [← hu_6] at hW
          refine lv_aload_n X.1 X.2.1 dX10_learn_67 rfl (lv_at hl 0 rfl) ?_
          refine zr_get (v := .ref (ad 12)) X hW fs_X10_38_9 dX10_learn_68 (zm_s0 hM) rfl rfl rfl ?_
          refine lv_iload_n X.1 X.2.1 dX10_learn_71 rfl (lv_at hl 1 rfl) ?_
          refine zr_iald (v := u 12 (zn q)) X hW dX10_learn_72 (zm_s12 hM) rfl rfl (zi_vp (by omega)) ((show zm_mix u_6 g0 12 (q : Int32).toNatClampNeg = u_6 12 (zn q) from rfl).trans (show u_6 12 (zn q) = u 12 (zn q) from (by rw [hu_6]; rfl))) ?_
          have e9 : sp_learn q u = (u 12 (zn q), u_6) := (by subst hu_6; unfold sp_learn; (repeat (first | refine (if_pos (by omega)).trans ?_ | refine (if_neg (by omega)).trans ?_)); first | rfl | (rw [zm_ws]))
          exact zr_iret X hW dX10_learn_73 (Nat.le_refl _) (Nat.le_refl _) ⟨rfl, rfl, by rw [e9], by rw [e9]⟩
        · refine lv_iconst (v := 0) X.1 X.2.1 dX10_learn_53 (by decide) ?_
          have e9 : sp_learn q u = (0, u) := (by unfold sp_learn; (repeat (first | refine (if_pos (by omega)).trans ?_ | refine (if_neg (by omega)).trans ?_)); first | rfl | (rw [zm_ws]))
          exact zr_iret X hW dX10_learn_54 (Nat.le_refl _) (Nat.le_refl _) ⟨rfl, rfl, by rw [e9], by rw [e9]⟩
    · refine lv_bipush (v := (-2)) X.1 X.2.1 dX10_learn_30 (by decide) ?_
      have e9 : sp_learn q u = ((-2), u) := (by unfold sp_learn; (repeat (first | refine (if_pos (by omega)).trans ?_ | refine (if_neg (by omega)).trans ?_)); first | rfl | (rw [zm_ws]))
      exact zr_iret X hW dX10_learn_32 (Nat.le_refl _) (Nat.le_refl _) ⟨rfl, rfl, by rw [e9], by rw [e9]⟩
  · subst h9
    have h_1 : ¬ (zi_in q 0 ((u 0 8) - 1).toInt) := h_1
    refine zr_if_ne (a := 0) (tgt := 16) X dX10_learn_11 (by decide) (by decide) (fun c9 => absurd c9 (by decide)) (fun _ => ?_)
    refine lv_iconst (v := (-1)) X.1 X.2.1 dX10_learn_14 (by decide) ?_
    have e9 : sp_learn q u = ((-1), u) := (by unfold sp_learn; (repeat (first | refine (if_pos (by omega)).trans ?_ | refine (if_neg (by omega)).trans ?_)); first | rfl | (rw [zm_ws]))
    exact zr_iret X hW dX10_learn_15 (Nat.le_refl _) (Nat.le_refl _) ⟨rfl, rfl, by rw [e9], by rw [e9]⟩

set_option maxHeartbeats 4000000 in
set_option maxRecDepth 100000 in
theorem c_X10_seal (l : Launch) (Y : zw_Y) (N0 : Nat) (ad : Nat → Nat) (sh : Nat → Option zw_Sh) (u g0 : zm_T) (hM : zm_S sh) (q w : Int32) (hI : zm_I u) : zw_Met l Y N0 yX10_seal cX10_seal 4 (some .int) 1 22 0 0 ad sh (zm_mix u g0) [.ref (ad 0), .int q, .int w] (zp_S ad sh g0 (sp_seal q w u)) := by
  refine zw_meth (by decide) (Nat.le_of_ble_eq_true rfl) ?_
  intro p e s m below meth c ls X hnm hl hW
  have hl : lv_has ls 4 [(0, .ref (ad 0)), (1, .int q), (2, .int w)] := hl
  have hse := zI_se hI
  have hke := zI_ke hI
  have hs1 := zi_sub (u 0 8) 1 (by rw [show (1 : Int32).toInt = 1 from rfl]; omega)
  rw [show (1 : Int32).toInt = 1 from rfl] at hs1
  refine lv_iload_n X.1 X.2.1 dX10_seal_0 rfl (lv_at hl 1 rfl) ?_
  refine lv_iconst (v := 0) X.1 X.2.1 dX10_seal_1 (by decide) ?_
  refine lv_aload_n X.1 X.2.1 dX10_seal_2 rfl (lv_at hl 0 rfl) ?_
  refine zr_get (v := .int (u 0 8)) X hW fs_X10_102_9 dX10_seal_3 (zm_s0 hM) rfl rfl rfl ?_
  refine lv_iconst (v := 1) X.1 X.2.1 dX10_seal_6 (by decide) ?_
  refine lv_isub X.1 X.2.1 dX10_seal_7 ?_
  refine zr_callS (As := [.int q, .int 0, .int ((u 0 8) - 1)]) (rest := []) X hW hl.1 md_X10_in ms_X10_87 dX10_seal_8 rfl rfl (Nat.le_of_ble_eq_true rfl) ⟨Nat.le_of_ble_eq_true rfl, Nat.le_of_ble_eq_true rfl⟩ ⟨Nat.le_of_ble_eq_true rfl, Nat.le_of_ble_eq_true rfl⟩ (c_X10_in l Y N0 ad sh (zm_mix u g0) q 0 ((u 0 8) - 1)) (fun v9 ad9 sh9 g9 H locs hp hW => ?_)
  rcases hp with ⟨rfl, rfl, rfl, ⟨h_1, h9⟩ | ⟨h_1, h9⟩⟩
  · subst h9
    have h_1 : zi_in q 0 ((u 0 8) - 1).toInt := h_1
    refine zr_if_eq (a := 1) (tgt := 23) X dX10_seal_11 (by decide) (by decide) (fun c9 => absurd c9 (by decide)) (fun _ => ?_)
    refine lv_iload_n X.1 X.2.1 dX10_seal_14 rfl (lv_at hl 2 rfl) ?_
    refine lv_iconst (v := 0) X.1 X.2.1 dX10_seal_15 (by decide) ?_
    refine lv_iconst (v := 2) X.1 X.2.1 dX10_seal_16 (by decide) ?_
    refine zr_callS (As := [.int w, .int 0, .int 2]) (rest := []) X hW hl.1 md_X10_in ms_X10_87 dX10_seal_17 rfl rfl (Nat.le_of_ble_eq_true rfl) ⟨Nat.le_of_ble_eq_true rfl, Nat.le_of_ble_eq_true rfl⟩ ⟨Nat.le_of_ble_eq_true rfl, Nat.le_of_ble_eq_true rfl⟩ (c_X10_in l Y N0 ad sh (zm_mix u g0) w 0 2) (fun v9 ad9 sh9 g9 H locs hp hW => ?_)
    rcases hp with ⟨rfl, rfl, rfl, ⟨h_2, h9⟩ | ⟨h_2, h9⟩⟩
    · subst h9
      have h_2 : zi_in w 0 2 := h_2
      refine zr_if_ne (a := 1) (tgt := 25) X dX10_seal_20 (by decide) (by decide) (fun _ => ?_) (fun c9 => absurd c9 (by decide))
      refine lv_aload_n X.1 X.2.1 dX10_seal_25 rfl (lv_at hl 0 rfl) ?_
      refine zr_get (v := .ref (ad 9)) X hW fs_X10_29_9 dX10_seal_26 (zm_s0 hM) rfl rfl rfl ?_
      refine lv_iload_n X.1 X.2.1 dX10_seal_29 rfl (lv_at hl 1 rfl) ?_
      refine zr_iald (v := u 9 (zn q)) X hW dX10_seal_30 (zm_s9 hM) rfl rfl (zi_vp (by omega)) rfl ?_
      refine lv_istore_n (lv' := [(3, .int (u 9 (zn q))), (0, .ref (ad 0)), (1, .int q), (2, .int w)]) X.1 X.2.1 dX10_seal_31 rfl hl (by decide) rfl (fun ls hl => ?_)
      refine lv_iload_n X.1 X.2.1 dX10_seal_32 rfl (lv_at hl 3 rfl) ?_
      refine zr_if_ne (a := (w).toInt) (tgt := 38) X dX10_seal_33 (by decide) rfl (fun c_3 => ?_) (fun c_3 => ?_)
      · refine lv_iload_n X.1 X.2.1 dX10_seal_38 rfl (lv_at hl 3 rfl) ?_
        refine lv_iconst (v := 1) X.1 X.2.1 dX10_seal_39 (by decide) ?_
        refine zr_icmp_ne (a := (w).toInt) (b := 1) (tgt := 73) X dX10_seal_40 (by decide) rfl (by decide) (fun c_4 => ?_) (fun c_4 => ?_)
        · refine lv_iload_n X.1 X.2.1 dX10_seal_73 rfl (lv_at hl 0 rfl) ?_
          refine lv_iconst (v := 1) X.1 X.2.1 dX10_seal_74 (by decide) ?_
          refine zr_icmp_eq (a := (u 9 (zn q)).toInt) (b := 1) (tgt := 83) X dX10_seal_75 (by decide) rfl (by decide) (fun c_5 => ?_) (fun c_5 => ?_)
          · refine lv_aload_n X.1 X.2.1 dX10_seal_83 rfl (lv_at hl 1 rfl) ?_
            refine zr_get (v := .ref (ad 13)) X hW fs_X10_41_9 dX10_seal_84 (zm_s0 hM) rfl rfl rfl ?_
            refine lv_iload_n X.1 X.2.1 dX10_seal_87 rfl (lv_at hl 2 rfl) ?_
            refine zr_iald (v := u 13 (zn q)) X hW dX10_seal_88 (zm_s13 hM) rfl rfl (zi_vp (by omega)) rfl ?_
            refine lv_goto (tgt := 93) X.1 X.2.1 dX10_seal_89 (by decide) ?_
            have e9 : sp_seal q w u = (u 13 (zn q), u) := (by unfold sp_seal; (repeat (first | refine (if_pos (by omega)).trans ?_ | refine (if_neg (by omega)).trans ?_)); first | rfl | (refine Prod.ext ?_ rfl; (repeat (first | refine (if_pos (by omega)).trans ?_ | refine (if_neg (by omega)).trans ?_)); rfl))
            exact zr_iret X hW dX10_seal_93 (Nat.le_refl _) (Nat.le_refl _) ⟨rfl, rfl, by rw [e9], by rw [e9]⟩
          · refine lv_iload_n X.1 X.2.1 dX10_seal_78 rfl (lv_at hl 0 rfl) ?_
            refine lv_iconst (v := 4) X.1 X.2.1 dX10_seal_79 (by decide) ?_
            refine zr_icmp_ne (a := (u 9 (zn q)).toInt) (b := 4) (tgt := 92) X dX10_seal_80 (by decide) rfl (by decide) (fun c_6 => ?_) (fun c_6 => ?_)
            · refine lv_iconst (v := 0) X.1 X.2.1 dX10_seal_92 (by decide) ?_
              have e9 : sp_seal q w u = (0, u) := (by unfold sp_seal; (repeat (first | refine (if_pos (by omega)).trans ?_ | refine (if_neg (by omega)).trans ?_)); first | rfl | (refine Prod.ext ?_ rfl; (repeat (first | refine (if_pos (by omega)).trans ?_ | refine (if_neg (by omega)).trans ?_)); rfl))
              exact zr_iret X hW dX10_seal_93 (Nat.le_refl _) (Nat.le_refl _) ⟨rfl, rfl, by rw [e9], by rw [e9]⟩
            · refine lv_aload_n X.1 X.2.1 dX10_seal_83 rfl (lv_at hl 1 rfl) ?_
              refine zr_get (v := .ref (ad 13)) X hW fs_X10_41_9 dX10_seal_84 (zm_s0 hM) rfl rfl rfl ?_
              refine lv_iload_n X.1 X.2.1 dX10_seal_87 rfl (lv_at hl 2 rfl) ?_
              refine zr_iald (v := u 13 (zn q)) X hW dX10_seal_88 (zm_s13 hM) rfl rfl (zi_vp (by omega)) rfl ?_
              refine lv_goto (tgt := 93) X.1 X.2.1 dX10_seal_89 (by decide) ?_
              have e9 : sp_seal q w u = (u 13 (zn q), u) := (by unfold sp_seal; (repeat (first | refine (if_pos (by omega)).trans ?_ | refine (if_neg (by omega)).trans ?_)); first | rfl | (refine Prod.ext ?_ rfl; (repeat (first | refine (if_pos (by omega)).trans ?_ | refine (if_neg (by omega)).trans ?_)); rfl))
              exact zr_iret X hW dX10_seal_93 (Nat.le_refl _) (Nat.le_refl _) ⟨rfl, rfl, by rw [e9], by rw [e9]⟩
        · refine lv_iload_n X.1 X.2.1 dX10_seal_43 rfl (lv_at hl 0 rfl) ?_
          refine lv_iconst (v := 2) X.1 X.2.1 dX10_seal_44 (by decide) ?_
          refine zr_icmp_ne (a := (u 9 (zn q)).toInt) (b := 2) (tgt := 57) X dX10_seal_45 (by decide) rfl (by decide) (fun c_7 => ?_) (fun c_7 => ?_)
          · refine lv_iload_n X.1 X.2.1 dX10_seal_57 rfl (lv_at hl 0 rfl) ?_
            refine lv_iconst (v := 3) X.1 X.2.1 dX10_seal_58 (by decide) ?_
            refine zr_icmp_ne (a := (u 9 (zn q)).toInt) (b := 3) (tgt := 71) X dX10_seal_59 (by decide) rfl (by decide) (fun c_8 => ?_) (fun c_8 => ?_)
            · refine lv_iconst (v := 0) X.1 X.2.1 dX10_seal_71 (by decide) ?_
              have e9 : sp_seal q w u = (0, u) := (by unfold sp_seal; (repeat (first | refine (if_pos (by omega)).trans ?_ | refine (if_neg (by omega)).trans ?_)); first | rfl | (refine Prod.ext ?_ rfl; (repeat (first | refine (if_pos (by omega)).trans ?_ | refine (if_neg (by omega)).trans ?_)); rfl))
              exact zr_iret X hW dX10_seal_72 (Nat.le_refl _) (Nat.le_refl _) ⟨rfl, rfl, by rw [e9], by rw [e9]⟩
            · refine lv_aload_n X.1 X.2.1 dX10_seal_62 rfl (lv_at hl 1 rfl) ?_
              refine zr_get (v := .ref (ad 15)) X hW fs_X10_47_9 dX10_seal_63 (zm_s0 hM) rfl rfl rfl ?_
              refine lv_iload_n X.1 X.2.1 dX10_seal_66 rfl (lv_at hl 2 rfl) ?_
              refine zr_iald (v := u 15 (zn q)) X hW dX10_seal_67 (zm_s15 hM) rfl rfl (zi_vp (by omega)) rfl ?_
              refine lv_goto (tgt := 72) X.1 X.2.1 dX10_seal_68 (by decide) ?_
              have e9 : sp_seal q w u = (u 15 (zn q), u) := (by unfold sp_seal; (repeat (first | refine (if_pos (by omega)).trans ?_ | refine (if_neg (by omega)).trans ?_)); first | rfl | (refine Prod.ext ?_ rfl; (repeat (first | refine (if_pos (by omega)).trans ?_ | refine (if_neg (by omega)).trans ?_)); rfl))
              exact zr_iret X hW dX10_seal_72 (Nat.le_refl _) (Nat.le_refl _) ⟨rfl, rfl, by rw [e9], by rw [e9]⟩
          · refine lv_aload_n X.1 X.2.1 dX10_seal_48 rfl (lv_at hl 1 rfl) ?_
            refine zr_get (v := .ref (ad 14)) X hW fs_X10_44_9 dX10_seal_49 (zm_s0 hM) rfl rfl rfl ?_
            refine lv_iload_n X.1 X.2.1 dX10_seal_52 rfl (lv_at hl 2 rfl) ?_
            refine zr_iald (v := u 14 (zn q)) X hW dX10_seal_53 (zm_s14 hM) rfl rfl (zi_vp (by omega)) rfl ?_
            refine lv_goto (tgt := 72) X.1 X.2.1 dX10_seal_54 (by decide) ?_
            have e9 : sp_seal q w u = (u 14 (zn q), u) := (by unfold sp_seal; (repeat (first | refine (if_pos (by omega)).trans ?_ | refine (if_neg (by omega)).trans ?_)); first | rfl | (refine Prod.ext ?_ rfl; (repeat (first | refine (if_pos (by omega)).trans ?_ | refine (if_neg (by omega)).trans ?_)); rfl))
            exact zr_iret X hW dX10_seal_72 (Nat.le_refl _) (Nat.le_refl _) ⟨rfl, rfl, by rw [e9], by rw [e9]⟩
      · refine lv_iload_n X.1 X.2.1 dX10_seal_36 rfl (lv_at hl 0 rfl) ?_
        have e9 : sp_seal q w u = (u 9 (zn q), u) := (by unfold sp_seal; (repeat (first | refine (if_pos (by omega)).trans ?_ | refine (if_neg (by omega)).trans ?_)); first | rfl | (refine Prod.ext ?_ rfl; (repeat (first | refine (if_pos (by omega)).trans ?_ | refine (if_neg (by omega)).trans ?_)); rfl))
        exact zr_iret X hW dX10_seal_37 (Nat.le_refl _) (Nat.le_refl _) ⟨rfl, rfl, by rw [e9], by rw [e9]⟩
    · subst h9
      have h_2 : ¬ (zi_in w 0 2) := h_2
      refine zr_if_ne (a := 0) (tgt := 25) X dX10_seal_20 (by decide) (by decide) (fun c9 => absurd c9 (by decide)) (fun _ => ?_)
      refine lv_iconst (v := (-1)) X.1 X.2.1 dX10_seal_23 (by decide) ?_
      have e9 : sp_seal q w u = ((-1), u) := (by unfold sp_seal; (repeat (first | refine (if_pos (by omega)).trans ?_ | refine (if_neg (by omega)).trans ?_)); first | rfl | (refine Prod.ext ?_ rfl; (repeat (first | refine (if_pos (by omega)).trans ?_ | refine (if_neg (by omega)).trans ?_)); rfl))
      exact zr_iret X hW dX10_seal_24 (Nat.le_refl _) (Nat.le_refl _) ⟨rfl, rfl, by rw [e9], by rw [e9]⟩
  · subst h9
    have h_1 : ¬ (zi_in q 0 ((u 0 8) - 1).toInt) := h_1
    refine zr_if_eq (a := 0) (tgt := 23) X dX10_seal_11 (by decide) (by decide) (fun _ => ?_) (fun c9 => absurd c9 (by decide))
    refine lv_iconst (v := (-1)) X.1 X.2.1 dX10_seal_23 (by decide) ?_
    have e9 : sp_seal q w u = ((-1), u) := (by unfold sp_seal; (repeat (first | refine (if_pos (by omega)).trans ?_ | refine (if_neg (by omega)).trans ?_)); first | rfl | (refine Prod.ext ?_ rfl; (repeat (first | refine (if_pos (by omega)).trans ?_ | refine (if_neg (by omega)).trans ?_)); rfl))
    exact zr_iret X hW dX10_seal_24 (Nat.le_refl _) (Nat.le_refl _) ⟨rfl, rfl, by rw [e9], by rw [e9]⟩

set_option maxHeartbeats 4000000 in
set_option maxRecDepth 100000 in
theorem c_X10_look (l : Launch) (Y : zw_Y) (N0 : Nat) (ad : Nat → Nat) (sh : Nat → Option zw_Sh) (u g0 : zm_T) (hM : zm_S sh) (w i : Int32) (hI : zm_I u) : zw_Met l Y N0 yX10_look cX10_look 3 (some .int) 2 43 0 0 ad sh (zm_mix u g0) [.ref (ad 0), .int w, .int i] (zp_S ad sh g0 (sp_look w i u)) := by
  refine zw_meth (by decide) (Nat.le_of_ble_eq_true rfl) ?_
  intro p e s m below meth c ls X hnm hl hW
  have hl : lv_has ls 3 [(0, .ref (ad 0)), (1, .int w), (2, .int i)] := hl
  refine lv_iload_n X.1 X.2.1 dX10_look_0 rfl (lv_at hl 1 rfl) ?_
  by_cases c_1 : (w).toInt < 0 ∨ 7 < (w).toInt
  · refine lv_tableOut (tgt := 166) X.1 X.2.1 dX10_look_1 c_1 (by decide) ?_
    refine lv_iconst (v := (-1)) X.1 X.2.1 dX10_look_166 (by decide) ?_
    have e9 : sp_look w i u = ((-1), u) := (by unfold sp_look; (repeat (first | refine (if_pos (by omega)).trans ?_ | refine (if_neg (by omega)).trans ?_)); first | rfl | (refine Prod.ext ?_ rfl; (repeat (first | refine (if_pos (by omega)).trans ?_ | refine (if_neg (by omega)).trans ?_)); rfl))
    exact zr_iret X hW dX10_look_167 (Nat.le_refl _) (Nat.le_refl _) ⟨rfl, rfl, by rw [e9], by rw [e9]⟩
  · obtain c_1 | c_1 | c_1 | c_1 | c_1 | c_1 | c_1 | c_1 : (w).toInt = 0 ∨ (w).toInt = 1 ∨ (w).toInt = 2 ∨ (w).toInt = 3 ∨ (w).toInt = 4 ∨ (w).toInt = 5 ∨ (w).toInt = 6 ∨ (w).toInt = 7 := by omega
    · refine lv_tableIn (off := 47) (tgt := 48) X.1 X.2.1 dX10_look_1 (by omega) (by omega) (by rw [c_1]; rfl) (by decide) ?_
      refine lv_iload_n X.1 X.2.1 dX10_look_48 rfl (lv_at hl 2 rfl) ?_
      refine lv_iconst (v := 0) X.1 X.2.1 dX10_look_49 (by decide) ?_
      refine lv_iconst (v := 2) X.1 X.2.1 dX10_look_50 (by decide) ?_
      refine zr_callS (As := [.int i, .int 0, .int 2]) (rest := []) X hW hl.1 md_X10_in ms_X10_87 dX10_look_51 rfl rfl (Nat.le_of_ble_eq_true rfl) ⟨Nat.le_of_ble_eq_true rfl, Nat.le_of_ble_eq_true rfl⟩ ⟨Nat.le_of_ble_eq_true rfl, Nat.le_of_ble_eq_true rfl⟩ (c_X10_in l Y N0 ad sh (zm_mix u g0) i 0 2) (fun v9 ad9 sh9 g9 H locs hp hW => ?_)
      rcases hp with ⟨rfl, rfl, rfl, ⟨h_2, h9⟩ | ⟨h_2, h9⟩⟩
      · subst h9
        have h_2 : zi_in i 0 2 := h_2
        refine zr_if_eq (a := 1) (tgt := 66) X dX10_look_54 (by decide) (by decide) (fun c9 => absurd c9 (by decide)) (fun _ => ?_)
        refine lv_aload_n X.1 X.2.1 dX10_look_57 rfl (lv_at hl 0 rfl) ?_
        refine zr_get (v := .ref (ad 26)) X hW fs_X10_77_9 dX10_look_58 (zm_s0 hM) rfl rfl rfl ?_
        refine lv_iload_n X.1 X.2.1 dX10_look_61 rfl (lv_at hl 2 rfl) ?_
        refine zr_iald (v := u 26 (zn i)) X hW dX10_look_62 (zm_s26 hM) rfl rfl (zi_vp (by omega)) rfl ?_
        refine lv_goto (tgt := 67) X.1 X.2.1 dX10_look_63 (by decide) ?_
        have e9 : sp_look w i u = (u 26 (zn i), u) := (by unfold sp_look; (repeat (first | refine (if_pos (by omega)).trans ?_ | refine (if_neg (by omega)).trans ?_)); first | rfl | (refine Prod.ext ?_ rfl; (repeat (first | refine (if_pos (by omega)).trans ?_ | refine (if_neg (by omega)).trans ?_)); rfl))
        exact zr_iret X hW dX10_look_67 (Nat.le_refl _) (Nat.le_refl _) ⟨rfl, rfl, by rw [e9], by rw [e9]⟩
      · subst h9
        have h_2 : ¬ (zi_in i 0 2) := h_2
        refine zr_if_eq (a := 0) (tgt := 66) X dX10_look_54 (by decide) (by decide) (fun _ => ?_) (fun c9 => absurd c9 (by decide))
        refine lv_iconst (v := (-1)) X.1 X.2.1 dX10_look_66 (by decide) ?_
        have e9 : sp_look w i u = ((-1), u) := (by unfold sp_look; (repeat (first | refine (if_pos (by omega)).trans ?_ | refine (if_neg (by omega)).trans ?_)); first | rfl | (refine Prod.ext ?_ rfl; (repeat (first | refine (if_pos (by omega)).trans ?_ | refine (if_neg (by omega)).trans ?_)); rfl))
        exact zr_iret X hW dX10_look_67 (Nat.le_refl _) (Nat.le_refl _) ⟨rfl, rfl, by rw [e9], by rw [e9]⟩
    · refine lv_tableIn (off := 67) (tgt := 68) X.1 X.2.1 dX10_look_1 (by omega) (by omega) (by rw [c_1]; rfl) (by decide) ?_
      refine lv_iload_n X.1 X.2.1 dX10_look_68 rfl (lv_at hl 2 rfl) ?_
      refine lv_iconst (v := 0) X.1 X.2.1 dX10_look_69 (by decide) ?_
      refine lv_iconst (v := 5) X.1 X.2.1 dX10_look_70 (by decide) ?_
      refine zr_callS (As := [.int i, .int 0, .int 5]) (rest := []) X hW hl.1 md_X10_in ms_X10_87 dX10_look_71 rfl rfl (Nat.le_of_ble_eq_true rfl) ⟨Nat.le_of_ble_eq_true rfl, Nat.le_of_ble_eq_true rfl⟩ ⟨Nat.le_of_ble_eq_true rfl, Nat.le_of_ble_eq_true rfl⟩ (c_X10_in l Y N0 ad sh (zm_mix u g0) i 0 5) (fun v9 ad9 sh9 g9 H locs hp hW => ?_)
      rcases hp with ⟨rfl, rfl, rfl, ⟨h_3, h9⟩ | ⟨h_3, h9⟩⟩
      · subst h9
        have h_3 : zi_in i 0 5 := h_3
        refine zr_if_eq (a := 1) (tgt := 86) X dX10_look_74 (by decide) (by decide) (fun c9 => absurd c9 (by decide)) (fun _ => ?_)
        refine lv_aload_n X.1 X.2.1 dX10_look_77 rfl (lv_at hl 0 rfl) ?_
        refine zr_get (v := .ref (ad 1)) X hW fs_X10_7_9 dX10_look_78 (zm_s0 hM) rfl rfl rfl ?_
        refine lv_iload_n X.1 X.2.1 dX10_look_81 rfl (lv_at hl 2 rfl) ?_
        refine zr_iald (v := u 1 (zn i)) X hW dX10_look_82 (zm_s1 hM) rfl rfl (zi_vp (by omega)) rfl ?_
        refine lv_goto (tgt := 87) X.1 X.2.1 dX10_look_83 (by decide) ?_
        have e9 : sp_look w i u = (u 1 (zn i), u) := (by unfold sp_look; (repeat (first | refine (if_pos (by omega)).trans ?_ | refine (if_neg (by omega)).trans ?_)); first | rfl | (refine Prod.ext ?_ rfl; (repeat (first | refine (if_pos (by omega)).trans ?_ | refine (if_neg (by omega)).trans ?_)); rfl))
        exact zr_iret X hW dX10_look_87 (Nat.le_refl _) (Nat.le_refl _) ⟨rfl, rfl, by rw [e9], by rw [e9]⟩
      · subst h9
        have h_3 : ¬ (zi_in i 0 5) := h_3
        refine zr_if_eq (a := 0) (tgt := 86) X dX10_look_74 (by decide) (by decide) (fun _ => ?_) (fun c9 => absurd c9 (by decide))
        refine lv_iconst (v := (-1)) X.1 X.2.1 dX10_look_86 (by decide) ?_
        have e9 : sp_look w i u = ((-1), u) := (by unfold sp_look; (repeat (first | refine (if_pos (by omega)).trans ?_ | refine (if_neg (by omega)).trans ?_)); first | rfl | (refine Prod.ext ?_ rfl; (repeat (first | refine (if_pos (by omega)).trans ?_ | refine (if_neg (by omega)).trans ?_)); rfl))
        exact zr_iret X hW dX10_look_87 (Nat.le_refl _) (Nat.le_refl _) ⟨rfl, rfl, by rw [e9], by rw [e9]⟩
    · refine lv_tableIn (off := 87) (tgt := 88) X.1 X.2.1 dX10_look_1 (by omega) (by omega) (by rw [c_1]; rfl) (by decide) ?_
      refine lv_aload_n X.1 X.2.1 dX10_look_88 rfl (lv_at hl 0 rfl) ?_
      refine zr_get (v := .int (u 0 28)) X hW fs_X10_147_9 dX10_look_89 (zm_s0 hM) rfl rfl rfl ?_
      have e9 : sp_look w i u = (u 0 28, u) := (by unfold sp_look; (repeat (first | refine (if_pos (by omega)).trans ?_ | refine (if_neg (by omega)).trans ?_)); first | rfl | (refine Prod.ext ?_ rfl; (repeat (first | refine (if_pos (by omega)).trans ?_ | refine (if_neg (by omega)).trans ?_)); rfl))
      exact zr_iret X hW dX10_look_92 (Nat.le_refl _) (Nat.le_refl _) ⟨rfl, rfl, by rw [e9], by rw [e9]⟩
    · refine lv_tableIn (off := 92) (tgt := 93) X.1 X.2.1 dX10_look_1 (by omega) (by omega) (by rw [c_1]; rfl) (by decide) ?_
      refine lv_aload_n X.1 X.2.1 dX10_look_93 rfl (lv_at hl 0 rfl) ?_
      refine lv_iload_n X.1 X.2.1 dX10_look_94 rfl (lv_at hl 2 rfl) ?_
      refine zr_callV (As := [.int i]) (rest := []) X hW hl.1 md_X10_user ms_X10_112 dX10_look_95 (zm_s0 hM) rfl rfl rfl rfl (Nat.le_of_ble_eq_true rfl) ⟨Nat.le_of_ble_eq_true rfl, Nat.le_of_ble_eq_true rfl⟩ ⟨Nat.le_of_ble_eq_true rfl, Nat.le_of_ble_eq_true rfl⟩ (c_X10_user l Y N0 ad sh u g0 hM i) (fun v9 ad9 sh9 g9 H locs hp hW => ?_)
      rcases hp with ⟨rfl, rfl, rfl, ⟨h_4, h9⟩ | ⟨h_4, h9⟩⟩
      · subst h9
        have h_4 : zs_us i := h_4
        refine zr_if_eq (a := 1) (tgt := 110) X dX10_look_98 (by decide) (by decide) (fun c9 => absurd c9 (by decide)) (fun _ => ?_)
        refine lv_aload_n X.1 X.2.1 dX10_look_101 rfl (lv_at hl 0 rfl) ?_
        refine zr_get (v := .ref (ad 20)) X hW fs_X10_59_9 dX10_look_102 (zm_s0 hM) rfl rfl rfl ?_
        refine lv_iload_n X.1 X.2.1 dX10_look_105 rfl (lv_at hl 2 rfl) ?_
        refine zr_iald (v := u 20 (zn i)) X hW dX10_look_106 (zm_s20 hM) rfl rfl (zi_vp (by omega)) rfl ?_
        refine lv_goto (tgt := 111) X.1 X.2.1 dX10_look_107 (by decide) ?_
        have e9 : sp_look w i u = (u 20 (zn i), u) := (by unfold sp_look; (repeat (first | refine (if_pos (by omega)).trans ?_ | refine (if_neg (by omega)).trans ?_)); first | rfl | (refine Prod.ext ?_ rfl; (repeat (first | refine (if_pos (by omega)).trans ?_ | refine (if_neg (by omega)).trans ?_)); rfl))
        exact zr_iret X hW dX10_look_111 (Nat.le_refl _) (Nat.le_refl _) ⟨rfl, rfl, by rw [e9], by rw [e9]⟩
      · subst h9
        have h_4 : ¬ (zs_us i) := h_4
        refine zr_if_eq (a := 0) (tgt := 110) X dX10_look_98 (by decide) (by decide) (fun _ => ?_) (fun c9 => absurd c9 (by decide))
        refine lv_iconst (v := (-1)) X.1 X.2.1 dX10_look_110 (by decide) ?_
        have e9 : sp_look w i u = ((-1), u) := (by unfold sp_look; (repeat (first | refine (if_pos (by omega)).trans ?_ | refine (if_neg (by omega)).trans ?_)); first | rfl | (refine Prod.ext ?_ rfl; (repeat (first | refine (if_pos (by omega)).trans ?_ | refine (if_neg (by omega)).trans ?_)); rfl))
        exact zr_iret X hW dX10_look_111 (Nat.le_refl _) (Nat.le_refl _) ⟨rfl, rfl, by rw [e9], by rw [e9]⟩
    · refine lv_tableIn (off := 111) (tgt := 112) X.1 X.2.1 dX10_look_1 (by omega) (by omega) (by rw [c_1]; rfl) (by decide) ?_
      refine lv_aload_n X.1 X.2.1 dX10_look_112 rfl (lv_at hl 0 rfl) ?_
      refine lv_iload_n X.1 X.2.1 dX10_look_113 rfl (lv_at hl 2 rfl) ?_
      refine zr_callV (As := [.int i]) (rest := []) X hW hl.1 md_X10_user ms_X10_112 dX10_look_114 (zm_s0 hM) rfl rfl rfl rfl (Nat.le_of_ble_eq_true rfl) ⟨Nat.le_of_ble_eq_true rfl, Nat.le_of_ble_eq_true rfl⟩ ⟨Nat.le_of_ble_eq_true rfl, Nat.le_of_ble_eq_true rfl⟩ (c_X10_user l Y N0 ad sh u g0 hM i) (fun v9 ad9 sh9 g9 H locs hp hW => ?_)
      rcases hp with ⟨rfl, rfl, rfl, ⟨h_5, h9⟩ | ⟨h_5, h9⟩⟩
      · subst h9
        have h_5 : zs_us i := h_5
        refine zr_if_eq (a := 1) (tgt := 131) X dX10_look_117 (by decide) (by decide) (fun c9 => absurd c9 (by decide)) (fun _ => ?_)
        refine lv_aload_n X.1 X.2.1 dX10_look_120 rfl (lv_at hl 0 rfl) ?_
        refine zr_get (v := .ref (ad 23)) X hW fs_X10_68_9 dX10_look_121 (zm_s0 hM) rfl rfl rfl ?_
        refine lv_iconst (v := 2) X.1 X.2.1 dX10_look_124 (by decide) ?_
        refine lv_iload_n X.1 X.2.1 dX10_look_125 rfl (lv_at hl 2 rfl) ?_
        refine lv_imul X.1 X.2.1 dX10_look_126 ?_
        have hx_6 := zi_ix2 i (by omega)
        obtain ⟨hx_6, hx_6n⟩ := hx_6
        refine zr_iald (v := u 23 (2 * zn i)) X hW dX10_look_127 (zm_s23 hM) rfl rfl (zi_vp (by omega)) (by rw [hx_6n]; rfl) ?_
        refine lv_goto (tgt := 132) X.1 X.2.1 dX10_look_128 (by decide) ?_
        have e9 : sp_look w i u = (u 23 (2 * zn i), u) := (by unfold sp_look; (repeat (first | refine (if_pos (by omega)).trans ?_ | refine (if_neg (by omega)).trans ?_)); first | rfl | (refine Prod.ext ?_ rfl; (repeat (first | refine (if_pos (by omega)).trans ?_ | refine (if_neg (by omega)).trans ?_)); rfl))
        exact zr_iret X hW dX10_look_132 (Nat.le_refl _) (Nat.le_refl _) ⟨rfl, rfl, by rw [e9], by rw [e9]⟩
      · subst h9
        have h_5 : ¬ (zs_us i) := h_5
        refine zr_if_eq (a := 0) (tgt := 131) X dX10_look_117 (by decide) (by decide) (fun _ => ?_) (fun c9 => absurd c9 (by decide))
        refine lv_iconst (v := (-1)) X.1 X.2.1 dX10_look_131 (by decide) ?_
        have e9 : sp_look w i u = ((-1), u) := (by unfold sp_look; (repeat (first | refine (if_pos (by omega)).trans ?_ | refine (if_neg (by omega)).trans ?_)); first | rfl | (refine Prod.ext ?_ rfl; (repeat (first | refine (if_pos (by omega)).trans ?_ | refine (if_neg (by omega)).trans ?_)); rfl))
        exact zr_iret X hW dX10_look_132 (Nat.le_refl _) (Nat.le_refl _) ⟨rfl, rfl, by rw [e9], by rw [e9]⟩
    · refine lv_tableIn (off := 132) (tgt := 133) X.1 X.2.1 dX10_look_1 (by omega) (by omega) (by rw [c_1]; rfl) (by decide) ?_
      refine lv_aload_n X.1 X.2.1 dX10_look_133 rfl (lv_at hl 0 rfl) ?_
      refine lv_iload_n X.1 X.2.1 dX10_look_134 rfl (lv_at hl 2 rfl) ?_
      refine zr_callV (As := [.int i]) (rest := []) X hW hl.1 md_X10_user ms_X10_112 dX10_look_135 (zm_s0 hM) rfl rfl rfl rfl (Nat.le_of_ble_eq_true rfl) ⟨Nat.le_of_ble_eq_true rfl, Nat.le_of_ble_eq_true rfl⟩ ⟨Nat.le_of_ble_eq_true rfl, Nat.le_of_ble_eq_true rfl⟩ (c_X10_user l Y N0 ad sh u g0 hM i) (fun v9 ad9 sh9 g9 H locs hp hW => ?_)
      rcases hp with ⟨rfl, rfl, rfl, ⟨h_7, h9⟩ | ⟨h_7, h9⟩⟩
      · subst h9
        have h_7 : zs_us i := h_7
        refine zr_if_eq (a := 1) (tgt := 154) X dX10_look_138 (by decide) (by decide) (fun c9 => absurd c9 (by decide)) (fun _ => ?_)
        refine lv_aload_n X.1 X.2.1 dX10_look_141 rfl (lv_at hl 0 rfl) ?_
        refine zr_get (v := .ref (ad 23)) X hW fs_X10_68_9 dX10_look_142 (zm_s0 hM) rfl rfl rfl ?_
        refine lv_iconst (v := 2) X.1 X.2.1 dX10_look_145 (by decide) ?_
        refine lv_iload_n X.1 X.2.1 dX10_look_146 rfl (lv_at hl 2 rfl) ?_
        refine lv_imul X.1 X.2.1 dX10_look_147 ?_
        refine lv_iconst (v := 1) X.1 X.2.1 dX10_look_148 (by decide) ?_
        refine lv_iadd X.1 X.2.1 dX10_look_149 ?_
        have hx_8 := zi_ix21 i (by omega)
        obtain ⟨hx_8, hx_8n⟩ := hx_8
        refine zr_iald (v := u 23 (2 * zn i + 1)) X hW dX10_look_150 (zm_s23 hM) rfl rfl (zi_vp (by omega)) (by rw [hx_8n]; rfl) ?_
        refine lv_goto (tgt := 155) X.1 X.2.1 dX10_look_151 (by decide) ?_
        have e9 : sp_look w i u = (u 23 (2 * zn i + 1), u) := (by unfold sp_look; (repeat (first | refine (if_pos (by omega)).trans ?_ | refine (if_neg (by omega)).trans ?_)); first | rfl | (refine Prod.ext ?_ rfl; (repeat (first | refine (if_pos (by omega)).trans ?_ | refine (if_neg (by omega)).trans ?_)); rfl))
        exact zr_iret X hW dX10_look_155 (Nat.le_refl _) (Nat.le_refl _) ⟨rfl, rfl, by rw [e9], by rw [e9]⟩
      · subst h9
        have h_7 : ¬ (zs_us i) := h_7
        refine zr_if_eq (a := 0) (tgt := 154) X dX10_look_138 (by decide) (by decide) (fun _ => ?_) (fun c9 => absurd c9 (by decide))
        refine lv_iconst (v := (-1)) X.1 X.2.1 dX10_look_154 (by decide) ?_
        have e9 : sp_look w i u = ((-1), u) := (by unfold sp_look; (repeat (first | refine (if_pos (by omega)).trans ?_ | refine (if_neg (by omega)).trans ?_)); first | rfl | (refine Prod.ext ?_ rfl; (repeat (first | refine (if_pos (by omega)).trans ?_ | refine (if_neg (by omega)).trans ?_)); rfl))
        exact zr_iret X hW dX10_look_155 (Nat.le_refl _) (Nat.le_refl _) ⟨rfl, rfl, by rw [e9], by rw [e9]⟩
    · refine lv_tableIn (off := 155) (tgt := 156) X.1 X.2.1 dX10_look_1 (by omega) (by omega) (by rw [c_1]; rfl) (by decide) ?_
      refine lv_aload_n X.1 X.2.1 dX10_look_156 rfl (lv_at hl 0 rfl) ?_
      refine zr_get (v := .int (u 0 8)) X hW fs_X10_102_9 dX10_look_157 (zm_s0 hM) rfl rfl rfl ?_
      have e9 : sp_look w i u = (u 0 8, u) := (by unfold sp_look; (repeat (first | refine (if_pos (by omega)).trans ?_ | refine (if_neg (by omega)).trans ?_)); first | rfl | (refine Prod.ext ?_ rfl; (repeat (first | refine (if_pos (by omega)).trans ?_ | refine (if_neg (by omega)).trans ?_)); rfl))
      exact zr_iret X hW dX10_look_160 (Nat.le_refl _) (Nat.le_refl _) ⟨rfl, rfl, by rw [e9], by rw [e9]⟩
    · refine lv_tableIn (off := 160) (tgt := 161) X.1 X.2.1 dX10_look_1 (by omega) (by omega) (by rw [c_1]; rfl) (by decide) ?_
      refine lv_aload_n X.1 X.2.1 dX10_look_161 rfl (lv_at hl 0 rfl) ?_
      refine zr_get (v := .int (u 0 2)) X hW fs_X10_91_9 dX10_look_162 (zm_s0 hM) rfl rfl rfl ?_
      have e9 : sp_look w i u = (u 0 2, u) := (by unfold sp_look; (repeat (first | refine (if_pos (by omega)).trans ?_ | refine (if_neg (by omega)).trans ?_)); first | rfl | (refine Prod.ext ?_ rfl; (repeat (first | refine (if_pos (by omega)).trans ?_ | refine (if_neg (by omega)).trans ?_)); rfl))
      exact zr_iret X hW dX10_look_165 (Nat.le_refl _) (Nat.le_refl _) ⟨rfl, rfl, by rw [e9], by rw [e9]⟩

theorem zs_w13 (a b c d e f g h i j x : Int32) : va_up (zs_v a b c d e f g h i j) 13 x = zs_v a b c d x f g h i j := by
  funext r
  by_cases hr : r = 13
  · subst hr; rfl
  · rw [va_up_ne _ _ hr]; unfold zs_v; split <;> first | rfl | exact absurd rfl hr
theorem zs_w14 (a b c d e f g h i j x : Int32) : va_up (zs_v a b c d e f g h i j) 14 x = zs_v a b c d e x g h i j := by
  funext r
  by_cases hr : r = 14
  · subst hr; rfl
  · rw [va_up_ne _ _ hr]; unfold zs_v; split <;> first | rfl | exact absurd rfl hr
theorem zs_w15 (a b c d e f g h i j x : Int32) : va_up (zs_v a b c d e f g h i j) 15 x = zs_v a b c d e f x h i j := by
  funext r
  by_cases hr : r = 15
  · subst hr; rfl
  · rw [va_up_ne _ _ hr]; unfold zs_v; split <;> first | rfl | exact absurd rfl hr
theorem zs_w16 (a b c d e f g h i j x : Int32) : va_up (zs_v a b c d e f g h i j) 16 x = zs_v a b c d e f g x i j := by
  funext r
  by_cases hr : r = 16
  · subst hr; rfl
  · rw [va_up_ne _ _ hr]; unfold zs_v; split <;> first | rfl | exact absurd rfl hr
theorem zs_w17 (a b c d e f g h i j x : Int32) : va_up (zs_v a b c d e f g h i j) 17 x = zs_v a b c d e f g h x j := by
  funext r
  by_cases hr : r = 17
  · subst hr; rfl
  · rw [va_up_ne _ _ hr]; unfold zs_v; split <;> first | rfl | exact absurd rfl hr
theorem zs_w18 (a b c d e f g h i j x : Int32) : va_up (zs_v a b c d e f g h i j) 18 x = zs_v a b c d e f g h i x := by
  funext r
  by_cases hr : r = 18
  · subst hr; rfl
  · rw [va_up_ne _ _ hr]; unfold zs_v; split <;> first | rfl | exact absurd rfl hr
theorem zs_mkw (u : zm_T) (v : Nat → Int32) {r0 : Nat} (h : 9 ≤ r0 ∧ r0 ≤ 18) (x : Int32) : zm_w (zs_mk u v) r0 (zn (u 0 8)) x = zs_mk u (va_up v r0 x) := by
  funext r i
  by_cases hr : r = r0
  · subst hr
    by_cases hi : i = zn (u 0 8)
    · subst hi
      rw [zm_ws]
      simp [zs_mk, va_up, h.1, h.2, show r ≠ 0 by omega]
    · rw [zm_wn _ _ (Or.inr hi)]
      simp [zs_mk, hi]
  · rw [zm_wn _ _ (Or.inl hr)]
    simp [zs_mk, va_up, hr]
theorem zs_mk0 (u : zm_T) (a b c d : Int32) : zm_w (zm_w (zm_w (zm_w (zm_w (zm_w (zm_w (zm_w (zm_w (zm_w (zm_w u 9 (zn (u 0 8)) a) 10 (zn (u 0 8)) b) 11 (zn (u 0 8)) c) 12 (zn (u 0 8)) d) 13 (zn (u 0 8)) 0) 14 (zn (u 0 8)) 0) 15 (zn (u 0 8)) 0) 16 (zn (u 0 8)) 0) 17 (zn (u 0 8)) 0) 18 (zn (u 0 8)) 0) 0 8 (u 0 8 + 1) = zs_mk u (zs_v a b c d 0 0 0 0 0 0) := by
  funext r i
  unfold zs_mk zm_w
  simp only [va_up, upd]
  by_cases h0 : r = 0
  · subst h0
    by_cases hi : i = 8
    · subst hi; simp [upd]
    · simp [upd, hi]
  · by_cases hr : 9 ≤ r ∧ r ≤ 18
    · obtain rfl | rfl | rfl | rfl | rfl | rfl | rfl | rfl | rfl | rfl : r = 9 ∨ r = 10 ∨ r = 11 ∨ r = 12 ∨ r = 13 ∨ r = 14 ∨ r = 15 ∨ r = 16 ∨ r = 17 ∨ r = 18 := by omega
      all_goals (by_cases hi : i = zn (u 0 8) <;> simp [hi, zs_v, upd])
    · simp [h0, hr, show r ≠ 9 by omega, show r ≠ 10 by omega, show r ≠ 11 by omega, show r ≠ 12 by omega, show r ≠ 13 by omega, show r ≠ 14 by omega, show r ≠ 15 by omega, show r ≠ 16 by omega, show r ≠ 17 by omega, show r ≠ 18 by omega]

set_option maxHeartbeats 4000000 in
set_option maxRecDepth 100000 in
theorem c_X10_make (l : Launch) (Y : zw_Y) (N0 : Nat) (ad : Nat → Nat) (sh : Nat → Option zw_Sh) (u g0 : zm_T) (hM : zm_S sh) (k key cn sn : Int32) (hn : 0 ≤ (u 0 8).toInt ∧ (u 0 8).toInt < 150) : zw_Met l Y N0 yX10_make cX10_make 5 (some .int) 0 0 0 0 ad sh (zm_mix u g0) [.ref (ad 0), .int k, .int key, .int cn, .int sn] (zp_G ad sh (fun v g' => ∃ r : Int32, v = some (.int r) ∧ r = u 0 8 ∧ g' = zm_mix (zs_mk u (zs_v k key cn sn 0 0 0 0 0 0)) g0)) := by
  refine zw_meth (by decide) (Nat.le_of_ble_eq_true rfl) ?_
  intro p e s m below meth c ls X hnm hl hW
  have hl : lv_has ls 5 [(0, .ref (ad 0)), (1, .int k), (2, .int key), (3, .int cn), (4, .int sn)] := hl
  refine lv_aload_n X.1 X.2.1 dX10_make_0 rfl (lv_at hl 0 rfl) ?_
  refine zr_get (v := .ref (ad 9)) X hW fs_X10_29_9 dX10_make_1 (zm_s0 hM) rfl rfl rfl ?_
  refine lv_aload_n X.1 X.2.1 dX10_make_4 rfl (lv_at hl 0 rfl) ?_
  refine zr_get (v := .int (u 0 8)) X hW fs_X10_102_9 dX10_make_5 (zm_s0 hM) rfl rfl rfl ?_
  refine lv_iload_n X.1 X.2.1 dX10_make_8 rfl (lv_at hl 1 rfl) ?_
  refine zr_iast X hW dX10_make_9 (zm_s9 hM) rfl rfl (zi_vp (by omega)) (fun H locs hW => ?_)
  have hW : zw_St Y N0 ad sh (zm_mix (zm_w u 9 (zn (u 0 8)) k) g0) s H locs := zm_st (by decide) hW
  obtain ⟨u_1, hu_1⟩ : ∃ z : zm_T, z = zm_w u 9 (zn (u 0 8)) k := ⟨_, rfl⟩
  rw [← hu_1] at hW
  refine lv_aload_n X.1 X.2.1 dX10_make_10 rfl (lv_at hl 0 rfl) ?_
  refine zr_get (v := .ref (ad 10)) X hW fs_X10_32_9 dX10_make_11 (zm_s0 hM) rfl rfl rfl ?_
  refine lv_aload_n X.1 X.2.1 dX10_make_14 rfl (lv_at hl 0 rfl) ?_
  refine zr_get (v := .int (u 0 8)) X hW fs_X10_102_9 dX10_make_15 (zm_s0 hM) rfl rfl (congrArg Value.int (show u_1 0 8 = u 0 8 from (by rw [hu_1]; rfl))) ?_
  refine lv_iload_n X.1 X.2.1 dX10_make_18 rfl (lv_at hl 2 rfl) ?_
  refine zr_iast X hW dX10_make_19 (zm_s10 hM) rfl rfl (zi_vp (by omega)) (fun H locs hW => ?_)
  have hW : zw_St Y N0 ad sh (zm_mix (zm_w u_1 10 (zn (u 0 8)) key) g0) s H locs := zm_st (by decide) hW
  obtain ⟨u_2, hu_2⟩ : ∃ z : zm_T, z = zm_w u_1 10 (zn (u 0 8)) key := ⟨_, rfl⟩
  rw [← hu_2] at hW
  refine lv_aload_n X.1 X.2.1 dX10_make_20 rfl (lv_at hl 0 rfl) ?_
  refine zr_get (v := .ref (ad 11)) X hW fs_X10_35_9 dX10_make_21 (zm_s0 hM) rfl rfl rfl ?_
  refine lv_aload_n X.1 X.2.1 dX10_make_24 rfl (lv_at hl 0 rfl) ?_
  refine zr_get (v := .int (u 0 8)) X hW fs_X10_102_9 dX10_make_25 (zm_s0 hM) rfl rfl (congrArg Value.int ((show u_2 0 8 = u_1 0 8 from (by rw [hu_2]; rfl)).trans (show u_1 0 8 = u 0 8 from (by rw [hu_1]; rfl)))) ?_
  refine lv_iload_n X.1 X.2.1 dX10_make_28 rfl (lv_at hl 3 rfl) ?_
  refine zr_iast X hW dX10_make_29 (zm_s11 hM) rfl rfl (zi_vp (by omega)) (fun H locs hW => ?_)
  have hW : zw_St Y N0 ad sh (zm_mix (zm_w u_2 11 (zn (u 0 8)) cn) g0) s H locs := zm_st (by decide) hW
  obtain ⟨u_3, hu_3⟩ : ∃ z : zm_T, z = zm_w u_2 11 (zn (u 0 8)) cn := ⟨_, rfl⟩
  rw [← hu_3] at hW
  refine lv_aload_n X.1 X.2.1 dX10_make_30 rfl (lv_at hl 0 rfl) ?_
  refine zr_get (v := .ref (ad 12)) X hW fs_X10_38_9 dX10_make_31 (zm_s0 hM) rfl rfl rfl ?_
  refine lv_aload_n X.1 X.2.1 dX10_make_34 rfl (lv_at hl 0 rfl) ?_
  refine zr_get (v := .int (u 0 8)) X hW fs_X10_102_9 dX10_make_35 (zm_s0 hM) rfl rfl (congrArg Value.int ((show u_3 0 8 = u_2 0 8 from (by rw [hu_3]; rfl)).trans ((show u_2 0 8 = u_1 0 8 from (by rw [hu_2]; rfl)).trans (show u_1 0 8 = u 0 8 from (by rw [hu_1]; rfl))))) ?_
  refine lv_iload X.1 X.2.1 dX10_make_38 (lv_at hl 4 rfl) ?_
  refine zr_iast X hW dX10_make_40 (zm_s12 hM) rfl rfl (zi_vp (by omega)) (fun H locs hW => ?_)
  have hW : zw_St Y N0 ad sh (zm_mix (zm_w u_3 12 (zn (u 0 8)) sn) g0) s H locs := zm_st (by decide) hW
  obtain ⟨u_4, hu_4⟩ : ∃ z : zm_T, z = zm_w u_3 12 (zn (u 0 8)) sn := ⟨_, rfl⟩
  rw [← hu_4] at hW
  refine lv_aload_n X.1 X.2.1 dX10_make_41 rfl (lv_at hl 0 rfl) ?_
  refine zr_get (v := .ref (ad 13)) X hW fs_X10_41_9 dX10_make_42 (zm_s0 hM) rfl rfl rfl ?_
  refine lv_aload_n X.1 X.2.1 dX10_make_45 rfl (lv_at hl 0 rfl) ?_
  refine zr_get (v := .int (u 0 8)) X hW fs_X10_102_9 dX10_make_46 (zm_s0 hM) rfl rfl (congrArg Value.int ((show u_4 0 8 = u_3 0 8 from (by rw [hu_4]; rfl)).trans ((show u_3 0 8 = u_2 0 8 from (by rw [hu_3]; rfl)).trans ((show u_2 0 8 = u_1 0 8 from (by rw [hu_2]; rfl)).trans (show u_1 0 8 = u 0 8 from (by rw [hu_1]; rfl)))))) ?_
  refine lv_iconst (v := 0) X.1 X.2.1 dX10_make_49 (by decide) ?_
  refine zr_iast X hW dX10_make_50 (zm_s13 hM) rfl rfl (zi_vp (by omega)) (fun H locs hW => ?_)
  have hW : zw_St Y N0 ad sh (zm_mix (zm_w u_4 13 (zn (u 0 8)) 0) g0) s H locs := zm_st (by decide) hW
  obtain ⟨u_5, hu_5⟩ : ∃ z : zm_T, z = zm_w u_4 13 (zn (u 0 8)) 0 := ⟨_, rfl⟩
  rw [← hu_5] at hW
  refine lv_aload_n X.1 X.2.1 dX10_make_51 rfl (lv_at hl 0 rfl) ?_
  refine zr_get (v := .ref (ad 14)) X hW fs_X10_44_9 dX10_make_52 (zm_s0 hM) rfl rfl rfl ?_
  refine lv_aload_n X.1 X.2.1 dX10_make_55 rfl (lv_at hl 0 rfl) ?_
  refine zr_get (v := .int (u 0 8)) X hW fs_X10_102_9 dX10_make_56 (zm_s0 hM) rfl rfl (congrArg Value.int ((show u_5 0 8 = u_4 0 8 from (by rw [hu_5]; rfl)).trans ((show u_4 0 8 = u_3 0 8 from (by rw [hu_4]; rfl)).trans ((show u_3 0 8 = u_2 0 8 from (by rw [hu_3]; rfl)).trans ((show u_2 0 8 = u_1 0 8 from (by rw [hu_2]; rfl)).trans (show u_1 0 8 = u 0 8 from (by rw [hu_1]; rfl))))))) ?_
  refine lv_iconst (v := 0) X.1 X.2.1 dX10_make_59 (by decide) ?_
  refine zr_iast X hW dX10_make_60 (zm_s14 hM) rfl rfl (zi_vp (by omega)) (fun H locs hW => ?_)
  have hW : zw_St Y N0 ad sh (zm_mix (zm_w u_5 14 (zn (u 0 8)) 0) g0) s H locs := zm_st (by decide) hW
  obtain ⟨u_6, hu_6⟩ : ∃ z : zm_T, z = zm_w u_5 14 (zn (u 0 8)) 0 := ⟨_, rfl⟩
  rw [← hu_6] at hW
  refine lv_aload_n X.1 X.2.1 dX10_make_61 rfl (lv_at hl 0 rfl) ?_
  refine zr_get (v := .ref (ad 15)) X hW fs_X10_47_9 dX10_make_62 (zm_s0 hM) rfl rfl rfl ?_
  refine lv_aload_n X.1 X.2.1 dX10_make_65 rfl (lv_at hl 0 rfl) ?_
  refine zr_get (v := .int (u 0 8)) X hW fs_X10_102_9 dX10_make_66 (zm_s0 hM) rfl rfl (congrArg Value.int ((show u_6 0 8 = u_5 0 8 from (by rw [hu_6]; rfl)).trans ((show u_5 0 8 = u_4 0 8 from (by rw [hu_5]; rfl)).trans ((show u_4 0 8 = u_3 0 8 from (by rw [hu_4]; rfl)).trans ((show u_3 0 8 = u_2 0 8 from (by rw [hu_3]; rfl)).trans ((show u_2 0 8 = u_1 0 8 from (by rw [hu_2]; rfl)).trans (show u_1 0 8 = u 0 8 from (by rw [hu_1]; rfl)))))))) ?_
  refine lv_iconst (v := 0) X.1 X.2.1 dX10_make_69 (by decide) ?_
  refine zr_iast X hW dX10_make_70 (zm_s15 hM) rfl rfl (zi_vp (by omega)) (fun H locs hW => ?_)
  have hW : zw_St Y N0 ad sh (zm_mix (zm_w u_6 15 (zn (u 0 8)) 0) g0) s H locs := zm_st (by decide) hW
  obtain ⟨u_7, hu_7⟩ : ∃ z : zm_T, z = zm_w u_6 15 (zn (u 0 8)) 0 := ⟨_, rfl⟩
  rw [← hu_7] at hW
  refine lv_aload_n X.1 X.2.1 dX10_make_71 rfl (lv_at hl 0 rfl) ?_
  refine zr_get (v := .ref (ad 16)) X hW fs_X10_50_9 dX10_make_72 (zm_s0 hM) rfl rfl rfl ?_
  refine lv_aload_n X.1 X.2.1 dX10_make_75 rfl (lv_at hl 0 rfl) ?_
  refine zr_get (v := .int (u 0 8)) X hW fs_X10_102_9 dX10_make_76 (zm_s0 hM) rfl rfl (congrArg Value.int ((show u_7 0 8 = u_6 0 8 from (by rw [hu_7]; rfl)).trans ((show u_6 0 8 = u_5 0 8 from (by rw [hu_6]; rfl)).trans ((show u_5 0 8 = u_4 0 8 from (by rw [hu_5]; rfl)).trans ((show u_4 0 8 = u_3 0 8 from (by rw [hu_4]; rfl)).trans ((show u_3 0 8 = u_2 0 8 from (by rw [hu_3]; rfl)).trans ((show u_2 0 8 = u_1 0 8 from (by rw [hu_2]; rfl)).trans (show u_1 0 8 = u 0 8 from (by rw [hu_1]; rfl))))))))) ?_
  refine lv_iconst (v := 0) X.1 X.2.1 dX10_make_79 (by decide) ?_
  refine zr_iast X hW dX10_make_80 (zm_s16 hM) rfl rfl (zi_vp (by omega)) (fun H locs hW => ?_)
  have hW : zw_St Y N0 ad sh (zm_mix (zm_w u_7 16 (zn (u 0 8)) 0) g0) s H locs := zm_st (by decide) hW
  obtain ⟨u_8, hu_8⟩ : ∃ z : zm_T, z = zm_w u_7 16 (zn (u 0 8)) 0 := ⟨_, rfl⟩
  rw [← hu_8] at hW
  refine lv_aload_n X.1 X.2.1 dX10_make_81 rfl (lv_at hl 0 rfl) ?_
  refine zr_get (v := .ref (ad 17)) X hW fs_X10_53_9 dX10_make_82 (zm_s0 hM) rfl rfl rfl ?_
  refine lv_aload_n X.1 X.2.1 dX10_make_85 rfl (lv_at hl 0 rfl) ?_
  refine zr_get (v := .int (u 0 8)) X hW fs_X10_102_9 dX10_make_86 (zm_s0 hM) rfl rfl (congrArg Value.int ((show u_8 0 8 = u_7 0 8 from (by rw [hu_8]; rfl)).trans ((show u_7 0 8 = u_6 0 8 from (by rw [hu_7]; rfl)).trans ((show u_6 0 8 = u_5 0 8 from (by rw [hu_6]; rfl)).trans ((show u_5 0 8 = u_4 0 8 from (by rw [hu_5]; rfl)).trans ((show u_4 0 8 = u_3 0 8 from (by rw [hu_4]; rfl)).trans ((show u_3 0 8 = u_2 0 8 from (by rw [hu_3]; rfl)).trans ((show u_2 0 8 = u_1 0 8 from (by rw [hu_2]; rfl)).trans (show u_1 0 8 = u 0 8 from (by rw [hu_1]; rfl)))))))))) ?_
  refine lv_iconst (v := 0) X.1 X.2.1 dX10_make_89 (by decide) ?_
  refine zr_iast X hW dX10_make_90 (zm_s17 hM) rfl rfl (zi_vp (by omega)) (fun H locs hW => ?_)
  have hW : zw_St Y N0 ad sh (zm_mix (zm_w u_8 17 (zn (u 0 8)) 0) g0) s H locs := zm_st (by decide) hW
  obtain ⟨u_9, hu_9⟩ : ∃ z : zm_T, z = zm_w u_8 17 (zn (u 0 8)) 0 := ⟨_, rfl⟩
  rw [← hu_9] at hW
  refine lv_aload_n X.1 X.2.1 dX10_make_91 rfl (lv_at hl 0 rfl) ?_
  refine zr_get (v := .ref (ad 18)) X hW fs_X10_56_9 dX10_make_92 (zm_s0 hM) rfl rfl rfl ?_
  refine lv_aload_n X.1 X.2.1 dX10_make_95 rfl (lv_at hl 0 rfl) ?_
  refine zr_get (v := .int (u 0 8)) X hW fs_X10_102_9 dX10_make_96 (zm_s0 hM) rfl rfl (congrArg Value.int ((show u_9 0 8 = u_8 0 8 from (by rw [hu_9]; rfl)).trans ((show u_8 0 8 = u_7 0 8 from (by rw [hu_8]; rfl)).trans ((show u_7 0 8 = u_6 0 8 from (by rw [hu_7]; rfl)).trans ((show u_6 0 8 = u_5 0 8 from (by rw [hu_6]; rfl)).trans ((show u_5 0 8 = u_4 0 8 from (by rw [hu_5]; rfl)).trans ((show u_4 0 8 = u_3 0 8 from (by rw [hu_4]; rfl)).trans ((show u_3 0 8 = u_2 0 8 from (by rw [hu_3]; rfl)).trans ((show u_2 0 8 = u_1 0 8 from (by rw [hu_2]; rfl)).trans (show u_1 0 8 = u 0 8 from (by rw [hu_1]; rfl))))))))))) ?_
  refine lv_iconst (v := 0) X.1 X.2.1 dX10_make_99 (by decide) ?_
  refine zr_iast X hW dX10_make_100 (zm_s18 hM) rfl rfl (zi_vp (by omega)) (fun H locs hW => ?_)
  have hW : zw_St Y N0 ad sh (zm_mix (zm_w u_9 18 (zn (u 0 8)) 0) g0) s H locs := zm_st (by decide) hW
  obtain ⟨u_10, hu_10⟩ : ∃ z : zm_T, z = zm_w u_9 18 (zn (u 0 8)) 0 := ⟨_, rfl⟩
  rw [← hu_10] at hW
  refine lv_aload_n X.1 X.2.1 dX10_make_101 rfl (lv_at hl 0 rfl) ?_
  refine lv_dup X.1 X.2.1 dX10_make_102 rfl ?_
  refine zr_get (v := .int (u 0 8)) X hW fs_X10_102_9 dX10_make_103 (zm_s0 hM) rfl rfl (congrArg Value.int ((show u_10 0 8 = u_9 0 8 from (by rw [hu_10]; rfl)).trans ((show u_9 0 8 = u_8 0 8 from (by rw [hu_9]; rfl)).trans ((show u_8 0 8 = u_7 0 8 from (by rw [hu_8]; rfl)).trans ((show u_7 0 8 = u_6 0 8 from (by rw [hu_7]; rfl)).trans ((show u_6 0 8 = u_5 0 8 from (by rw [hu_6]; rfl)).trans ((show u_5 0 8 = u_4 0 8 from (by rw [hu_5]; rfl)).trans ((show u_4 0 8 = u_3 0 8 from (by rw [hu_4]; rfl)).trans ((show u_3 0 8 = u_2 0 8 from (by rw [hu_3]; rfl)).trans ((show u_2 0 8 = u_1 0 8 from (by rw [hu_2]; rfl)).trans (show u_1 0 8 = u 0 8 from (by rw [hu_1]; rfl)))))))))))) ?_
  refine lv_iconst (v := 1) X.1 X.2.1 dX10_make_106 (by decide) ?_
  refine lv_iadd X.1 X.2.1 dX10_make_107 ?_
  refine zr_puti X hW fs_X10_102_9 dX10_make_108 (zm_s0 hM) rfl rfl rfl rfl (fun H locs hW => ?_)
  have hW : zw_St Y N0 ad sh (zm_mix (zm_w u_10 0 8 ((u 0 8) + 1)) g0) s H locs := zm_st (by decide) hW
  obtain ⟨u_11, hu_11⟩ : ∃ z : zm_T, z = zm_w u_10 0 8 ((u 0 8) + 1) := ⟨_, rfl⟩
  rw [← hu_11] at hW
  refine lv_aload_n X.1 X.2.1 dX10_make_111 rfl (lv_at hl 0 rfl) ?_
  refine zr_get (v := .int ((u 0 8) + 1)) X hW fs_X10_102_9 dX10_make_112 (zm_s0 hM) rfl rfl (congrArg Value.int (show u_11 0 8 = (u 0 8) + 1 from (by rw [hu_11]; exact zm_ws _ _ _ _))) ?_
  refine lv_iconst (v := 1) X.1 X.2.1 dX10_make_115 (by decide) ?_
  refine lv_isub X.1 X.2.1 dX10_make_116 ?_
  have e9 : u_11 = zs_mk u (zs_v k key cn sn 0 0 0 0 0 0) := by rw [hu_11, hu_10, hu_9, hu_8, hu_7, hu_6, hu_5, hu_4, hu_3, hu_2, hu_1]; exact zs_mk0 u k key cn sn
  exact zr_iret X hW dX10_make_117 (Nat.le_refl _) (Nat.le_refl _) ⟨rfl, rfl, _, rfl, by rw [Int32.add_sub_cancel], by rw [e9]⟩

set_option maxHeartbeats 4000000 in
set_option maxRecDepth 100000 in
theorem c_X10_makeProof (l : Launch) (Y : zw_Y) (N0 : Nat) (ad : Nat → Nat) (sh : Nat → Option zw_Sh) (u g0 : zm_T) (hM : zm_S sh) (key cn tm : Int32) (hn : 0 ≤ (u 0 8).toInt ∧ (u 0 8).toInt < 150) : zw_Met l Y N0 yX10_makeProof cX10_makeProof 5 (some .int) 1 24 0 0 ad sh (zm_mix u g0) [.ref (ad 0), .int key, .int cn, .int tm] (zp_G ad sh (fun v g' => ∃ r : Int32, v = some (.int r) ∧ r = u 0 8 ∧ g' = zm_mix (zs_mk u (zs_v 1 key cn (-1) tm 0 0 0 0 0)) g0)) := by
  refine zw_meth (by decide) (Nat.le_of_ble_eq_true rfl) ?_
  intro p e s m below meth c ls X hnm hl hW
  have hl : lv_has ls 5 [(0, .ref (ad 0)), (1, .int key), (2, .int cn), (3, .int tm)] := hl
  refine lv_aload_n X.1 X.2.1 dX10_makeProof_0 rfl (lv_at hl 0 rfl) ?_
  refine lv_iconst (v := 1) X.1 X.2.1 dX10_makeProof_1 (by decide) ?_
  refine lv_iload_n X.1 X.2.1 dX10_makeProof_2 rfl (lv_at hl 1 rfl) ?_
  refine lv_iload_n X.1 X.2.1 dX10_makeProof_3 rfl (lv_at hl 2 rfl) ?_
  refine lv_iconst (v := (-1)) X.1 X.2.1 dX10_makeProof_4 (by decide) ?_
  refine zr_callV (As := [.int 1, .int key, .int cn, .int ((-1))]) (rest := []) X hW hl.1 md_X10_make ms_X10_105 dX10_makeProof_5 (zm_s0 hM) rfl rfl rfl rfl (Nat.le_of_ble_eq_true rfl) ⟨Nat.le_of_ble_eq_true rfl, Nat.le_of_ble_eq_true rfl⟩ ⟨Nat.le_of_ble_eq_true rfl, Nat.le_of_ble_eq_true rfl⟩ (c_X10_make l Y N0 ad sh u g0 hM 1 key cn ((-1)) (by omega)) (fun v9 ad9 sh9 g9 H locs hp hW => ?_)
  obtain ⟨rfl, rfl, _, rfl, rfl, rfl⟩ := hp
  obtain ⟨u_2, hu_2⟩ : ∃ z : zm_T, z = zs_mk u (zs_v 1 key cn ((-1)) 0 0 0 0 0 0) := ⟨_, rfl⟩
  rw [← hu_2] at hW
  refine lv_istore (lv' := [(4, .int (u 0 8)), (0, .ref (ad 0)), (1, .int key), (2, .int cn), (3, .int tm)]) X.1 X.2.1 dX10_makeProof_8 hl (by decide) rfl (fun ls hl => ?_)
  refine lv_aload_n X.1 X.2.1 dX10_makeProof_10 rfl (lv_at hl 1 rfl) ?_
  refine zr_get (v := .ref (ad 13)) X hW fs_X10_41_9 dX10_makeProof_11 (zm_s0 hM) rfl rfl rfl ?_
  refine lv_iload X.1 X.2.1 dX10_makeProof_14 (lv_at hl 0 rfl) ?_
  refine lv_iload_n X.1 X.2.1 dX10_makeProof_16 rfl (lv_at hl 4 rfl) ?_
  refine zr_iast X hW dX10_makeProof_17 (zm_s13 hM) rfl rfl (zi_vp (by omega)) (fun H locs hW => ?_)
  have hW : zw_St Y N0 ad sh (zm_mix (zm_w u_2 13 (zn (u 0 8)) tm) g0) s H locs := zm_st (by decide) hW
  obtain ⟨u_4, hu_4⟩ : ∃ z : zm_T, z = zm_w u_2 13 (zn (u 0 8)) tm := ⟨_, rfl⟩
  rw [← hu_4] at hW
  refine lv_iload X.1 X.2.1 dX10_makeProof_18 (lv_at hl 0 rfl) ?_
  have e9 : u_4 = zs_mk u (zs_v 1 key cn (-1) tm 0 0 0 0 0) := by rw [hu_4, hu_2]; simp only [zs_mkw _ _ (show 9 ≤ 13 ∧ 13 ≤ 18 by decide), zs_mkw _ _ (show 9 ≤ 14 ∧ 14 ≤ 18 by decide), zs_mkw _ _ (show 9 ≤ 15 ∧ 15 ≤ 18 by decide), zs_w13, zs_w14, zs_w15]
  exact zr_iret X hW dX10_makeProof_20 (Nat.le_refl _) (Nat.le_refl _) ⟨rfl, rfl, _, rfl, rfl, by rw [e9]⟩

set_option maxHeartbeats 4000000 in
set_option maxRecDepth 100000 in
theorem c_X10_makeTicket (l : Launch) (Y : zw_Y) (N0 : Nat) (ad : Nat → Nat) (sh : Nat → Option zw_Sh) (u g0 : zm_T) (hM : zm_S sh) (key cn sk t1 t2 t3 : Int32) (hn : 0 ≤ (u 0 8).toInt ∧ (u 0 8).toInt < 150) : zw_Met l Y N0 yX10_makeTicket cX10_makeTicket 8 (some .int) 1 24 0 0 ad sh (zm_mix u g0) [.ref (ad 0), .int key, .int cn, .int sk, .int t1, .int t2, .int t3] (zp_G ad sh (fun v g' => ∃ r : Int32, v = some (.int r) ∧ r = u 0 8 ∧ g' = zm_mix (zs_mk u (zs_v 2 key cn sk t1 t2 t3 0 0 0)) g0)) := by
  refine zw_meth (by decide) (Nat.le_of_ble_eq_true rfl) ?_
  intro p e s m below meth c ls X hnm hl hW
  have hl : lv_has ls 8 [(0, .ref (ad 0)), (1, .int key), (2, .int cn), (3, .int sk), (4, .int t1), (5, .int t2), (6, .int t3)] := hl
  refine lv_aload_n X.1 X.2.1 dX10_makeTicket_0 rfl (lv_at hl 0 rfl) ?_
  refine lv_iconst (v := 2) X.1 X.2.1 dX10_makeTicket_1 (by decide) ?_
  refine lv_iload_n X.1 X.2.1 dX10_makeTicket_2 rfl (lv_at hl 1 rfl) ?_
  refine lv_iload_n X.1 X.2.1 dX10_makeTicket_3 rfl (lv_at hl 2 rfl) ?_
  refine lv_iload_n X.1 X.2.1 dX10_makeTicket_4 rfl (lv_at hl 3 rfl) ?_
  refine zr_callV (As := [.int 2, .int key, .int cn, .int sk]) (rest := []) X hW hl.1 md_X10_make ms_X10_105 dX10_makeTicket_5 (zm_s0 hM) rfl rfl rfl rfl (Nat.le_of_ble_eq_true rfl) ⟨Nat.le_of_ble_eq_true rfl, Nat.le_of_ble_eq_true rfl⟩ ⟨Nat.le_of_ble_eq_true rfl, Nat.le_of_ble_eq_true rfl⟩ (c_X10_make l Y N0 ad sh u g0 hM 2 key cn sk (by omega)) (fun v9 ad9 sh9 g9 H locs hp hW => ?_)
  obtain ⟨rfl, rfl, _, rfl, rfl, rfl⟩ := hp
  obtain ⟨u_2, hu_2⟩ : ∃ z : zm_T, z = zs_mk u (zs_v 2 key cn sk 0 0 0 0 0 0) := ⟨_, rfl⟩
  rw [← hu_2] at hW
  refine lv_istore (lv' := [(7, .int (u 0 8)), (0, .ref (ad 0)), (1, .int key), (2, .int cn), (3, .int sk), (4, .int t1), (5, .int t2), (6, .int t3)]) X.1 X.2.1 dX10_makeTicket_8 hl (by decide) rfl (fun ls hl => ?_)
  refine lv_aload_n X.1 X.2.1 dX10_makeTicket_10 rfl (lv_at hl 1 rfl) ?_
  refine zr_get (v := .ref (ad 13)) X hW fs_X10_41_9 dX10_makeTicket_11 (zm_s0 hM) rfl rfl rfl ?_
  refine lv_iload X.1 X.2.1 dX10_makeTicket_14 (lv_at hl 0 rfl) ?_
  refine lv_iload X.1 X.2.1 dX10_makeTicket_16 (lv_at hl 5 rfl) ?_
  refine zr_iast X hW dX10_makeTicket_18 (zm_s13 hM) rfl rfl (zi_vp (by omega)) (fun H locs hW => ?_)
  have hW : zw_St Y N0 ad sh (zm_mix (zm_w u_2 13 (zn (u 0 8)) t1) g0) s H locs := zm_st (by decide) hW
  obtain ⟨u_4, hu_4⟩ : ∃ z : zm_T, z = zm_w u_2 13 (zn (u 0 8)) t1 := ⟨_, rfl⟩
  rw [← hu_4] at hW
  refine lv_aload_n X.1 X.2.1 dX10_makeTicket_19 rfl (lv_at hl 1 rfl) ?_
  refine zr_get (v := .ref (ad 14)) X hW fs_X10_44_9 dX10_makeTicket_20 (zm_s0 hM) rfl rfl rfl ?_
  refine lv_iload X.1 X.2.1 dX10_makeTicket_23 (lv_at hl 0 rfl) ?_
  refine lv_iload X.1 X.2.1 dX10_makeTicket_25 (lv_at hl 6 rfl) ?_
  refine zr_iast X hW dX10_makeTicket_27 (zm_s14 hM) rfl rfl (zi_vp (by omega)) (fun H locs hW => ?_)
  have hW : zw_St Y N0 ad sh (zm_mix (zm_w u_4 14 (zn (u 0 8)) t2) g0) s H locs := zm_st (by decide) hW
  obtain ⟨u_5, hu_5⟩ : ∃ z : zm_T, z = zm_w u_4 14 (zn (u 0 8)) t2 := ⟨_, rfl⟩
  rw [← hu_5] at hW
  refine lv_aload_n X.1 X.2.1 dX10_makeTicket_28 rfl (lv_at hl 1 rfl) ?_
  refine zr_get (v := .ref (ad 15)) X hW fs_X10_47_9 dX10_makeTicket_29 (zm_s0 hM) rfl rfl rfl ?_
  refine lv_iload X.1 X.2.1 dX10_makeTicket_32 (lv_at hl 0 rfl) ?_
  refine lv_iload X.1 X.2.1 dX10_makeTicket_34 (lv_at hl 7 rfl) ?_
  refine zr_iast X hW dX10_makeTicket_36 (zm_s15 hM) rfl rfl (zi_vp (by omega)) (fun H locs hW => ?_)
  have hW : zw_St Y N0 ad sh (zm_mix (zm_w u_5 15 (zn (u 0 8)) t3) g0) s H locs := zm_st (by decide) hW
  obtain ⟨u_6, hu_6⟩ : ∃ z : zm_T, z = zm_w u_5 15 (zn (u 0 8)) t3 := ⟨_, rfl⟩
  rw [← hu_6] at hW
  refine lv_iload X.1 X.2.1 dX10_makeTicket_37 (lv_at hl 0 rfl) ?_
  have e9 : u_6 = zs_mk u (zs_v 2 key cn sk t1 t2 t3 0 0 0) := by rw [hu_6, hu_5, hu_4, hu_2]; simp only [zs_mkw _ _ (show 9 ≤ 13 ∧ 13 ≤ 18 by decide), zs_mkw _ _ (show 9 ≤ 14 ∧ 14 ≤ 18 by decide), zs_mkw _ _ (show 9 ≤ 15 ∧ 15 ≤ 18 by decide), zs_w13, zs_w14, zs_w15]
  exact zr_iret X hW dX10_makeTicket_39 (Nat.le_refl _) (Nat.le_refl _) ⟨rfl, rfl, _, rfl, rfl, by rw [e9]⟩

set_option maxHeartbeats 4000000 in
set_option maxRecDepth 100000 in
theorem c_X10_makePart (l : Launch) (Y : zw_Y) (N0 : Nat) (ad : Nat → Nat) (sh : Nat → Option zw_Sh) (u g0 : zm_T) (hM : zm_S sh) (key sk t1 t2 t3 : Int32) (hn : 0 ≤ (u 0 8).toInt ∧ (u 0 8).toInt < 150) : zw_Met l Y N0 yX10_makePart cX10_makePart 7 (some .int) 1 24 0 0 ad sh (zm_mix u g0) [.ref (ad 0), .int key, .int sk, .int t1, .int t2, .int t3] (zp_G ad sh (fun v g' => ∃ r : Int32, v = some (.int r) ∧ r = u 0 8 ∧ g' = zm_mix (zs_mk u (zs_v 3 key (-1) sk t1 t2 t3 0 0 0)) g0)) := by
  refine zw_meth (by decide) (Nat.le_of_ble_eq_true rfl) ?_
  intro p e s m below meth c ls X hnm hl hW
  have hl : lv_has ls 7 [(0, .ref (ad 0)), (1, .int key), (2, .int sk), (3, .int t1), (4, .int t2), (5, .int t3)] := hl
  refine lv_aload_n X.1 X.2.1 dX10_makePart_0 rfl (lv_at hl 0 rfl) ?_
  refine lv_iconst (v := 3) X.1 X.2.1 dX10_makePart_1 (by decide) ?_
  refine lv_iload_n X.1 X.2.1 dX10_makePart_2 rfl (lv_at hl 1 rfl) ?_
  refine lv_iconst (v := (-1)) X.1 X.2.1 dX10_makePart_3 (by decide) ?_
  refine lv_iload_n X.1 X.2.1 dX10_makePart_4 rfl (lv_at hl 2 rfl) ?_
  refine zr_callV (As := [.int 3, .int key, .int ((-1)), .int sk]) (rest := []) X hW hl.1 md_X10_make ms_X10_105 dX10_makePart_5 (zm_s0 hM) rfl rfl rfl rfl (Nat.le_of_ble_eq_true rfl) ⟨Nat.le_of_ble_eq_true rfl, Nat.le_of_ble_eq_true rfl⟩ ⟨Nat.le_of_ble_eq_true rfl, Nat.le_of_ble_eq_true rfl⟩ (c_X10_make l Y N0 ad sh u g0 hM 3 key ((-1)) sk (by omega)) (fun v9 ad9 sh9 g9 H locs hp hW => ?_)
  obtain ⟨rfl, rfl, _, rfl, rfl, rfl⟩ := hp
  obtain ⟨u_2, hu_2⟩ : ∃ z : zm_T, z = zs_mk u (zs_v 3 key ((-1)) sk 0 0 0 0 0 0) := ⟨_, rfl⟩
  rw [← hu_2] at hW
  refine lv_istore (lv' := [(6, .int (u 0 8)), (0, .ref (ad 0)), (1, .int key), (2, .int sk), (3, .int t1), (4, .int t2), (5, .int t3)]) X.1 X.2.1 dX10_makePart_8 hl (by decide) rfl (fun ls hl => ?_)
  refine lv_aload_n X.1 X.2.1 dX10_makePart_10 rfl (lv_at hl 1 rfl) ?_
  refine zr_get (v := .ref (ad 13)) X hW fs_X10_41_9 dX10_makePart_11 (zm_s0 hM) rfl rfl rfl ?_
  refine lv_iload X.1 X.2.1 dX10_makePart_14 (lv_at hl 0 rfl) ?_
  refine lv_iload_n X.1 X.2.1 dX10_makePart_16 rfl (lv_at hl 4 rfl) ?_
  refine zr_iast X hW dX10_makePart_17 (zm_s13 hM) rfl rfl (zi_vp (by omega)) (fun H locs hW => ?_)
  have hW : zw_St Y N0 ad sh (zm_mix (zm_w u_2 13 (zn (u 0 8)) t1) g0) s H locs := zm_st (by decide) hW
  obtain ⟨u_4, hu_4⟩ : ∃ z : zm_T, z = zm_w u_2 13 (zn (u 0 8)) t1 := ⟨_, rfl⟩
  rw [← hu_4] at hW
  refine lv_aload_n X.1 X.2.1 dX10_makePart_18 rfl (lv_at hl 1 rfl) ?_
  refine zr_get (v := .ref (ad 14)) X hW fs_X10_44_9 dX10_makePart_19 (zm_s0 hM) rfl rfl rfl ?_
  refine lv_iload X.1 X.2.1 dX10_makePart_22 (lv_at hl 0 rfl) ?_
  refine lv_iload X.1 X.2.1 dX10_makePart_24 (lv_at hl 5 rfl) ?_
  refine zr_iast X hW dX10_makePart_26 (zm_s14 hM) rfl rfl (zi_vp (by omega)) (fun H locs hW => ?_)
  have hW : zw_St Y N0 ad sh (zm_mix (zm_w u_4 14 (zn (u 0 8)) t2) g0) s H locs := zm_st (by decide) hW
  obtain ⟨u_5, hu_5⟩ : ∃ z : zm_T, z = zm_w u_4 14 (zn (u 0 8)) t2 := ⟨_, rfl⟩
  rw [← hu_5] at hW
  refine lv_aload_n X.1 X.2.1 dX10_makePart_27 rfl (lv_at hl 1 rfl) ?_
  refine zr_get (v := .ref (ad 15)) X hW fs_X10_47_9 dX10_makePart_28 (zm_s0 hM) rfl rfl rfl ?_
  refine lv_iload X.1 X.2.1 dX10_makePart_31 (lv_at hl 0 rfl) ?_
  refine lv_iload X.1 X.2.1 dX10_makePart_33 (lv_at hl 6 rfl) ?_
  refine zr_iast X hW dX10_makePart_35 (zm_s15 hM) rfl rfl (zi_vp (by omega)) (fun H locs hW => ?_)
  have hW : zw_St Y N0 ad sh (zm_mix (zm_w u_5 15 (zn (u 0 8)) t3) g0) s H locs := zm_st (by decide) hW
  obtain ⟨u_6, hu_6⟩ : ∃ z : zm_T, z = zm_w u_5 15 (zn (u 0 8)) t3 := ⟨_, rfl⟩
  rw [← hu_6] at hW
  refine lv_iload X.1 X.2.1 dX10_makePart_36 (lv_at hl 0 rfl) ?_
  have e9 : u_6 = zs_mk u (zs_v 3 key (-1) sk t1 t2 t3 0 0 0) := by rw [hu_6, hu_5, hu_4, hu_2]; simp only [zs_mkw _ _ (show 9 ≤ 13 ∧ 13 ≤ 18 by decide), zs_mkw _ _ (show 9 ≤ 14 ∧ 14 ≤ 18 by decide), zs_mkw _ _ (show 9 ≤ 15 ∧ 15 ≤ 18 by decide), zs_w13, zs_w14, zs_w15]
  exact zr_iret X hW dX10_makePart_38 (Nat.le_refl _) (Nat.le_refl _) ⟨rfl, rfl, _, rfl, rfl, by rw [e9]⟩

set_option maxHeartbeats 4000000 in
set_option maxRecDepth 100000 in
theorem c_X10_makeClaim (l : Launch) (Y : zw_Y) (N0 : Nat) (ad : Nat → Nat) (sh : Nat → Option zw_Sh) (u g0 : zm_T) (hM : zm_S sh) (key cn t1 t2 : Int32) (hn : 0 ≤ (u 0 8).toInt ∧ (u 0 8).toInt < 150) : zw_Met l Y N0 yX10_makeClaim cX10_makeClaim 6 (some .int) 1 24 0 0 ad sh (zm_mix u g0) [.ref (ad 0), .int key, .int cn, .int t1, .int t2] (zp_G ad sh (fun v g' => ∃ r : Int32, v = some (.int r) ∧ r = u 0 8 ∧ g' = zm_mix (zs_mk u (zs_v 4 key cn (-1) t1 t2 0 0 0 0)) g0)) := by
  refine zw_meth (by decide) (Nat.le_of_ble_eq_true rfl) ?_
  intro p e s m below meth c ls X hnm hl hW
  have hl : lv_has ls 6 [(0, .ref (ad 0)), (1, .int key), (2, .int cn), (3, .int t1), (4, .int t2)] := hl
  refine lv_aload_n X.1 X.2.1 dX10_makeClaim_0 rfl (lv_at hl 0 rfl) ?_
  refine lv_iconst (v := 4) X.1 X.2.1 dX10_makeClaim_1 (by decide) ?_
  refine lv_iload_n X.1 X.2.1 dX10_makeClaim_2 rfl (lv_at hl 1 rfl) ?_
  refine lv_iload_n X.1 X.2.1 dX10_makeClaim_3 rfl (lv_at hl 2 rfl) ?_
  refine lv_iconst (v := (-1)) X.1 X.2.1 dX10_makeClaim_4 (by decide) ?_
  refine zr_callV (As := [.int 4, .int key, .int cn, .int ((-1))]) (rest := []) X hW hl.1 md_X10_make ms_X10_105 dX10_makeClaim_5 (zm_s0 hM) rfl rfl rfl rfl (Nat.le_of_ble_eq_true rfl) ⟨Nat.le_of_ble_eq_true rfl, Nat.le_of_ble_eq_true rfl⟩ ⟨Nat.le_of_ble_eq_true rfl, Nat.le_of_ble_eq_true rfl⟩ (c_X10_make l Y N0 ad sh u g0 hM 4 key cn ((-1)) (by omega)) (fun v9 ad9 sh9 g9 H locs hp hW => ?_)
  obtain ⟨rfl, rfl, _, rfl, rfl, rfl⟩ := hp
  obtain ⟨u_2, hu_2⟩ : ∃ z : zm_T, z = zs_mk u (zs_v 4 key cn ((-1)) 0 0 0 0 0 0) := ⟨_, rfl⟩
  rw [← hu_2] at hW
  refine lv_istore (lv' := [(5, .int (u 0 8)), (0, .ref (ad 0)), (1, .int key), (2, .int cn), (3, .int t1), (4, .int t2)]) X.1 X.2.1 dX10_makeClaim_8 hl (by decide) rfl (fun ls hl => ?_)
  refine lv_aload_n X.1 X.2.1 dX10_makeClaim_10 rfl (lv_at hl 1 rfl) ?_
  refine zr_get (v := .ref (ad 13)) X hW fs_X10_41_9 dX10_makeClaim_11 (zm_s0 hM) rfl rfl rfl ?_
  refine lv_iload X.1 X.2.1 dX10_makeClaim_14 (lv_at hl 0 rfl) ?_
  refine lv_iload_n X.1 X.2.1 dX10_makeClaim_16 rfl (lv_at hl 4 rfl) ?_
  refine zr_iast X hW dX10_makeClaim_17 (zm_s13 hM) rfl rfl (zi_vp (by omega)) (fun H locs hW => ?_)
  have hW : zw_St Y N0 ad sh (zm_mix (zm_w u_2 13 (zn (u 0 8)) t1) g0) s H locs := zm_st (by decide) hW
  obtain ⟨u_4, hu_4⟩ : ∃ z : zm_T, z = zm_w u_2 13 (zn (u 0 8)) t1 := ⟨_, rfl⟩
  rw [← hu_4] at hW
  refine lv_aload_n X.1 X.2.1 dX10_makeClaim_18 rfl (lv_at hl 1 rfl) ?_
  refine zr_get (v := .ref (ad 14)) X hW fs_X10_44_9 dX10_makeClaim_19 (zm_s0 hM) rfl rfl rfl ?_
  refine lv_iload X.1 X.2.1 dX10_makeClaim_22 (lv_at hl 0 rfl) ?_
  refine lv_iload X.1 X.2.1 dX10_makeClaim_24 (lv_at hl 5 rfl) ?_
  refine zr_iast X hW dX10_makeClaim_26 (zm_s14 hM) rfl rfl (zi_vp (by omega)) (fun H locs hW => ?_)
  have hW : zw_St Y N0 ad sh (zm_mix (zm_w u_4 14 (zn (u 0 8)) t2) g0) s H locs := zm_st (by decide) hW
  obtain ⟨u_5, hu_5⟩ : ∃ z : zm_T, z = zm_w u_4 14 (zn (u 0 8)) t2 := ⟨_, rfl⟩
  rw [← hu_5] at hW
  refine lv_iload X.1 X.2.1 dX10_makeClaim_27 (lv_at hl 0 rfl) ?_
  have e9 : u_5 = zs_mk u (zs_v 4 key cn (-1) t1 t2 0 0 0 0) := by rw [hu_5, hu_4, hu_2]; simp only [zs_mkw _ _ (show 9 ≤ 13 ∧ 13 ≤ 18 by decide), zs_mkw _ _ (show 9 ≤ 14 ∧ 14 ≤ 18 by decide), zs_mkw _ _ (show 9 ≤ 15 ∧ 15 ≤ 18 by decide), zs_w13, zs_w14, zs_w15]
  exact zr_iret X hW dX10_makeClaim_29 (Nat.le_refl _) (Nat.le_refl _) ⟨rfl, rfl, _, rfl, rfl, by rw [e9]⟩

set_option maxHeartbeats 4000000 in
set_option maxRecDepth 100000 in
theorem c_X10_request (l : Launch) (Y : zw_Y) (N0 : Nat) (ad : Nat → Nat) (sh : Nat → Option zw_Sh) (u g0 : zm_T) (hM : zm_S sh) (a t key : Int32) (ha : 0 ≤ a.toInt ∧ a.toInt ≤ 5) : zw_Met l Y N0 yX10_request cX10_request 4 none 0 0 0 0 ad sh (zm_mix u g0) [.ref (ad 0), .int a, .int t, .int key] (zp_G ad sh (fun v g' => v = none ∧ g' = zm_mix (zs_rq u (zn a) t key) g0)) := by
  refine zw_meth (by decide) (Nat.le_of_ble_eq_true rfl) ?_
  intro p e s m below meth c ls X hnm hl hW
  have hl : lv_has ls 4 [(0, .ref (ad 0)), (1, .int a), (2, .int t), (3, .int key)] := hl
  refine lv_aload_n X.1 X.2.1 dX10_request_0 rfl (lv_at hl 0 rfl) ?_
  refine lv_dup X.1 X.2.1 dX10_request_1 rfl ?_
  refine zr_get (v := .int (u 0 19)) X hW fs_X10_109_9 dX10_request_2 (zm_s0 hM) rfl rfl rfl ?_
  refine lv_iconst (v := 1) X.1 X.2.1 dX10_request_5 (by decide) ?_
  refine lv_iadd X.1 X.2.1 dX10_request_6 ?_
  refine zr_puti X hW fs_X10_109_9 dX10_request_7 (zm_s0 hM) rfl rfl rfl rfl (fun H locs hW => ?_)
  have hW : zw_St Y N0 ad sh (zm_mix (zm_w u 0 19 ((u 0 19) + 1)) g0) s H locs := zm_st (by decide) hW
  obtain ⟨u_1, hu_1⟩ : ∃ z : zm_T, z = zm_w u 0 19 ((u 0 19) + 1) := ⟨_, rfl⟩
  rw [← hu_1] at hW
  refine lv_aload_n X.1 X.2.1 dX10_request_10 rfl (lv_at hl 0 rfl) ?_
  refine zr_get (v := .ref (ad 20)) X hW fs_X10_59_9 dX10_request_11 (zm_s0 hM) rfl rfl rfl ?_
  refine lv_iload_n X.1 X.2.1 dX10_request_14 rfl (lv_at hl 1 rfl) ?_
  refine lv_aload_n X.1 X.2.1 dX10_request_15 rfl (lv_at hl 0 rfl) ?_
  refine zr_get (v := .int ((u 0 19) + 1)) X hW fs_X10_109_9 dX10_request_16 (zm_s0 hM) rfl rfl (congrArg Value.int (show u_1 0 19 = (u 0 19) + 1 from (by rw [hu_1]; exact zm_ws _ _ _ _))) ?_
  refine zr_iast X hW dX10_request_19 (zm_s20 hM) rfl rfl (zi_vp (by omega)) (fun H locs hW => ?_)
  have hW : zw_St Y N0 ad sh (zm_mix (zm_w u_1 20 (zn a) ((u 0 19) + 1)) g0) s H locs := zm_st (by decide) hW
  obtain ⟨u_2, hu_2⟩ : ∃ z : zm_T, z = zm_w u_1 20 (zn a) ((u 0 19) + 1) := ⟨_, rfl⟩
  rw [← hu_2] at hW
  refine lv_aload_n X.1 X.2.1 dX10_request_20 rfl (lv_at hl 0 rfl) ?_
  refine zr_get (v := .ref (ad 21)) X hW fs_X10_62_9 dX10_request_21 (zm_s0 hM) rfl rfl rfl ?_
  refine lv_iload_n X.1 X.2.1 dX10_request_24 rfl (lv_at hl 1 rfl) ?_
  refine lv_iload_n X.1 X.2.1 dX10_request_25 rfl (lv_at hl 2 rfl) ?_
  refine zr_iast X hW dX10_request_26 (zm_s21 hM) rfl rfl (zi_vp (by omega)) (fun H locs hW => ?_)
  have hW : zw_St Y N0 ad sh (zm_mix (zm_w u_2 21 (zn a) t) g0) s H locs := zm_st (by decide) hW
  obtain ⟨u_3, hu_3⟩ : ∃ z : zm_T, z = zm_w u_2 21 (zn a) t := ⟨_, rfl⟩
  rw [← hu_3] at hW
  refine lv_aload_n X.1 X.2.1 dX10_request_27 rfl (lv_at hl 0 rfl) ?_
  refine zr_get (v := .ref (ad 22)) X hW fs_X10_65_9 dX10_request_28 (zm_s0 hM) rfl rfl rfl ?_
  refine lv_iload_n X.1 X.2.1 dX10_request_31 rfl (lv_at hl 1 rfl) ?_
  refine lv_iload_n X.1 X.2.1 dX10_request_32 rfl (lv_at hl 3 rfl) ?_
  refine zr_iast X hW dX10_request_33 (zm_s22 hM) rfl rfl (zi_vp (by omega)) (fun H locs hW => ?_)
  have hW : zw_St Y N0 ad sh (zm_mix (zm_w u_3 22 (zn a) key) g0) s H locs := zm_st (by decide) hW
  obtain ⟨u_4, hu_4⟩ : ∃ z : zm_T, z = zm_w u_3 22 (zn a) key := ⟨_, rfl⟩
  rw [← hu_4] at hW
  have e9 : u_4 = zs_rq u (zn a) t key := by rw [hu_4, hu_3, hu_2, hu_1]; rfl
  exact zr_vret X hW dX10_request_34 (Nat.le_refl _) (Nat.le_refl _) ⟨rfl, rfl, rfl, by rw [e9]⟩

theorem zs_mk8 (u : zm_T) (v : Nat → Int32) : zs_mk u v 0 8 = u 0 8 + 1 := rfl
theorem zs_mk0k (u : zm_T) (v : Nat → Int32) {k : Nat} (h : k ≠ 8) : zs_mk u v 0 k = u 0 k := by simp [zs_mk, h]
theorem zs_mkr (u : zm_T) (v : Nat → Int32) {r k : Nat} (h : r ≠ 0 ∧ ¬ (9 ≤ r ∧ r ≤ 18)) : zs_mk u v r k = u r k := by
  unfold zs_mk
  rw [if_neg (fun q => h.1 q.1), if_neg (fun q => h.2 q.2)]
theorem zs_mkw' {u : zm_T} {v : Nat → Int32} {r0 n : Nat} (h : 9 ≤ r0 ∧ r0 ≤ 18) (hn : n = zn (u 0 8)) (x : Int32) : zm_w (zs_mk u v) r0 n x = zs_mk u (va_up v r0 x) := by
  subst hn
  exact zs_mkw u v h x
end
section
theorem zs_mk3 {u : zm_T} {n : Nat} {a b c d e f g o fl x : Int32} (hn : n = zn (u 0 8)) : zm_w (zm_w (zm_w (zs_mk u (zs_v a b c d e f g 0 0 0)) 16 n o) 17 n fl) 18 n x = zs_mk u (zs_v a b c d e f g o fl x) := by
  rw [zs_mkw' (by decide) hn, zs_mkw' (by decide) hn, zs_mkw' (by decide) hn, zs_w16, zs_w17, zs_w18]

set_option maxHeartbeats 4000000 in
set_option maxRecDepth 100000 in
theorem c_X10_login (l : Launch) (Y : zw_Y) (N0 : Nat) (ad : Nat → Nat) (sh : Nat → Option zw_Sh) (u g0 : zm_T) (hM : zm_S sh) (a t : Int32) (hI : zm_I u) : zw_Met l Y N0 yX10_login cX10_login 3 (some .int) 2 48 0 0 ad sh (zm_mix u g0) [.ref (ad 0), .int a, .int t] (zp_S ad sh g0 (sp_login a t u)) := by
  refine zw_meth (by decide) (Nat.le_of_ble_eq_true rfl) ?_
  intro p e s m below meth c ls X hnm hl hW
  have hl : lv_has ls 3 [(0, .ref (ad 0)), (1, .int a), (2, .int t)] := hl
  have hse := zI_se hI
  have hke := zI_ke hI
  have hs1 := zi_sub (u 0 8) 1 (by rw [show (1 : Int32).toInt = 1 from rfl]; omega)
  rw [show (1 : Int32).toInt = 1 from rfl] at hs1
  refine lv_aload_n X.1 X.2.1 dX10_login_0 rfl (lv_at hl 0 rfl) ?_
  refine lv_iload_n X.1 X.2.1 dX10_login_1 rfl (lv_at hl 1 rfl) ?_
  refine zr_callV (As := [.int a]) (rest := []) X hW hl.1 md_X10_user ms_X10_112 dX10_login_2 (zm_s0 hM) rfl rfl rfl rfl (Nat.le_of_ble_eq_true rfl) ⟨Nat.le_of_ble_eq_true rfl, Nat.le_of_ble_eq_true rfl⟩ ⟨Nat.le_of_ble_eq_true rfl, Nat.le_of_ble_eq_true rfl⟩ (c_X10_user l Y N0 ad sh u g0 hM a) (fun v9 ad9 sh9 g9 H locs hp hW => ?_)
  rcases hp with ⟨rfl, rfl, rfl, ⟨h_1, h9⟩ | ⟨h_1, h9⟩⟩
  · subst h9
    have h_1 : zs_us a := h_1
    refine zr_if_eq (a := 1) (tgt := 26) X dX10_login_5 (by decide) (by decide) (fun c9 => absurd c9 (by decide)) (fun _ => ?_)
    refine lv_aload_n X.1 X.2.1 dX10_login_8 rfl (lv_at hl 0 rfl) ?_
    refine zr_get (v := .ref (ad 3)) X hW fs_X10_13_9 dX10_login_9 (zm_s0 hM) rfl rfl rfl ?_
    refine lv_iload_n X.1 X.2.1 dX10_login_12 rfl (lv_at hl 1 rfl) ?_
    refine zr_iald (v := u 3 (zn a)) X hW dX10_login_13 (zm_s3 hM) rfl rfl (zi_vp (by omega)) rfl ?_
    refine zr_if_lt (a := (u 3 (zn a)).toInt) (tgt := 26) X dX10_login_14 (by decide) rfl (fun c_2 => ?_) (fun c_2 => ?_)
    · refine lv_iconst (v := (-1)) X.1 X.2.1 dX10_login_26 (by decide) ?_
      have e9 : sp_login a t u = ((-1), u) := (by unfold sp_login; (repeat (first | refine (if_pos (by omega)).trans ?_ | refine (if_neg (by omega)).trans ?_)); rfl)
      exact zr_iret X hW dX10_login_27 (Nat.le_refl _) (Nat.le_refl _) ⟨rfl, rfl, by rw [e9], by rw [e9]⟩
    · refine lv_iload_n X.1 X.2.1 dX10_login_17 rfl (lv_at hl 2 rfl) ?_
      refine lv_iconst (v := 0) X.1 X.2.1 dX10_login_18 (by decide) ?_
      refine lv_iconst (v := 1) X.1 X.2.1 dX10_login_19 (by decide) ?_
      refine zr_callS (As := [.int t, .int 0, .int 1]) (rest := []) X hW hl.1 md_X10_in ms_X10_87 dX10_login_20 rfl rfl (Nat.le_of_ble_eq_true rfl) ⟨Nat.le_of_ble_eq_true rfl, Nat.le_of_ble_eq_true rfl⟩ ⟨Nat.le_of_ble_eq_true rfl, Nat.le_of_ble_eq_true rfl⟩ (c_X10_in l Y N0 ad sh (zm_mix u g0) t 0 1) (fun v9 ad9 sh9 g9 H locs hp hW => ?_)
      rcases hp with ⟨rfl, rfl, rfl, ⟨h_3, h9⟩ | ⟨h_3, h9⟩⟩
      · subst h9
        have h_3 : zi_in t 0 1 := h_3
        refine zr_if_ne (a := 1) (tgt := 28) X dX10_login_23 (by decide) (by decide) (fun _ => ?_) (fun c9 => absurd c9 (by decide))
        refine lv_aload_n X.1 X.2.1 dX10_login_28 rfl (lv_at hl 0 rfl) ?_
        refine zr_get (v := .int (u 0 8)) X hW fs_X10_102_9 dX10_login_29 (zm_s0 hM) rfl rfl rfl ?_
        refine lv_sipush (v := 150) X.1 X.2.1 dX10_login_32 (by decide) ?_
        refine zr_icmp_lt (a := (u 0 8).toInt) (b := 150) (tgt := 41) X dX10_login_35 (by decide) rfl (by decide) (fun c_4 => ?_) (fun c_4 => ?_)
        · refine lv_aload_n X.1 X.2.1 dX10_login_41 rfl (lv_at hl 0 rfl) ?_
          refine lv_iload_n X.1 X.2.1 dX10_login_42 rfl (lv_at hl 1 rfl) ?_
          refine lv_iload_n X.1 X.2.1 dX10_login_43 rfl (lv_at hl 2 rfl) ?_
          refine lv_aload_n X.1 X.2.1 dX10_login_44 rfl (lv_at hl 0 rfl) ?_
          refine zr_get (v := .ref (ad 3)) X hW fs_X10_13_9 dX10_login_45 (zm_s0 hM) rfl rfl rfl ?_
          refine lv_iload_n X.1 X.2.1 dX10_login_48 rfl (lv_at hl 1 rfl) ?_
          refine zr_iald (v := u 3 (zn a)) X hW dX10_login_49 (zm_s3 hM) rfl rfl (zi_vp (by omega)) rfl ?_
          refine zr_callV (As := [.int a, .int t, .int (u 3 (zn a))]) (rest := []) X hW hl.1 md_X10_request ms_X10_115 dX10_login_50 (zm_s0 hM) rfl rfl rfl rfl (Nat.le_of_ble_eq_true rfl) ⟨Nat.le_of_ble_eq_true rfl, Nat.le_of_ble_eq_true rfl⟩ ⟨Nat.le_of_ble_eq_true rfl, Nat.le_of_ble_eq_true rfl⟩ (c_X10_request l Y N0 ad sh u g0 hM a t (u 3 (zn a)) (by omega)) (fun v9 ad9 sh9 g9 H locs hp hW => ?_)
          obtain ⟨rfl, rfl, rfl, rfl⟩ := hp
          obtain ⟨u_6, hu_6⟩ : ∃ z : zm_T, z = zs_rq u (zn a) t (u 3 (zn a)) := ⟨_, rfl⟩
          rw [← hu_6] at hW
          refine lv_aload_n X.1 X.2.1 dX10_login_53 rfl (lv_at hl 0 rfl) ?_
          refine lv_aload_n X.1 X.2.1 dX10_login_54 rfl (lv_at hl 0 rfl) ?_
          refine zr_get (v := .ref (ad 3)) X hW fs_X10_13_9 dX10_login_55 (zm_s0 hM) rfl rfl rfl ?_
          refine lv_iload_n X.1 X.2.1 dX10_login_58 rfl (lv_at hl 1 rfl) ?_
          refine zr_iald (v := u 3 (zn a)) X hW dX10_login_59 (zm_s3 hM) rfl rfl (zi_vp (by omega)) ((show zm_mix u_6 g0 3 (a : Int32).toNatClampNeg = u_6 3 (zn a) from rfl).trans (show u_6 3 (zn a) = u 3 (zn a) from (by rw [hu_6]; rfl))) ?_
          refine lv_iload_n X.1 X.2.1 dX10_login_60 rfl (lv_at hl 1 rfl) ?_
          refine lv_aload_n X.1 X.2.1 dX10_login_61 rfl (lv_at hl 0 rfl) ?_
          refine zr_get (v := .ref (ad 1)) X hW fs_X10_7_9 dX10_login_62 (zm_s0 hM) rfl rfl rfl ?_
          refine lv_iload_n X.1 X.2.1 dX10_login_65 rfl (lv_at hl 1 rfl) ?_
          refine zr_iald (v := u 1 (zn a)) X hW dX10_login_66 (zm_s1 hM) rfl rfl (zi_vp (by omega)) ((show zm_mix u_6 g0 1 (a : Int32).toNatClampNeg = u_6 1 (zn a) from rfl).trans (show u_6 1 (zn a) = u 1 (zn a) from (by rw [hu_6]; rfl))) ?_
          refine zr_callV (As := [.int (u 3 (zn a)), .int a, .int (u 1 (zn a))]) (rest := []) X hW hl.1 md_X10_makeProof ms_X10_119 dX10_login_67 (zm_s0 hM) rfl rfl rfl rfl (Nat.le_of_ble_eq_true rfl) ⟨Nat.le_of_ble_eq_true rfl, Nat.le_of_ble_eq_true rfl⟩ ⟨Nat.le_of_ble_eq_true rfl, Nat.le_of_ble_eq_true rfl⟩ (c_X10_makeProof l Y N0 ad sh u_6 g0 hM (u 3 (zn a)) a (u 1 (zn a)) (by rw [(show u_6 0 8 = u 0 8 from (by rw [hu_6]; rfl))]; omega)) (fun v9 ad9 sh9 g9 H locs hp hW => ?_)
          obtain ⟨rfl, rfl, _, rfl, rfl, rfl⟩ := hp
          obtain ⟨u_9, hu_9⟩ : ∃ z : zm_T, z = zs_mk u_6 (zs_v 1 (u 3 (zn a)) a (-1) (u 1 (zn a)) 0 0 0 0 0) := ⟨_, rfl⟩
          rw [← hu_9] at hW
          rw [(show u_6 0 8 = u 0 8 from (by rw [hu_6]; rfl))]
          have e9 : sp_login a t u = (u 0 8, u_9) := (by subst hu_9 hu_6; unfold sp_login; (repeat (first | refine (if_pos (by omega)).trans ?_ | refine (if_neg (by omega)).trans ?_)); rfl)
          exact zr_iret X hW dX10_login_70 (Nat.le_refl _) (Nat.le_refl _) ⟨rfl, rfl, by rw [e9], by rw [e9]⟩
        · refine lv_bipush (v := (-7)) X.1 X.2.1 dX10_login_38 (by decide) ?_
          have e9 : sp_login a t u = ((-7), u) := (by unfold sp_login; (repeat (first | refine (if_pos (by omega)).trans ?_ | refine (if_neg (by omega)).trans ?_)); rfl)
          exact zr_iret X hW dX10_login_40 (Nat.le_refl _) (Nat.le_refl _) ⟨rfl, rfl, by rw [e9], by rw [e9]⟩
      · subst h9
        have h_3 : ¬ (zi_in t 0 1) := h_3
        refine zr_if_ne (a := 0) (tgt := 28) X dX10_login_23 (by decide) (by decide) (fun c9 => absurd c9 (by decide)) (fun _ => ?_)
        refine lv_iconst (v := (-1)) X.1 X.2.1 dX10_login_26 (by decide) ?_
        have e9 : sp_login a t u = ((-1), u) := (by unfold sp_login; (repeat (first | refine (if_pos (by omega)).trans ?_ | refine (if_neg (by omega)).trans ?_)); rfl)
        exact zr_iret X hW dX10_login_27 (Nat.le_refl _) (Nat.le_refl _) ⟨rfl, rfl, by rw [e9], by rw [e9]⟩
  · subst h9
    have h_1 : ¬ (zs_us a) := h_1
    refine zr_if_eq (a := 0) (tgt := 26) X dX10_login_5 (by decide) (by decide) (fun _ => ?_) (fun c9 => absurd c9 (by decide))
    refine lv_iconst (v := (-1)) X.1 X.2.1 dX10_login_26 (by decide) ?_
    have e9 : sp_login a t u = ((-1), u) := (by unfold sp_login; (repeat (first | refine (if_pos (by omega)).trans ?_ | refine (if_neg (by omega)).trans ?_)); rfl)
    exact zr_iret X hW dX10_login_27 (Nat.le_refl _) (Nat.le_refl _) ⟨rfl, rfl, by rw [e9], by rw [e9]⟩

set_option maxHeartbeats 4000000 in
set_option maxRecDepth 100000 in
theorem c_X10_ask (l : Launch) (Y : zw_Y) (N0 : Nat) (ad : Nat → Nat) (sh : Nat → Option zw_Sh) (u g0 : zm_T) (hM : zm_S sh) (a t : Int32) (hI : zm_I u) : zw_Met l Y N0 yX10_ask cX10_ask 3 (some .int) 2 49 0 0 ad sh (zm_mix u g0) [.ref (ad 0), .int a, .int t] (zp_S ad sh g0 (sp_ask a t u)) := by
  refine zw_meth (by decide) (Nat.le_of_ble_eq_true rfl) ?_
  intro p e s m below meth c ls X hnm hl hW
  have hl : lv_has ls 3 [(0, .ref (ad 0)), (1, .int a), (2, .int t)] := hl
  have hse := zI_se hI
  have hke := zI_ke hI
  have hs1 := zi_sub (u 0 8) 1 (by rw [show (1 : Int32).toInt = 1 from rfl]; omega)
  rw [show (1 : Int32).toInt = 1 from rfl] at hs1
  refine lv_aload_n X.1 X.2.1 dX10_ask_0 rfl (lv_at hl 0 rfl) ?_
  refine lv_iload_n X.1 X.2.1 dX10_ask_1 rfl (lv_at hl 1 rfl) ?_
  refine zr_callV (As := [.int a]) (rest := []) X hW hl.1 md_X10_user ms_X10_112 dX10_ask_2 (zm_s0 hM) rfl rfl rfl rfl (Nat.le_of_ble_eq_true rfl) ⟨Nat.le_of_ble_eq_true rfl, Nat.le_of_ble_eq_true rfl⟩ ⟨Nat.le_of_ble_eq_true rfl, Nat.le_of_ble_eq_true rfl⟩ (c_X10_user l Y N0 ad sh u g0 hM a) (fun v9 ad9 sh9 g9 H locs hp hW => ?_)
  rcases hp with ⟨rfl, rfl, rfl, ⟨h_1, h9⟩ | ⟨h_1, h9⟩⟩
  · subst h9
    have h_1 : zs_us a := h_1
    refine zr_if_eq (a := 1) (tgt := 28) X dX10_ask_5 (by decide) (by decide) (fun c9 => absurd c9 (by decide)) (fun _ => ?_)
    refine lv_aload_n X.1 X.2.1 dX10_ask_8 rfl (lv_at hl 0 rfl) ?_
    refine zr_get (v := .ref (ad 23)) X hW fs_X10_68_9 dX10_ask_9 (zm_s0 hM) rfl rfl rfl ?_
    refine lv_iconst (v := 2) X.1 X.2.1 dX10_ask_12 (by decide) ?_
    refine lv_iload_n X.1 X.2.1 dX10_ask_13 rfl (lv_at hl 1 rfl) ?_
    refine lv_imul X.1 X.2.1 dX10_ask_14 ?_
    have hx_2 := zi_ix2 a (by omega)
    obtain ⟨hx_2, hx_2n⟩ := hx_2
    refine zr_iald (v := u 23 (2 * zn a)) X hW dX10_ask_15 (zm_s23 hM) rfl rfl (zi_vp (by omega)) (by rw [hx_2n]; rfl) ?_
    refine zr_if_lt (a := (u 23 (2 * zn a)).toInt) (tgt := 28) X dX10_ask_16 (by decide) rfl (fun c_3 => ?_) (fun c_3 => ?_)
    · refine lv_iconst (v := (-1)) X.1 X.2.1 dX10_ask_28 (by decide) ?_
      have e9 : sp_ask a t u = ((-1), u) := (by unfold sp_ask; (repeat (first | refine (if_pos (by omega)).trans ?_ | refine (if_neg (by omega)).trans ?_)); rfl)
      exact zr_iret X hW dX10_ask_29 (Nat.le_refl _) (Nat.le_refl _) ⟨rfl, rfl, by rw [e9], by rw [e9]⟩
    · refine lv_iload_n X.1 X.2.1 dX10_ask_19 rfl (lv_at hl 2 rfl) ?_
      refine lv_iconst (v := 0) X.1 X.2.1 dX10_ask_20 (by decide) ?_
      refine lv_iconst (v := 1) X.1 X.2.1 dX10_ask_21 (by decide) ?_
      refine zr_callS (As := [.int t, .int 0, .int 1]) (rest := []) X hW hl.1 md_X10_in ms_X10_87 dX10_ask_22 rfl rfl (Nat.le_of_ble_eq_true rfl) ⟨Nat.le_of_ble_eq_true rfl, Nat.le_of_ble_eq_true rfl⟩ ⟨Nat.le_of_ble_eq_true rfl, Nat.le_of_ble_eq_true rfl⟩ (c_X10_in l Y N0 ad sh (zm_mix u g0) t 0 1) (fun v9 ad9 sh9 g9 H locs hp hW => ?_)
      rcases hp with ⟨rfl, rfl, rfl, ⟨h_4, h9⟩ | ⟨h_4, h9⟩⟩
      · subst h9
        have h_4 : zi_in t 0 1 := h_4
        refine zr_if_ne (a := 1) (tgt := 30) X dX10_ask_25 (by decide) (by decide) (fun _ => ?_) (fun c9 => absurd c9 (by decide))
        refine lv_aload_n X.1 X.2.1 dX10_ask_30 rfl (lv_at hl 0 rfl) ?_
        refine zr_get (v := .int (u 0 8)) X hW fs_X10_102_9 dX10_ask_31 (zm_s0 hM) rfl rfl rfl ?_
        refine lv_sipush (v := 150) X.1 X.2.1 dX10_ask_34 (by decide) ?_
        refine zr_icmp_lt (a := (u 0 8).toInt) (b := 150) (tgt := 43) X dX10_ask_37 (by decide) rfl (by decide) (fun c_5 => ?_) (fun c_5 => ?_)
        · refine lv_aload_n X.1 X.2.1 dX10_ask_43 rfl (lv_at hl 0 rfl) ?_
          refine lv_iload_n X.1 X.2.1 dX10_ask_44 rfl (lv_at hl 1 rfl) ?_
          refine lv_iload_n X.1 X.2.1 dX10_ask_45 rfl (lv_at hl 2 rfl) ?_
          refine lv_aload_n X.1 X.2.1 dX10_ask_46 rfl (lv_at hl 0 rfl) ?_
          refine zr_get (v := .ref (ad 24)) X hW fs_X10_71_9 dX10_ask_47 (zm_s0 hM) rfl rfl rfl ?_
          refine lv_iconst (v := 2) X.1 X.2.1 dX10_ask_50 (by decide) ?_
          refine lv_iload_n X.1 X.2.1 dX10_ask_51 rfl (lv_at hl 1 rfl) ?_
          refine lv_imul X.1 X.2.1 dX10_ask_52 ?_
          have hx_6 := zi_ix2 a (by omega)
          obtain ⟨hx_6, hx_6n⟩ := hx_6
          refine zr_iald (v := u 24 (2 * zn a)) X hW dX10_ask_53 (zm_s24 hM) rfl rfl (zi_vp (by omega)) (by rw [hx_6n]; rfl) ?_
          refine zr_callV (As := [.int a, .int t, .int (u 24 (2 * zn a))]) (rest := []) X hW hl.1 md_X10_request ms_X10_115 dX10_ask_54 (zm_s0 hM) rfl rfl rfl rfl (Nat.le_of_ble_eq_true rfl) ⟨Nat.le_of_ble_eq_true rfl, Nat.le_of_ble_eq_true rfl⟩ ⟨Nat.le_of_ble_eq_true rfl, Nat.le_of_ble_eq_true rfl⟩ (c_X10_request l Y N0 ad sh u g0 hM a t (u 24 (2 * zn a)) (by omega)) (fun v9 ad9 sh9 g9 H locs hp hW => ?_)
          obtain ⟨rfl, rfl, rfl, rfl⟩ := hp
          obtain ⟨u_8, hu_8⟩ : ∃ z : zm_T, z = zs_rq u (zn a) t (u 24 (2 * zn a)) := ⟨_, rfl⟩
          rw [← hu_8] at hW
          refine lv_aload_n X.1 X.2.1 dX10_ask_57 rfl (lv_at hl 0 rfl) ?_
          refine zr_get (v := .ref (ad 25)) X hW fs_X10_74_9 dX10_ask_58 (zm_s0 hM) rfl rfl rfl ?_
          refine lv_iload_n X.1 X.2.1 dX10_ask_61 rfl (lv_at hl 1 rfl) ?_
          refine lv_dup2_11 X.1 X.2.1 dX10_ask_62 rfl rfl ?_
          refine zr_iald (v := u 25 (zn a)) X hW dX10_ask_63 (zm_s25 hM) rfl rfl (zi_vp (by omega)) ((show zm_mix u_8 g0 25 (a : Int32).toNatClampNeg = u_8 25 (zn a) from rfl).trans (show u_8 25 (zn a) = u 25 (zn a) from (by rw [hu_8]; rfl))) ?_
          refine lv_iconst (v := 1) X.1 X.2.1 dX10_ask_64 (by decide) ?_
          refine lv_iadd X.1 X.2.1 dX10_ask_65 ?_
          refine zr_iast X hW dX10_ask_66 (zm_s25 hM) rfl rfl (zi_vp (by omega)) (fun H locs hW => ?_)
          have hW : zw_St Y N0 ad sh (zm_mix (zm_w u_8 25 (zn a) ((u 25 (zn a)) + 1)) g0) s H locs := zm_st (by decide) hW
          obtain ⟨u_10, hu_10⟩ : ∃ z : zm_T, z = zm_w u_8 25 (zn a) ((u 25 (zn a)) + 1) := ⟨_, rfl⟩
          rw [← hu_10] at hW
          refine lv_aload_n X.1 X.2.1 dX10_ask_67 rfl (lv_at hl 0 rfl) ?_
          refine lv_aload_n X.1 X.2.1 dX10_ask_68 rfl (lv_at hl 0 rfl) ?_
          refine zr_get (v := .ref (ad 24)) X hW fs_X10_71_9 dX10_ask_69 (zm_s0 hM) rfl rfl rfl ?_
          refine lv_iconst (v := 2) X.1 X.2.1 dX10_ask_72 (by decide) ?_
          refine lv_iload_n X.1 X.2.1 dX10_ask_73 rfl (lv_at hl 1 rfl) ?_
          refine lv_imul X.1 X.2.1 dX10_ask_74 ?_
          have hx_11 := zi_ix2 a (by omega)
          obtain ⟨hx_11, hx_11n⟩ := hx_11
          refine zr_iald (v := u 24 (2 * zn a)) X hW dX10_ask_75 (zm_s24 hM) rfl rfl (zi_vp (by omega)) ((show zm_mix u_10 g0 24 (2 * a : Int32).toNatClampNeg = u_10 24 (2 * zn a) from (by rw [hx_11n]; rfl)).trans ((show u_10 24 (2 * zn a) = u_8 24 (2 * zn a) from (by rw [hu_10]; rfl)).trans (show u_8 24 (2 * zn a) = u 24 (2 * zn a) from (by rw [hu_8]; rfl)))) ?_
          refine lv_iload_n X.1 X.2.1 dX10_ask_76 rfl (lv_at hl 1 rfl) ?_
          refine lv_aload_n X.1 X.2.1 dX10_ask_77 rfl (lv_at hl 0 rfl) ?_
          refine zr_get (v := .ref (ad 1)) X hW fs_X10_7_9 dX10_ask_78 (zm_s0 hM) rfl rfl rfl ?_
          refine lv_iload_n X.1 X.2.1 dX10_ask_81 rfl (lv_at hl 1 rfl) ?_
          refine zr_iald (v := u 1 (zn a)) X hW dX10_ask_82 (zm_s1 hM) rfl rfl (zi_vp (by omega)) ((show zm_mix u_10 g0 1 (a : Int32).toNatClampNeg = u_10 1 (zn a) from rfl).trans ((show u_10 1 (zn a) = u_8 1 (zn a) from (by rw [hu_10]; rfl)).trans (show u_8 1 (zn a) = u 1 (zn a) from (by rw [hu_8]; rfl)))) ?_
          refine lv_aload_n X.1 X.2.1 dX10_ask_83 rfl (lv_at hl 0 rfl) ?_
          refine zr_get (v := .ref (ad 25)) X hW fs_X10_74_9 dX10_ask_84 (zm_s0 hM) rfl rfl rfl ?_
          refine lv_iload_n X.1 X.2.1 dX10_ask_87 rfl (lv_at hl 1 rfl) ?_
          refine zr_iald (v := (u 25 (zn a)) + 1) X hW dX10_ask_88 (zm_s25 hM) rfl rfl (zi_vp (by omega)) ((show zm_mix u_10 g0 25 (a : Int32).toNatClampNeg = u_10 25 (zn a) from rfl).trans (show u_10 25 (zn a) = (u 25 (zn a)) + 1 from (by rw [hu_10]; exact zm_ws _ _ _ _))) ?_
          refine zr_callV (As := [.int (u 24 (2 * zn a)), .int a, .int (u 1 (zn a)), .int ((u 25 (zn a)) + 1)]) (rest := []) X hW hl.1 md_X10_makeClaim ms_X10_123 dX10_ask_89 (zm_s0 hM) rfl rfl rfl rfl (Nat.le_of_ble_eq_true rfl) ⟨Nat.le_of_ble_eq_true rfl, Nat.le_of_ble_eq_true rfl⟩ ⟨Nat.le_of_ble_eq_true rfl, Nat.le_of_ble_eq_true rfl⟩ (c_X10_makeClaim l Y N0 ad sh u_10 g0 hM (u 24 (2 * zn a)) a (u 1 (zn a)) ((u 25 (zn a)) + 1) (by rw [((show u_10 0 8 = u_8 0 8 from (by rw [hu_10]; rfl)).trans (show u_8 0 8 = u 0 8 from (by rw [hu_8]; rfl)))]; omega)) (fun v9 ad9 sh9 g9 H locs hp hW => ?_)
          obtain ⟨rfl, rfl, _, rfl, rfl, rfl⟩ := hp
          obtain ⟨u_13, hu_13⟩ : ∃ z : zm_T, z = zs_mk u_10 (zs_v 4 (u 24 (2 * zn a)) a (-1) (u 1 (zn a)) ((u 25 (zn a)) + 1) 0 0 0 0) := ⟨_, rfl⟩
          rw [← hu_13] at hW
          rw [((show u_10 0 8 = u_8 0 8 from (by rw [hu_10]; rfl)).trans (show u_8 0 8 = u 0 8 from (by rw [hu_8]; rfl)))]
          have e9 : sp_ask a t u = (u 0 8, u_13) := (by subst hu_13 hu_10 hu_8; unfold sp_ask; (repeat (first | refine (if_pos (by omega)).trans ?_ | refine (if_neg (by omega)).trans ?_)); rfl)
          exact zr_iret X hW dX10_ask_92 (Nat.le_refl _) (Nat.le_refl _) ⟨rfl, rfl, by rw [e9], by rw [e9]⟩
        · refine lv_bipush (v := (-7)) X.1 X.2.1 dX10_ask_40 (by decide) ?_
          have e9 : sp_ask a t u = ((-7), u) := (by unfold sp_ask; (repeat (first | refine (if_pos (by omega)).trans ?_ | refine (if_neg (by omega)).trans ?_)); rfl)
          exact zr_iret X hW dX10_ask_42 (Nat.le_refl _) (Nat.le_refl _) ⟨rfl, rfl, by rw [e9], by rw [e9]⟩
      · subst h9
        have h_4 : ¬ (zi_in t 0 1) := h_4
        refine zr_if_ne (a := 0) (tgt := 30) X dX10_ask_25 (by decide) (by decide) (fun c9 => absurd c9 (by decide)) (fun _ => ?_)
        refine lv_iconst (v := (-1)) X.1 X.2.1 dX10_ask_28 (by decide) ?_
        have e9 : sp_ask a t u = ((-1), u) := (by unfold sp_ask; (repeat (first | refine (if_pos (by omega)).trans ?_ | refine (if_neg (by omega)).trans ?_)); rfl)
        exact zr_iret X hW dX10_ask_29 (Nat.le_refl _) (Nat.le_refl _) ⟨rfl, rfl, by rw [e9], by rw [e9]⟩
  · subst h9
    have h_1 : ¬ (zs_us a) := h_1
    refine zr_if_eq (a := 0) (tgt := 28) X dX10_ask_5 (by decide) (by decide) (fun _ => ?_) (fun c9 => absurd c9 (by decide))
    refine lv_iconst (v := (-1)) X.1 X.2.1 dX10_ask_28 (by decide) ?_
    have e9 : sp_ask a t u = ((-1), u) := (by unfold sp_ask; (repeat (first | refine (if_pos (by omega)).trans ?_ | refine (if_neg (by omega)).trans ?_)); rfl)
    exact zr_iret X hW dX10_ask_29 (Nat.le_refl _) (Nat.le_refl _) ⟨rfl, rfl, by rw [e9], by rw [e9]⟩

set_option maxHeartbeats 4000000 in
set_option maxRecDepth 100000 in
theorem c_X10_receive (l : Launch) (Y : zw_Y) (N0 : Nat) (ad : Nat → Nat) (sh : Nat → Option zw_Sh) (u g0 : zm_T) (hM : zm_S sh) (a q t : Int32) (hI : zm_I u) : zw_Met l Y N0 yX10_receive cX10_receive 4 (some .boolean) 2 45 0 0 ad sh (zm_mix u g0) [.ref (ad 0), .int a, .int q, .int t] (zp_S ad sh g0 (sp_receive a q t u)) := by
  refine zw_meth (by decide) (Nat.le_of_ble_eq_true rfl) ?_
  intro p e s m below meth c ls X hnm hl hW
  have hl : lv_has ls 4 [(0, .ref (ad 0)), (1, .int a), (2, .int q), (3, .int t)] := hl
  have hse := zI_se hI
  have hke := zI_ke hI
  have hs1 := zi_sub (u 0 8) 1 (by rw [show (1 : Int32).toInt = 1 from rfl]; omega)
  rw [show (1 : Int32).toInt = 1 from rfl] at hs1
  refine lv_aload_n X.1 X.2.1 dX10_receive_0 rfl (lv_at hl 0 rfl) ?_
  refine lv_iload_n X.1 X.2.1 dX10_receive_1 rfl (lv_at hl 1 rfl) ?_
  refine zr_callV (As := [.int a]) (rest := []) X hW hl.1 md_X10_user ms_X10_112 dX10_receive_2 (zm_s0 hM) rfl rfl rfl rfl (Nat.le_of_ble_eq_true rfl) ⟨Nat.le_of_ble_eq_true rfl, Nat.le_of_ble_eq_true rfl⟩ ⟨Nat.le_of_ble_eq_true rfl, Nat.le_of_ble_eq_true rfl⟩ (c_X10_user l Y N0 ad sh u g0 hM a) (fun v9 ad9 sh9 g9 H locs hp hW => ?_)
  rcases hp with ⟨rfl, rfl, rfl, ⟨h_1, h9⟩ | ⟨h_1, h9⟩⟩
  · subst h9
    have h_1 : zs_us a := h_1
    refine zr_if_eq (a := 1) (tgt := 31) X dX10_receive_5 (by decide) (by decide) (fun c9 => absurd c9 (by decide)) (fun _ => ?_)
    refine lv_aload_n X.1 X.2.1 dX10_receive_8 rfl (lv_at hl 0 rfl) ?_
    refine zr_get (v := .ref (ad 20)) X hW fs_X10_59_9 dX10_receive_9 (zm_s0 hM) rfl rfl rfl ?_
    refine lv_iload_n X.1 X.2.1 dX10_receive_12 rfl (lv_at hl 1 rfl) ?_
    refine zr_iald (v := u 20 (zn a)) X hW dX10_receive_13 (zm_s20 hM) rfl rfl (zi_vp (by omega)) rfl ?_
    refine zr_if_eq (a := (u 20 (zn a)).toInt) (tgt := 31) X dX10_receive_14 (by decide) rfl (fun c_2 => ?_) (fun c_2 => ?_)
    · refine lv_iconst (v := 0) X.1 X.2.1 dX10_receive_31 (by decide) ?_
      have e9 : sp_receive a q t u = (0, u) := (by unfold sp_receive; (repeat (first | refine (if_pos (by omega)).trans ?_ | refine (if_neg (by omega)).trans ?_)); rfl)
      exact zr_zret X hW dX10_receive_32 (Nat.le_refl _) (Nat.le_refl _) rfl ⟨rfl, rfl, by rw [e9], by rw [e9]⟩
    · refine lv_iload_n X.1 X.2.1 dX10_receive_17 rfl (lv_at hl 3 rfl) ?_
      refine lv_iconst (v := 0) X.1 X.2.1 dX10_receive_18 (by decide) ?_
      refine lv_aload_n X.1 X.2.1 dX10_receive_19 rfl (lv_at hl 0 rfl) ?_
      refine zr_get (v := .int (u 0 8)) X hW fs_X10_102_9 dX10_receive_20 (zm_s0 hM) rfl rfl rfl ?_
      refine lv_iconst (v := 1) X.1 X.2.1 dX10_receive_23 (by decide) ?_
      refine lv_isub X.1 X.2.1 dX10_receive_24 ?_
      refine zr_callS (As := [.int t, .int 0, .int ((u 0 8) - 1)]) (rest := []) X hW hl.1 md_X10_in ms_X10_87 dX10_receive_25 rfl rfl (Nat.le_of_ble_eq_true rfl) ⟨Nat.le_of_ble_eq_true rfl, Nat.le_of_ble_eq_true rfl⟩ ⟨Nat.le_of_ble_eq_true rfl, Nat.le_of_ble_eq_true rfl⟩ (c_X10_in l Y N0 ad sh (zm_mix u g0) t 0 ((u 0 8) - 1)) (fun v9 ad9 sh9 g9 H locs hp hW => ?_)
      rcases hp with ⟨rfl, rfl, rfl, ⟨h_3, h9⟩ | ⟨h_3, h9⟩⟩
      · subst h9
        have h_3 : zi_in t 0 ((u 0 8) - 1).toInt := h_3
        refine zr_if_ne (a := 1) (tgt := 33) X dX10_receive_28 (by decide) (by decide) (fun _ => ?_) (fun c9 => absurd c9 (by decide))
        refine lv_aload_n X.1 X.2.1 dX10_receive_33 rfl (lv_at hl 0 rfl) ?_
        refine lv_aload_n X.1 X.2.1 dX10_receive_34 rfl (lv_at hl 0 rfl) ?_
        refine zr_get (v := .ref (ad 22)) X hW fs_X10_65_9 dX10_receive_35 (zm_s0 hM) rfl rfl rfl ?_
        refine lv_iload_n X.1 X.2.1 dX10_receive_38 rfl (lv_at hl 1 rfl) ?_
        refine zr_iald (v := u 22 (zn a)) X hW dX10_receive_39 (zm_s22 hM) rfl rfl (zi_vp (by omega)) rfl ?_
        refine lv_iload_n X.1 X.2.1 dX10_receive_40 rfl (lv_at hl 2 rfl) ?_
        refine lv_iconst (v := 3) X.1 X.2.1 dX10_receive_41 (by decide) ?_
        refine zr_callV (As := [.int (u 22 (zn a)), .int q, .int 3]) (rest := []) X hW hl.1 md_X10_opens ms_X10_126 dX10_receive_42 (zm_s0 hM) rfl rfl rfl rfl (Nat.le_of_ble_eq_true rfl) ⟨Nat.le_of_ble_eq_true rfl, Nat.le_of_ble_eq_true rfl⟩ ⟨Nat.le_of_ble_eq_true rfl, Nat.le_of_ble_eq_true rfl⟩ (c_X10_opens l Y N0 ad sh u g0 hM (u 22 (zn a)) q 3 hI) (fun v9 ad9 sh9 g9 H locs hp hW => ?_)
        rcases hp with ⟨rfl, rfl, rfl, ⟨h_4, h9⟩ | ⟨h_4, h9⟩⟩
        · subst h9
          have h_4 : zs_op u (u 22 (zn a)) q 3 := h_4
          refine zr_if_eq (a := 1) (tgt := 78) X dX10_receive_45 (by decide) (by decide) (fun c9 => absurd c9 (by decide)) (fun _ => ?_)
          refine lv_aload_n X.1 X.2.1 dX10_receive_48 rfl (lv_at hl 0 rfl) ?_
          refine zr_get (v := .ref (ad 13)) X hW fs_X10_41_9 dX10_receive_49 (zm_s0 hM) rfl rfl rfl ?_
          refine lv_iload_n X.1 X.2.1 dX10_receive_52 rfl (lv_at hl 2 rfl) ?_
          refine zr_iald (v := u 13 (zn q)) X hW dX10_receive_53 (zm_s13 hM) rfl rfl (zi_vp (by omega)) rfl ?_
          refine lv_aload_n X.1 X.2.1 dX10_receive_54 rfl (lv_at hl 0 rfl) ?_
          refine zr_get (v := .ref (ad 20)) X hW fs_X10_59_9 dX10_receive_55 (zm_s0 hM) rfl rfl rfl ?_
          refine lv_iload_n X.1 X.2.1 dX10_receive_58 rfl (lv_at hl 1 rfl) ?_
          refine zr_iald (v := u 20 (zn a)) X hW dX10_receive_59 (zm_s20 hM) rfl rfl (zi_vp (by omega)) rfl ?_
          refine zr_icmp_ne (a := (u 13 (zn q)).toInt) (b := (u 20 (zn a)).toInt) (tgt := 78) X dX10_receive_60 (by decide) rfl rfl (fun c_5 => ?_) (fun c_5 => ?_)
          · refine lv_iconst (v := 0) X.1 X.2.1 dX10_receive_78 (by decide) ?_
            have e9 : sp_receive a q t u = (0, u) := (by unfold sp_receive; (repeat (first | refine (if_pos (by omega)).trans ?_ | refine (if_neg (by omega)).trans ?_)); rfl)
            exact zr_zret X hW dX10_receive_79 (Nat.le_refl _) (Nat.le_refl _) rfl ⟨rfl, rfl, by rw [e9], by rw [e9]⟩
          · refine lv_aload_n X.1 X.2.1 dX10_receive_63 rfl (lv_at hl 0 rfl) ?_
            refine zr_get (v := .ref (ad 14)) X hW fs_X10_44_9 dX10_receive_64 (zm_s0 hM) rfl rfl rfl ?_
            refine lv_iload_n X.1 X.2.1 dX10_receive_67 rfl (lv_at hl 2 rfl) ?_
            refine zr_iald (v := u 14 (zn q)) X hW dX10_receive_68 (zm_s14 hM) rfl rfl (zi_vp (by omega)) rfl ?_
            refine lv_aload_n X.1 X.2.1 dX10_receive_69 rfl (lv_at hl 0 rfl) ?_
            refine zr_get (v := .ref (ad 21)) X hW fs_X10_62_9 dX10_receive_70 (zm_s0 hM) rfl rfl rfl ?_
            refine lv_iload_n X.1 X.2.1 dX10_receive_73 rfl (lv_at hl 1 rfl) ?_
            refine zr_iald (v := u 21 (zn a)) X hW dX10_receive_74 (zm_s21 hM) rfl rfl (zi_vp (by omega)) rfl ?_
            refine zr_icmp_eq (a := (u 14 (zn q)).toInt) (b := (u 21 (zn a)).toInt) (tgt := 80) X dX10_receive_75 (by decide) rfl rfl (fun c_6 => ?_) (fun c_6 => ?_)
            · have htg := zI_tg hI (zn a) (by rw [zi_n]; omega)
              refine lv_aload_n X.1 X.2.1 dX10_receive_80 rfl (lv_at hl 0 rfl) ?_
              refine zr_get (v := .ref (ad 23)) X hW fs_X10_68_9 dX10_receive_81 (zm_s0 hM) rfl rfl rfl ?_
              refine lv_iconst (v := 2) X.1 X.2.1 dX10_receive_84 (by decide) ?_
              refine lv_iload_n X.1 X.2.1 dX10_receive_85 rfl (lv_at hl 1 rfl) ?_
              refine lv_imul X.1 X.2.1 dX10_receive_86 ?_
              refine lv_aload_n X.1 X.2.1 dX10_receive_87 rfl (lv_at hl 0 rfl) ?_
              refine zr_get (v := .ref (ad 21)) X hW fs_X10_62_9 dX10_receive_88 (zm_s0 hM) rfl rfl rfl ?_
              refine lv_iload_n X.1 X.2.1 dX10_receive_91 rfl (lv_at hl 1 rfl) ?_
              refine zr_iald (v := u 21 (zn a)) X hW dX10_receive_92 (zm_s21 hM) rfl rfl (zi_vp (by omega)) rfl ?_
              refine lv_iadd X.1 X.2.1 dX10_receive_93 ?_
              refine lv_iload_n X.1 X.2.1 dX10_receive_94 rfl (lv_at hl 3 rfl) ?_
              have hx_7 := zi_ix2t a ((u 21 (zn a))) (by omega) (by omega)
              obtain ⟨hx_7, hx_7n⟩ := hx_7
              refine zr_iast X hW dX10_receive_95 (zm_s23 hM) rfl rfl (zi_vp (by omega)) (fun H locs hW => ?_)
              rw [hx_7n] at hW
              have hW : zw_St Y N0 ad sh (zm_mix (zm_w u 23 (2 * zn a + zn ((u 21 (zn a)))) t) g0) s H locs := zm_st (by decide) hW
              obtain ⟨u_8, hu_8⟩ : ∃ z : zm_T, z = zm_w u 23 (2 * zn a + zn ((u 21 (zn a)))) t := ⟨_, rfl⟩
              rw [← hu_8] at hW
              refine lv_aload_n X.1 X.2.1 dX10_receive_96 rfl (lv_at hl 0 rfl) ?_
              refine zr_get (v := .ref (ad 24)) X hW fs_X10_71_9 dX10_receive_97 (zm_s0 hM) rfl rfl rfl ?_
              refine lv_iconst (v := 2) X.1 X.2.1 dX10_receive_100 (by decide) ?_
              refine lv_iload_n X.1 X.2.1 dX10_receive_101 rfl (lv_at hl 1 rfl) ?_
              refine lv_imul X.1 X.2.1 dX10_receive_102 ?_
              refine lv_aload_n X.1 X.2.1 dX10_receive_103 rfl (lv_at hl 0 rfl) ?_
              refine zr_get (v := .ref (ad 21)) X hW fs_X10_62_9 dX10_receive_104 (zm_s0 hM) rfl rfl rfl ?_
              refine lv_iload_n X.1 X.2.1 dX10_receive_107 rfl (lv_at hl 1 rfl) ?_
              refine zr_iald (v := u 21 (zn a)) X hW dX10_receive_108 (zm_s21 hM) rfl rfl (zi_vp (by omega)) ((show zm_mix u_8 g0 21 (a : Int32).toNatClampNeg = u_8 21 (zn a) from rfl).trans (show u_8 21 (zn a) = u 21 (zn a) from (by rw [hu_8]; rfl))) ?_
              refine lv_iadd X.1 X.2.1 dX10_receive_109 ?_
              refine lv_aload_n X.1 X.2.1 dX10_receive_110 rfl (lv_at hl 0 rfl) ?_
              refine zr_get (v := .ref (ad 12)) X hW fs_X10_38_9 dX10_receive_111 (zm_s0 hM) rfl rfl rfl ?_
              refine lv_iload_n X.1 X.2.1 dX10_receive_114 rfl (lv_at hl 2 rfl) ?_
              refine zr_iald (v := u 12 (zn q)) X hW dX10_receive_115 (zm_s12 hM) rfl rfl (zi_vp (by omega)) ((show zm_mix u_8 g0 12 (q : Int32).toNatClampNeg = u_8 12 (zn q) from rfl).trans (show u_8 12 (zn q) = u 12 (zn q) from (by rw [hu_8]; rfl))) ?_
              have hx_9 := zi_ix2t a ((u 21 (zn a))) (by omega) (by omega)
              obtain ⟨hx_9, hx_9n⟩ := hx_9
              refine zr_iast X hW dX10_receive_116 (zm_s24 hM) rfl rfl (zi_vp (by omega)) (fun H locs hW => ?_)
              rw [hx_9n] at hW
              have hW : zw_St Y N0 ad sh (zm_mix (zm_w u_8 24 (2 * zn a + zn ((u 21 (zn a)))) (u 12 (zn q))) g0) s H locs := zm_st (by decide) hW
              obtain ⟨u_10, hu_10⟩ : ∃ z : zm_T, z = zm_w u_8 24 (2 * zn a + zn ((u 21 (zn a)))) (u 12 (zn q)) := ⟨_, rfl⟩
              rw [← hu_10] at hW
              refine lv_aload_n X.1 X.2.1 dX10_receive_117 rfl (lv_at hl 0 rfl) ?_
              refine zr_get (v := .ref (ad 20)) X hW fs_X10_59_9 dX10_receive_118 (zm_s0 hM) rfl rfl rfl ?_
              refine lv_iload_n X.1 X.2.1 dX10_receive_121 rfl (lv_at hl 1 rfl) ?_
              refine lv_iconst (v := 0) X.1 X.2.1 dX10_receive_122 (by decide) ?_
              refine zr_iast X hW dX10_receive_123 (zm_s20 hM) rfl rfl (zi_vp (by omega)) (fun H locs hW => ?_)
              have hW : zw_St Y N0 ad sh (zm_mix (zm_w u_10 20 (zn a) 0) g0) s H locs := zm_st (by decide) hW
              obtain ⟨u_11, hu_11⟩ : ∃ z : zm_T, z = zm_w u_10 20 (zn a) 0 := ⟨_, rfl⟩
              rw [← hu_11] at hW
              refine lv_iconst (v := 1) X.1 X.2.1 dX10_receive_124 (by decide) ?_
              have e9 : sp_receive a q t u = (1, u_11) := (by subst hu_11 hu_10 hu_8; unfold sp_receive; (repeat (first | refine (if_pos (by omega)).trans ?_ | refine (if_neg (by omega)).trans ?_)); rfl)
              exact zr_zret X hW dX10_receive_125 (Nat.le_refl _) (Nat.le_refl _) rfl ⟨rfl, rfl, by rw [e9], by rw [e9]⟩
            · refine lv_iconst (v := 0) X.1 X.2.1 dX10_receive_78 (by decide) ?_
              have e9 : sp_receive a q t u = (0, u) := (by unfold sp_receive; (repeat (first | refine (if_pos (by omega)).trans ?_ | refine (if_neg (by omega)).trans ?_)); rfl)
              exact zr_zret X hW dX10_receive_79 (Nat.le_refl _) (Nat.le_refl _) rfl ⟨rfl, rfl, by rw [e9], by rw [e9]⟩
        · subst h9
          have h_4 : ¬ (zs_op u (u 22 (zn a)) q 3) := h_4
          refine zr_if_eq (a := 0) (tgt := 78) X dX10_receive_45 (by decide) (by decide) (fun _ => ?_) (fun c9 => absurd c9 (by decide))
          refine lv_iconst (v := 0) X.1 X.2.1 dX10_receive_78 (by decide) ?_
          have e9 : sp_receive a q t u = (0, u) := (by unfold sp_receive; (repeat (first | refine (if_pos (by omega)).trans ?_ | refine (if_neg (by omega)).trans ?_)); rfl)
          exact zr_zret X hW dX10_receive_79 (Nat.le_refl _) (Nat.le_refl _) rfl ⟨rfl, rfl, by rw [e9], by rw [e9]⟩
      · subst h9
        have h_3 : ¬ (zi_in t 0 ((u 0 8) - 1).toInt) := h_3
        refine zr_if_ne (a := 0) (tgt := 33) X dX10_receive_28 (by decide) (by decide) (fun c9 => absurd c9 (by decide)) (fun _ => ?_)
        refine lv_iconst (v := 0) X.1 X.2.1 dX10_receive_31 (by decide) ?_
        have e9 : sp_receive a q t u = (0, u) := (by unfold sp_receive; (repeat (first | refine (if_pos (by omega)).trans ?_ | refine (if_neg (by omega)).trans ?_)); rfl)
        exact zr_zret X hW dX10_receive_32 (Nat.le_refl _) (Nat.le_refl _) rfl ⟨rfl, rfl, by rw [e9], by rw [e9]⟩
  · subst h9
    have h_1 : ¬ (zs_us a) := h_1
    refine zr_if_eq (a := 0) (tgt := 31) X dX10_receive_5 (by decide) (by decide) (fun _ => ?_) (fun c9 => absurd c9 (by decide))
    refine lv_iconst (v := 0) X.1 X.2.1 dX10_receive_31 (by decide) ?_
    have e9 : sp_receive a q t u = (0, u) := (by unfold sp_receive; (repeat (first | refine (if_pos (by omega)).trans ?_ | refine (if_neg (by omega)).trans ?_)); rfl)
    exact zr_zret X hW dX10_receive_32 (Nat.le_refl _) (Nat.le_refl _) rfl ⟨rfl, rfl, by rw [e9], by rw [e9]⟩

set_option maxHeartbeats 4000000 in
set_option maxRecDepth 100000 in
theorem c_X10_order (l : Launch) (Y : zw_Y) (N0 : Nat) (ad : Nat → Nat) (sh : Nat → Option zw_Sh) (u g0 : zm_T) (hM : zm_S sh) (a o f x : Int32) (hI : zm_I u) : zw_Met l Y N0 yX10_order cX10_order 6 (some .int) 2 49 0 0 ad sh (zm_mix u g0) [.ref (ad 0), .int a, .int o, .int f, .int x] (zp_S ad sh g0 (sp_order a o f x u)) := by
  refine zw_meth (by decide) (Nat.le_of_ble_eq_true rfl) ?_
  intro p e s m below meth c ls X hnm hl hW
  have hl : lv_has ls 6 [(0, .ref (ad 0)), (1, .int a), (2, .int o), (3, .int f), (4, .int x)] := hl
  have hse := zI_se hI
  have hke := zI_ke hI
  have hs1 := zi_sub (u 0 8) 1 (by rw [show (1 : Int32).toInt = 1 from rfl]; omega)
  rw [show (1 : Int32).toInt = 1 from rfl] at hs1
  refine lv_aload_n X.1 X.2.1 dX10_order_0 rfl (lv_at hl 0 rfl) ?_
  refine lv_iload_n X.1 X.2.1 dX10_order_1 rfl (lv_at hl 1 rfl) ?_
  refine zr_callV (As := [.int a]) (rest := []) X hW hl.1 md_X10_user ms_X10_112 dX10_order_2 (zm_s0 hM) rfl rfl rfl rfl (Nat.le_of_ble_eq_true rfl) ⟨Nat.le_of_ble_eq_true rfl, Nat.le_of_ble_eq_true rfl⟩ ⟨Nat.le_of_ble_eq_true rfl, Nat.le_of_ble_eq_true rfl⟩ (c_X10_user l Y N0 ad sh u g0 hM a) (fun v9 ad9 sh9 g9 H locs hp hW => ?_)
  rcases hp with ⟨rfl, rfl, rfl, ⟨h_1, h9⟩ | ⟨h_1, h9⟩⟩
  · subst h9
    have h_1 : zs_us a := h_1
    refine zr_if_eq (a := 1) (tgt := 39) X dX10_order_5 (by decide) (by decide) (fun c9 => absurd c9 (by decide)) (fun _ => ?_)
    refine lv_aload_n X.1 X.2.1 dX10_order_8 rfl (lv_at hl 0 rfl) ?_
    refine zr_get (v := .ref (ad 23)) X hW fs_X10_68_9 dX10_order_9 (zm_s0 hM) rfl rfl rfl ?_
    refine lv_iconst (v := 2) X.1 X.2.1 dX10_order_12 (by decide) ?_
    refine lv_iload_n X.1 X.2.1 dX10_order_13 rfl (lv_at hl 1 rfl) ?_
    refine lv_imul X.1 X.2.1 dX10_order_14 ?_
    refine lv_iconst (v := 1) X.1 X.2.1 dX10_order_15 (by decide) ?_
    refine lv_iadd X.1 X.2.1 dX10_order_16 ?_
    have hx_2 := zi_ix21 a (by omega)
    obtain ⟨hx_2, hx_2n⟩ := hx_2
    refine zr_iald (v := u 23 (2 * zn a + 1)) X hW dX10_order_17 (zm_s23 hM) rfl rfl (zi_vp (by omega)) (by rw [hx_2n]; rfl) ?_
    refine zr_if_lt (a := (u 23 (2 * zn a + 1)).toInt) (tgt := 39) X dX10_order_18 (by decide) rfl (fun c_3 => ?_) (fun c_3 => ?_)
    · refine lv_iconst (v := (-1)) X.1 X.2.1 dX10_order_39 (by decide) ?_
      have e9 : sp_order a o f x u = ((-1), u) := (by unfold sp_order; (repeat (first | refine (if_pos (by omega)).trans ?_ | refine (if_neg (by omega)).trans ?_)); first | rfl | exact Prod.ext rfl (zs_mk3 rfl).symm)
      exact zr_iret X hW dX10_order_40 (Nat.le_refl _) (Nat.le_refl _) ⟨rfl, rfl, by rw [e9], by rw [e9]⟩
    · refine lv_iload_n X.1 X.2.1 dX10_order_21 rfl (lv_at hl 2 rfl) ?_
      refine lv_iconst (v := 1) X.1 X.2.1 dX10_order_22 (by decide) ?_
      refine lv_iconst (v := 3) X.1 X.2.1 dX10_order_23 (by decide) ?_
      refine zr_callS (As := [.int o, .int 1, .int 3]) (rest := []) X hW hl.1 md_X10_in ms_X10_87 dX10_order_24 rfl rfl (Nat.le_of_ble_eq_true rfl) ⟨Nat.le_of_ble_eq_true rfl, Nat.le_of_ble_eq_true rfl⟩ ⟨Nat.le_of_ble_eq_true rfl, Nat.le_of_ble_eq_true rfl⟩ (c_X10_in l Y N0 ad sh (zm_mix u g0) o 1 3) (fun v9 ad9 sh9 g9 H locs hp hW => ?_)
      rcases hp with ⟨rfl, rfl, rfl, ⟨h_4, h9⟩ | ⟨h_4, h9⟩⟩
      · subst h9
        have h_4 : zi_in o 1 3 := h_4
        refine zr_if_eq (a := 1) (tgt := 39) X dX10_order_27 (by decide) (by decide) (fun c9 => absurd c9 (by decide)) (fun _ => ?_)
        refine lv_iload_n X.1 X.2.1 dX10_order_30 rfl (lv_at hl 3 rfl) ?_
        refine lv_iconst (v := 0) X.1 X.2.1 dX10_order_31 (by decide) ?_
        refine lv_iconst (v := 2) X.1 X.2.1 dX10_order_32 (by decide) ?_
        refine zr_callS (As := [.int f, .int 0, .int 2]) (rest := []) X hW hl.1 md_X10_in ms_X10_87 dX10_order_33 rfl rfl (Nat.le_of_ble_eq_true rfl) ⟨Nat.le_of_ble_eq_true rfl, Nat.le_of_ble_eq_true rfl⟩ ⟨Nat.le_of_ble_eq_true rfl, Nat.le_of_ble_eq_true rfl⟩ (c_X10_in l Y N0 ad sh (zm_mix u g0) f 0 2) (fun v9 ad9 sh9 g9 H locs hp hW => ?_)
        rcases hp with ⟨rfl, rfl, rfl, ⟨h_5, h9⟩ | ⟨h_5, h9⟩⟩
        · subst h9
          have h_5 : zi_in f 0 2 := h_5
          refine zr_if_ne (a := 1) (tgt := 41) X dX10_order_36 (by decide) (by decide) (fun _ => ?_) (fun c9 => absurd c9 (by decide))
          refine lv_aload_n X.1 X.2.1 dX10_order_41 rfl (lv_at hl 0 rfl) ?_
          refine zr_get (v := .int (u 0 8)) X hW fs_X10_102_9 dX10_order_42 (zm_s0 hM) rfl rfl rfl ?_
          refine lv_sipush (v := 150) X.1 X.2.1 dX10_order_45 (by decide) ?_
          refine zr_icmp_lt (a := (u 0 8).toInt) (b := 150) (tgt := 54) X dX10_order_48 (by decide) rfl (by decide) (fun c_6 => ?_) (fun c_6 => ?_)
          · refine lv_aload_n X.1 X.2.1 dX10_order_54 rfl (lv_at hl 0 rfl) ?_
            refine zr_get (v := .ref (ad 25)) X hW fs_X10_74_9 dX10_order_55 (zm_s0 hM) rfl rfl rfl ?_
            refine lv_iload_n X.1 X.2.1 dX10_order_58 rfl (lv_at hl 1 rfl) ?_
            refine lv_dup2_11 X.1 X.2.1 dX10_order_59 rfl rfl ?_
            refine zr_iald (v := u 25 (zn a)) X hW dX10_order_60 (zm_s25 hM) rfl rfl (zi_vp (by omega)) rfl ?_
            refine lv_iconst (v := 1) X.1 X.2.1 dX10_order_61 (by decide) ?_
            refine lv_iadd X.1 X.2.1 dX10_order_62 ?_
            refine zr_iast X hW dX10_order_63 (zm_s25 hM) rfl rfl (zi_vp (by omega)) (fun H locs hW => ?_)
            have hW : zw_St Y N0 ad sh (zm_mix (zm_w u 25 (zn a) ((u 25 (zn a)) + 1)) g0) s H locs := zm_st (by decide) hW
            obtain ⟨u_7, hu_7⟩ : ∃ z : zm_T, z = zm_w u 25 (zn a) ((u 25 (zn a)) + 1) := ⟨_, rfl⟩
            rw [← hu_7] at hW
            refine lv_aload_n X.1 X.2.1 dX10_order_64 rfl (lv_at hl 0 rfl) ?_
            refine lv_aload_n X.1 X.2.1 dX10_order_65 rfl (lv_at hl 0 rfl) ?_
            refine zr_get (v := .ref (ad 24)) X hW fs_X10_71_9 dX10_order_66 (zm_s0 hM) rfl rfl rfl ?_
            refine lv_iconst (v := 2) X.1 X.2.1 dX10_order_69 (by decide) ?_
            refine lv_iload_n X.1 X.2.1 dX10_order_70 rfl (lv_at hl 1 rfl) ?_
            refine lv_imul X.1 X.2.1 dX10_order_71 ?_
            refine lv_iconst (v := 1) X.1 X.2.1 dX10_order_72 (by decide) ?_
            refine lv_iadd X.1 X.2.1 dX10_order_73 ?_
            have hx_8 := zi_ix21 a (by omega)
            obtain ⟨hx_8, hx_8n⟩ := hx_8
            refine zr_iald (v := u 24 (2 * zn a + 1)) X hW dX10_order_74 (zm_s24 hM) rfl rfl (zi_vp (by omega)) ((show zm_mix u_7 g0 24 ((2 * a) + 1 : Int32).toNatClampNeg = u_7 24 (2 * zn a + 1) from (by rw [hx_8n]; rfl)).trans (show u_7 24 (2 * zn a + 1) = u 24 (2 * zn a + 1) from (by rw [hu_7]; rfl))) ?_
            refine lv_iload_n X.1 X.2.1 dX10_order_75 rfl (lv_at hl 1 rfl) ?_
            refine lv_aload_n X.1 X.2.1 dX10_order_76 rfl (lv_at hl 0 rfl) ?_
            refine zr_get (v := .ref (ad 1)) X hW fs_X10_7_9 dX10_order_77 (zm_s0 hM) rfl rfl rfl ?_
            refine lv_iload_n X.1 X.2.1 dX10_order_80 rfl (lv_at hl 1 rfl) ?_
            refine zr_iald (v := u 1 (zn a)) X hW dX10_order_81 (zm_s1 hM) rfl rfl (zi_vp (by omega)) ((show zm_mix u_7 g0 1 (a : Int32).toNatClampNeg = u_7 1 (zn a) from rfl).trans (show u_7 1 (zn a) = u 1 (zn a) from (by rw [hu_7]; rfl))) ?_
            refine lv_aload_n X.1 X.2.1 dX10_order_82 rfl (lv_at hl 0 rfl) ?_
            refine zr_get (v := .ref (ad 25)) X hW fs_X10_74_9 dX10_order_83 (zm_s0 hM) rfl rfl rfl ?_
            refine lv_iload_n X.1 X.2.1 dX10_order_86 rfl (lv_at hl 1 rfl) ?_
            refine zr_iald (v := (u 25 (zn a)) + 1) X hW dX10_order_87 (zm_s25 hM) rfl rfl (zi_vp (by omega)) ((show zm_mix u_7 g0 25 (a : Int32).toNatClampNeg = u_7 25 (zn a) from rfl).trans (show u_7 25 (zn a) = (u 25 (zn a)) + 1 from (by rw [hu_7]; exact zm_ws _ _ _ _))) ?_
            refine zr_callV (As := [.int (u 24 (2 * zn a + 1)), .int a, .int (u 1 (zn a)), .int ((u 25 (zn a)) + 1)]) (rest := []) X hW hl.1 md_X10_makeClaim ms_X10_123 dX10_order_88 (zm_s0 hM) rfl rfl rfl rfl (Nat.le_of_ble_eq_true rfl) ⟨Nat.le_of_ble_eq_true rfl, Nat.le_of_ble_eq_true rfl⟩ ⟨Nat.le_of_ble_eq_true rfl, Nat.le_of_ble_eq_true rfl⟩ (c_X10_makeClaim l Y N0 ad sh u_7 g0 hM (u 24 (2 * zn a + 1)) a (u 1 (zn a)) ((u 25 (zn a)) + 1) (by rw [(show u_7 0 8 = u 0 8 from (by rw [hu_7]; rfl))]; omega)) (fun v9 ad9 sh9 g9 H locs hp hW => ?_)
            obtain ⟨rfl, rfl, _, rfl, rfl, rfl⟩ := hp
            obtain ⟨u_10, hu_10⟩ : ∃ z : zm_T, z = zs_mk u_7 (zs_v 4 (u 24 (2 * zn a + 1)) a (-1) (u 1 (zn a)) ((u 25 (zn a)) + 1) 0 0 0 0) := ⟨_, rfl⟩
            rw [← hu_10] at hW
            rw [(show u_7 0 8 = u 0 8 from (by rw [hu_7]; rfl))]
            refine lv_istore (lv' := [(5, .int (u 0 8)), (0, .ref (ad 0)), (1, .int a), (2, .int o), (3, .int f), (4, .int x)]) X.1 X.2.1 dX10_order_91 hl (by decide) rfl (fun ls hl => ?_)
            refine lv_aload_n X.1 X.2.1 dX10_order_93 rfl (lv_at hl 1 rfl) ?_
            refine zr_get (v := .ref (ad 16)) X hW fs_X10_50_9 dX10_order_94 (zm_s0 hM) rfl rfl rfl ?_
            refine lv_iload X.1 X.2.1 dX10_order_97 (lv_at hl 0 rfl) ?_
            refine lv_iload_n X.1 X.2.1 dX10_order_99 rfl (lv_at hl 3 rfl) ?_
            refine zr_iast X hW dX10_order_100 (zm_s16 hM) rfl rfl (zi_vp (by omega)) (fun H locs hW => ?_)
            have hW : zw_St Y N0 ad sh (zm_mix (zm_w u_10 16 (zn (u 0 8)) o) g0) s H locs := zm_st (by decide) hW
            obtain ⟨u_12, hu_12⟩ : ∃ z : zm_T, z = zm_w u_10 16 (zn (u 0 8)) o := ⟨_, rfl⟩
            rw [← hu_12] at hW
            refine lv_aload_n X.1 X.2.1 dX10_order_101 rfl (lv_at hl 1 rfl) ?_
            refine zr_get (v := .ref (ad 17)) X hW fs_X10_53_9 dX10_order_102 (zm_s0 hM) rfl rfl rfl ?_
            refine lv_iload X.1 X.2.1 dX10_order_105 (lv_at hl 0 rfl) ?_
            refine lv_iload_n X.1 X.2.1 dX10_order_107 rfl (lv_at hl 4 rfl) ?_
            refine zr_iast X hW dX10_order_108 (zm_s17 hM) rfl rfl (zi_vp (by omega)) (fun H locs hW => ?_)
            have hW : zw_St Y N0 ad sh (zm_mix (zm_w u_12 17 (zn (u 0 8)) f) g0) s H locs := zm_st (by decide) hW
            obtain ⟨u_13, hu_13⟩ : ∃ z : zm_T, z = zm_w u_12 17 (zn (u 0 8)) f := ⟨_, rfl⟩
            rw [← hu_13] at hW
            refine lv_aload_n X.1 X.2.1 dX10_order_109 rfl (lv_at hl 1 rfl) ?_
            refine zr_get (v := .ref (ad 18)) X hW fs_X10_56_9 dX10_order_110 (zm_s0 hM) rfl rfl rfl ?_
            refine lv_iload X.1 X.2.1 dX10_order_113 (lv_at hl 0 rfl) ?_
            refine lv_iload X.1 X.2.1 dX10_order_115 (lv_at hl 5 rfl) ?_
            refine zr_iast X hW dX10_order_117 (zm_s18 hM) rfl rfl (zi_vp (by omega)) (fun H locs hW => ?_)
            have hW : zw_St Y N0 ad sh (zm_mix (zm_w u_13 18 (zn (u 0 8)) x) g0) s H locs := zm_st (by decide) hW
            obtain ⟨u_14, hu_14⟩ : ∃ z : zm_T, z = zm_w u_13 18 (zn (u 0 8)) x := ⟨_, rfl⟩
            rw [← hu_14] at hW
            refine lv_iload X.1 X.2.1 dX10_order_118 (lv_at hl 0 rfl) ?_
            have e9 : sp_order a o f x u = (u 0 8, u_14) := (by subst hu_14 hu_13 hu_12 hu_10 hu_7; unfold sp_order; (repeat (first | refine (if_pos (by omega)).trans ?_ | refine (if_neg (by omega)).trans ?_)); first | rfl | exact Prod.ext rfl (zs_mk3 rfl).symm)
            exact zr_iret X hW dX10_order_120 (Nat.le_refl _) (Nat.le_refl _) ⟨rfl, rfl, by rw [e9], by rw [e9]⟩
          · refine lv_bipush (v := (-7)) X.1 X.2.1 dX10_order_51 (by decide) ?_
            have e9 : sp_order a o f x u = ((-7), u) := (by unfold sp_order; (repeat (first | refine (if_pos (by omega)).trans ?_ | refine (if_neg (by omega)).trans ?_)); first | rfl | exact Prod.ext rfl (zs_mk3 rfl).symm)
            exact zr_iret X hW dX10_order_53 (Nat.le_refl _) (Nat.le_refl _) ⟨rfl, rfl, by rw [e9], by rw [e9]⟩
        · subst h9
          have h_5 : ¬ (zi_in f 0 2) := h_5
          refine zr_if_ne (a := 0) (tgt := 41) X dX10_order_36 (by decide) (by decide) (fun c9 => absurd c9 (by decide)) (fun _ => ?_)
          refine lv_iconst (v := (-1)) X.1 X.2.1 dX10_order_39 (by decide) ?_
          have e9 : sp_order a o f x u = ((-1), u) := (by unfold sp_order; (repeat (first | refine (if_pos (by omega)).trans ?_ | refine (if_neg (by omega)).trans ?_)); first | rfl | exact Prod.ext rfl (zs_mk3 rfl).symm)
          exact zr_iret X hW dX10_order_40 (Nat.le_refl _) (Nat.le_refl _) ⟨rfl, rfl, by rw [e9], by rw [e9]⟩
      · subst h9
        have h_4 : ¬ (zi_in o 1 3) := h_4
        refine zr_if_eq (a := 0) (tgt := 39) X dX10_order_27 (by decide) (by decide) (fun _ => ?_) (fun c9 => absurd c9 (by decide))
        refine lv_iconst (v := (-1)) X.1 X.2.1 dX10_order_39 (by decide) ?_
        have e9 : sp_order a o f x u = ((-1), u) := (by unfold sp_order; (repeat (first | refine (if_pos (by omega)).trans ?_ | refine (if_neg (by omega)).trans ?_)); first | rfl | exact Prod.ext rfl (zs_mk3 rfl).symm)
        exact zr_iret X hW dX10_order_40 (Nat.le_refl _) (Nat.le_refl _) ⟨rfl, rfl, by rw [e9], by rw [e9]⟩
  · subst h9
    have h_1 : ¬ (zs_us a) := h_1
    refine zr_if_eq (a := 0) (tgt := 39) X dX10_order_5 (by decide) (by decide) (fun _ => ?_) (fun c9 => absurd c9 (by decide))
    refine lv_iconst (v := (-1)) X.1 X.2.1 dX10_order_39 (by decide) ?_
    have e9 : sp_order a o f x u = ((-1), u) := (by unfold sp_order; (repeat (first | refine (if_pos (by omega)).trans ?_ | refine (if_neg (by omega)).trans ?_)); first | rfl | exact Prod.ext rfl (zs_mk3 rfl).symm)
    exact zr_iret X hW dX10_order_40 (Nat.le_refl _) (Nat.le_refl _) ⟨rfl, rfl, by rw [e9], by rw [e9]⟩

set_option maxHeartbeats 4000000 in
set_option maxRecDepth 100000 in
theorem c_X10_bothSeals (l : Launch) (Y : zw_Y) (N0 : Nat) (ad : Nat → Nat) (sh : Nat → Option zw_Sh) (u g0 : zm_T) (hM : zm_S sh) (cn t nc en la ak : Int32) (ht : 0 ≤ t.toInt ∧ t.toInt ≤ 1) (h8 : 0 ≤ (u 0 8).toInt ∧ (u 0 8).toInt ≤ 148) : zw_Met l Y N0 yX10_bothSeals cX10_bothSeals 8 (some .int) 2 51 0 0 ad sh (zm_mix u g0) [.ref (ad 0), .int cn, .int t, .int nc, .int en, .int la, .int ak] (zp_G ad sh (fun v g' => ∃ r : Int32, v = some (.int r) ∧ r = u 0 8 ∧ g' = zm_mix (zs_two u cn t nc en la ak) g0)) := by
  refine zw_meth (by decide) (Nat.le_of_ble_eq_true rfl) ?_
  intro p e s m below meth c ls X hnm hl hW
  have hl : lv_has ls 8 [(0, .ref (ad 0)), (1, .int cn), (2, .int t), (3, .int nc), (4, .int en), (5, .int la), (6, .int ak)] := hl
  have h81 := zi_add (u 0 8) 1 (by rw [show (1 : Int32).toInt = 1 from rfl]; omega)
  rw [show (1 : Int32).toInt = 1 from rfl] at h81
  refine lv_aload_n X.1 X.2.1 dX10_bothSeals_0 rfl (lv_at hl 0 rfl) ?_
  refine lv_aload_n X.1 X.2.1 dX10_bothSeals_1 rfl (lv_at hl 0 rfl) ?_
  refine zr_get (v := .ref (ad 5)) X hW fs_X10_20_9 dX10_bothSeals_2 (zm_s0 hM) rfl rfl rfl ?_
  refine lv_iload_n X.1 X.2.1 dX10_bothSeals_5 rfl (lv_at hl 2 rfl) ?_
  refine zr_iald (v := u 5 (zn t)) X hW dX10_bothSeals_6 (zm_s5 hM) rfl rfl (zi_vp (by omega)) rfl ?_
  refine lv_iload_n X.1 X.2.1 dX10_bothSeals_7 rfl (lv_at hl 1 rfl) ?_
  refine lv_aload_n X.1 X.2.1 dX10_bothSeals_8 rfl (lv_at hl 0 rfl) ?_
  refine zr_get (v := .int (u 0 2)) X hW fs_X10_91_9 dX10_bothSeals_9 (zm_s0 hM) rfl rfl rfl ?_
  refine lv_aload_n X.1 X.2.1 dX10_bothSeals_12 rfl (lv_at hl 0 rfl) ?_
  refine zr_get (v := .ref (ad 1)) X hW fs_X10_7_9 dX10_bothSeals_13 (zm_s0 hM) rfl rfl rfl ?_
  refine lv_iconst (v := 0) X.1 X.2.1 dX10_bothSeals_16 (by decide) ?_
  refine zr_iald (v := u 1 0) X hW dX10_bothSeals_17 (zm_s1 hM) rfl rfl (zi_vp (by decide)) rfl ?_
  refine lv_iload X.1 X.2.1 dX10_bothSeals_18 (lv_at hl 4 rfl) ?_
  refine lv_iload X.1 X.2.1 dX10_bothSeals_20 (lv_at hl 5 rfl) ?_
  refine zr_callV (As := [.int (u 5 (zn t)), .int cn, .int (u 0 2), .int (u 1 0), .int en, .int la]) (rest := []) X hW hl.1 md_X10_makeTicket ms_X10_129 dX10_bothSeals_22 (zm_s0 hM) rfl rfl rfl rfl (Nat.le_of_ble_eq_true rfl) ⟨Nat.le_of_ble_eq_true rfl, Nat.le_of_ble_eq_true rfl⟩ ⟨Nat.le_of_ble_eq_true rfl, Nat.le_of_ble_eq_true rfl⟩ (c_X10_makeTicket l Y N0 ad sh u g0 hM (u 5 (zn t)) cn (u 0 2) (u 1 0) en la (by omega)) (fun v9 ad9 sh9 g9 H locs hp hW => ?_)
  obtain ⟨rfl, rfl, _, rfl, rfl, rfl⟩ := hp
  obtain ⟨u_2, hu_2⟩ : ∃ z : zm_T, z = zs_mk u (zs_v 2 (u 5 (zn t)) cn (u 0 2) (u 1 0) en la 0 0 0) := ⟨_, rfl⟩
  rw [← hu_2] at hW
  refine lv_pop X.1 X.2.1 dX10_bothSeals_25 rfl ?_
  refine lv_aload_n X.1 X.2.1 dX10_bothSeals_26 rfl (lv_at hl 0 rfl) ?_
  refine lv_iload X.1 X.2.1 dX10_bothSeals_27 (lv_at hl 6 rfl) ?_
  refine lv_aload_n X.1 X.2.1 dX10_bothSeals_29 rfl (lv_at hl 0 rfl) ?_
  refine zr_get (v := .int (u 0 2)) X hW fs_X10_91_9 dX10_bothSeals_30 (zm_s0 hM) rfl rfl (congrArg Value.int (show u_2 0 2 = u 0 2 from (by rw [hu_2]; exact zs_mk0k _ _ (by decide)))) ?_
  refine lv_iload_n X.1 X.2.1 dX10_bothSeals_33 rfl (lv_at hl 3 rfl) ?_
  refine lv_iload_n X.1 X.2.1 dX10_bothSeals_34 rfl (lv_at hl 2 rfl) ?_
  refine lv_iload X.1 X.2.1 dX10_bothSeals_35 (lv_at hl 4 rfl) ?_
  refine zr_callV (As := [.int ak, .int (u 0 2), .int nc, .int t, .int en]) (rest := []) X hW hl.1 md_X10_makePart ms_X10_133 dX10_bothSeals_37 (zm_s0 hM) rfl rfl rfl rfl (Nat.le_of_ble_eq_true rfl) ⟨Nat.le_of_ble_eq_true rfl, Nat.le_of_ble_eq_true rfl⟩ ⟨Nat.le_of_ble_eq_true rfl, Nat.le_of_ble_eq_true rfl⟩ (c_X10_makePart l Y N0 ad sh u_2 g0 hM ak (u 0 2) nc t en (by rw [(show u_2 0 8 = u 0 8 + 1 from (by rw [hu_2]; exact zs_mk8 _ _)), h81]; omega)) (fun v9 ad9 sh9 g9 H locs hp hW => ?_)
  obtain ⟨rfl, rfl, _, rfl, rfl, rfl⟩ := hp
  obtain ⟨u_5, hu_5⟩ : ∃ z : zm_T, z = zs_mk u_2 (zs_v 3 ak (-1) (u 0 2) nc t en 0 0 0) := ⟨_, rfl⟩
  rw [← hu_5] at hW
  rw [(show u_2 0 8 = u 0 8 + 1 from (by rw [hu_2]; exact zs_mk8 _ _))]
  refine lv_istore (lv' := [(7, .int (u 0 8 + 1)), (0, .ref (ad 0)), (1, .int cn), (2, .int t), (3, .int nc), (4, .int en), (5, .int la), (6, .int ak)]) X.1 X.2.1 dX10_bothSeals_40 hl (by decide) rfl (fun ls hl => ?_)
  refine lv_aload_n X.1 X.2.1 dX10_bothSeals_42 rfl (lv_at hl 1 rfl) ?_
  refine lv_dup X.1 X.2.1 dX10_bothSeals_43 rfl ?_
  refine zr_get (v := .int (u 0 2)) X hW fs_X10_91_9 dX10_bothSeals_44 (zm_s0 hM) rfl rfl (congrArg Value.int ((show u_5 0 2 = u_2 0 2 from (by rw [hu_5]; exact zs_mk0k _ _ (by decide))).trans (show u_2 0 2 = u 0 2 from (by rw [hu_2]; exact zs_mk0k _ _ (by decide))))) ?_
  refine lv_iconst (v := 1) X.1 X.2.1 dX10_bothSeals_47 (by decide) ?_
  refine lv_iadd X.1 X.2.1 dX10_bothSeals_48 ?_
  refine zr_puti X hW fs_X10_91_9 dX10_bothSeals_49 (zm_s0 hM) rfl rfl rfl rfl (fun H locs hW => ?_)
  have hW : zw_St Y N0 ad sh (zm_mix (zm_w u_5 0 2 ((u 0 2) + 1)) g0) s H locs := zm_st (by decide) hW
  obtain ⟨u_7, hu_7⟩ : ∃ z : zm_T, z = zm_w u_5 0 2 ((u 0 2) + 1) := ⟨_, rfl⟩
  rw [← hu_7] at hW
  refine lv_iload X.1 X.2.1 dX10_bothSeals_52 (lv_at hl 0 rfl) ?_
  refine lv_iconst (v := 1) X.1 X.2.1 dX10_bothSeals_54 (by decide) ?_
  refine lv_isub X.1 X.2.1 dX10_bothSeals_55 ?_
  have e9 : u_7 = zs_two u cn t nc en la ak := by rw [hu_7, hu_5, hu_2]; rfl
  exact zr_iret X hW dX10_bothSeals_56 (Nat.le_refl _) (Nat.le_refl _) ⟨rfl, rfl, _, rfl, by rw [Int32.add_sub_cancel], by rw [e9]⟩

set_option maxHeartbeats 4000000 in
set_option maxRecDepth 100000 in
theorem c_X10_issue (l : Launch) (Y : zw_Y) (N0 : Nat) (ad : Nat → Nat) (sh : Nat → Option zw_Sh) (u g0 : zm_T) (hM : zm_S sh) (cn t nc q li : Int32) (hI : zm_I u) : zw_Met l Y N0 yX10_issue cX10_issue 8 (some .int) 3 78 0 0 ad sh (zm_mix u g0) [.ref (ad 0), .int cn, .int t, .int nc, .int q, .int li] (zp_S ad sh g0 (sp_issue cn t nc q li u)) := by
  refine zw_meth (by decide) (Nat.le_of_ble_eq_true rfl) ?_
  intro p e s m below meth c ls X hnm hl hW
  have hl : lv_has ls 8 [(0, .ref (ad 0)), (1, .int cn), (2, .int t), (3, .int nc), (4, .int q), (5, .int li)] := hl
  have hse := zI_se hI
  have hke := zI_ke hI
  have hs1 := zi_sub (u 0 8) 1 (by rw [show (1 : Int32).toInt = 1 from rfl]; omega)
  rw [show (1 : Int32).toInt = 1 from rfl] at hs1
  refine lv_aload_n X.1 X.2.1 dX10_issue_0 rfl (lv_at hl 0 rfl) ?_
  refine lv_iload_n X.1 X.2.1 dX10_issue_1 rfl (lv_at hl 1 rfl) ?_
  refine zr_callV (As := [.int cn]) (rest := []) X hW hl.1 md_X10_user ms_X10_112 dX10_issue_2 (zm_s0 hM) rfl rfl rfl rfl (Nat.le_of_ble_eq_true rfl) ⟨Nat.le_of_ble_eq_true rfl, Nat.le_of_ble_eq_true rfl⟩ ⟨Nat.le_of_ble_eq_true rfl, Nat.le_of_ble_eq_true rfl⟩ (c_X10_user l Y N0 ad sh u g0 hM cn) (fun v9 ad9 sh9 g9 H locs hp hW => ?_)
  rcases hp with ⟨rfl, rfl, rfl, ⟨h_1, h9⟩ | ⟨h_1, h9⟩⟩
  · subst h9
    have h_1 : zs_us cn := h_1
    refine zr_if_eq (a := 1) (tgt := 39) X dX10_issue_5 (by decide) (by decide) (fun c9 => absurd c9 (by decide)) (fun _ => ?_)
    refine lv_aload_n X.1 X.2.1 dX10_issue_8 rfl (lv_at hl 0 rfl) ?_
    refine lv_iload_n X.1 X.2.1 dX10_issue_9 rfl (lv_at hl 1 rfl) ?_
    refine zr_callV (As := [.int cn]) (rest := []) X hW hl.1 md_X10_booked ms_X10_94 dX10_issue_10 (zm_s0 hM) rfl rfl rfl rfl (Nat.le_of_ble_eq_true rfl) ⟨Nat.le_of_ble_eq_true rfl, Nat.le_of_ble_eq_true rfl⟩ ⟨Nat.le_of_ble_eq_true rfl, Nat.le_of_ble_eq_true rfl⟩ (c_X10_booked l Y N0 ad sh u g0 hM cn) (fun v9 ad9 sh9 g9 H locs hp hW => ?_)
    rcases hp with ⟨rfl, rfl, rfl, ⟨h_2, h9⟩ | ⟨h_2, h9⟩⟩
    · subst h9
      have h_2 : zs_bk u cn := h_2
      refine zr_if_eq (a := 1) (tgt := 39) X dX10_issue_13 (by decide) (by decide) (fun c9 => absurd c9 (by decide)) (fun _ => ?_)
      refine lv_iload_n X.1 X.2.1 dX10_issue_16 rfl (lv_at hl 2 rfl) ?_
      refine lv_iconst (v := 0) X.1 X.2.1 dX10_issue_17 (by decide) ?_
      refine lv_iconst (v := 1) X.1 X.2.1 dX10_issue_18 (by decide) ?_
      refine zr_callS (As := [.int t, .int 0, .int 1]) (rest := []) X hW hl.1 md_X10_in ms_X10_87 dX10_issue_19 rfl rfl (Nat.le_of_ble_eq_true rfl) ⟨Nat.le_of_ble_eq_true rfl, Nat.le_of_ble_eq_true rfl⟩ ⟨Nat.le_of_ble_eq_true rfl, Nat.le_of_ble_eq_true rfl⟩ (c_X10_in l Y N0 ad sh (zm_mix u g0) t 0 1) (fun v9 ad9 sh9 g9 H locs hp hW => ?_)
      rcases hp with ⟨rfl, rfl, rfl, ⟨h_3, h9⟩ | ⟨h_3, h9⟩⟩
      · subst h9
        have h_3 : zi_in t 0 1 := h_3
        refine zr_if_eq (a := 1) (tgt := 39) X dX10_issue_22 (by decide) (by decide) (fun c9 => absurd c9 (by decide)) (fun _ => ?_)
        refine lv_aload_n X.1 X.2.1 dX10_issue_25 rfl (lv_at hl 0 rfl) ?_
        refine lv_iload_n X.1 X.2.1 dX10_issue_26 rfl (lv_at hl 2 rfl) ?_
        refine zr_callV (As := [.int t]) (rest := []) X hW hl.1 md_X10_booked ms_X10_94 dX10_issue_27 (zm_s0 hM) rfl rfl rfl rfl (Nat.le_of_ble_eq_true rfl) ⟨Nat.le_of_ble_eq_true rfl, Nat.le_of_ble_eq_true rfl⟩ ⟨Nat.le_of_ble_eq_true rfl, Nat.le_of_ble_eq_true rfl⟩ (c_X10_booked l Y N0 ad sh u g0 hM t) (fun v9 ad9 sh9 g9 H locs hp hW => ?_)
        rcases hp with ⟨rfl, rfl, rfl, ⟨h_4, h9⟩ | ⟨h_4, h9⟩⟩
        · subst h9
          have h_4 : zs_bk u t := h_4
          refine zr_if_eq (a := 1) (tgt := 39) X dX10_issue_30 (by decide) (by decide) (fun c9 => absurd c9 (by decide)) (fun _ => ?_)
          refine lv_iload X.1 X.2.1 dX10_issue_33 (lv_at hl 5 rfl) ?_
          refine lv_iconst (v := 1) X.1 X.2.1 dX10_issue_35 (by decide) ?_
          refine zr_icmp_ge (a := (li).toInt) (b := 1) (tgt := 41) X dX10_issue_36 (by decide) rfl (by decide) (fun c_5 => ?_) (fun c_5 => ?_)
          · refine lv_aload_n X.1 X.2.1 dX10_issue_41 rfl (lv_at hl 0 rfl) ?_
            refine lv_aload_n X.1 X.2.1 dX10_issue_42 rfl (lv_at hl 0 rfl) ?_
            refine zr_get (v := .ref (ad 5)) X hW fs_X10_20_9 dX10_issue_43 (zm_s0 hM) rfl rfl rfl ?_
            refine lv_iload_n X.1 X.2.1 dX10_issue_46 rfl (lv_at hl 1 rfl) ?_
            refine zr_iald (v := u 5 (zn cn)) X hW dX10_issue_47 (zm_s5 hM) rfl rfl (zi_vp (by omega)) rfl ?_
            refine lv_iload X.1 X.2.1 dX10_issue_48 (lv_at hl 4 rfl) ?_
            refine lv_iconst (v := 1) X.1 X.2.1 dX10_issue_50 (by decide) ?_
            refine zr_callV (As := [.int (u 5 (zn cn)), .int q, .int 1]) (rest := []) X hW hl.1 md_X10_opens ms_X10_126 dX10_issue_51 (zm_s0 hM) rfl rfl rfl rfl (Nat.le_of_ble_eq_true rfl) ⟨Nat.le_of_ble_eq_true rfl, Nat.le_of_ble_eq_true rfl⟩ ⟨Nat.le_of_ble_eq_true rfl, Nat.le_of_ble_eq_true rfl⟩ (c_X10_opens l Y N0 ad sh u g0 hM (u 5 (zn cn)) q 1 hI) (fun v9 ad9 sh9 g9 H locs hp hW => ?_)
            rcases hp with ⟨rfl, rfl, rfl, ⟨h_6, h9⟩ | ⟨h_6, h9⟩⟩
            · subst h9
              have h_6 : zs_op u (u 5 (zn cn)) q 1 := h_6
              refine zr_if_ne (a := 1) (tgt := 60) X dX10_issue_54 (by decide) (by decide) (fun _ => ?_) (fun c9 => absurd c9 (by decide))
              refine lv_aload_n X.1 X.2.1 dX10_issue_60 rfl (lv_at hl 0 rfl) ?_
              refine zr_get (v := .ref (ad 11)) X hW fs_X10_35_9 dX10_issue_61 (zm_s0 hM) rfl rfl rfl ?_
              refine lv_iload X.1 X.2.1 dX10_issue_64 (lv_at hl 4 rfl) ?_
              refine zr_iald (v := u 11 (zn q)) X hW dX10_issue_66 (zm_s11 hM) rfl rfl (zi_vp (by omega)) rfl ?_
              refine lv_iload_n X.1 X.2.1 dX10_issue_67 rfl (lv_at hl 1 rfl) ?_
              refine zr_icmp_eq (a := (u 11 (zn q)).toInt) (b := (cn).toInt) (tgt := 74) X dX10_issue_68 (by decide) rfl rfl (fun c_7 => ?_) (fun c_7 => ?_)
              · refine lv_aload_n X.1 X.2.1 dX10_issue_74 rfl (lv_at hl 0 rfl) ?_
                refine lv_aload_n X.1 X.2.1 dX10_issue_75 rfl (lv_at hl 0 rfl) ?_
                refine zr_get (v := .ref (ad 13)) X hW fs_X10_41_9 dX10_issue_76 (zm_s0 hM) rfl rfl rfl ?_
                refine lv_iload X.1 X.2.1 dX10_issue_79 (lv_at hl 4 rfl) ?_
                refine zr_iald (v := u 13 (zn q)) X hW dX10_issue_81 (zm_s13 hM) rfl rfl (zi_vp (by omega)) rfl ?_
                refine lv_aload_n X.1 X.2.1 dX10_issue_82 rfl (lv_at hl 0 rfl) ?_
                refine zr_get (v := .ref (ad 1)) X hW fs_X10_7_9 dX10_issue_83 (zm_s0 hM) rfl rfl rfl ?_
                refine lv_iconst (v := 0) X.1 X.2.1 dX10_issue_86 (by decide) ?_
                refine zr_iald (v := u 1 0) X hW dX10_issue_87 (zm_s1 hM) rfl rfl (zi_vp (by decide)) rfl ?_
                refine zr_callV (As := [.int (u 13 (zn q)), .int (u 1 0)]) (rest := []) X hW hl.1 md_X10_near ms_X10_137 dX10_issue_88 (zm_s0 hM) rfl rfl rfl rfl (Nat.le_of_ble_eq_true rfl) ⟨Nat.le_of_ble_eq_true rfl, Nat.le_of_ble_eq_true rfl⟩ ⟨Nat.le_of_ble_eq_true rfl, Nat.le_of_ble_eq_true rfl⟩ (c_X10_near l Y N0 ad sh u g0 hM (u 13 (zn q)) (u 1 0) hI) (fun v9 ad9 sh9 g9 H locs hp hW => ?_)
                rcases hp with ⟨rfl, rfl, rfl, ⟨h_8, h9⟩ | ⟨h_8, h9⟩⟩
                · subst h9
                  have h_8 : zs_nr u (u 13 (zn q)) (u 1 0) := h_8
                  refine zr_if_ne (a := 1) (tgt := 97) X dX10_issue_91 (by decide) (by decide) (fun _ => ?_) (fun c9 => absurd c9 (by decide))
                  refine lv_aload_n X.1 X.2.1 dX10_issue_97 rfl (lv_at hl 0 rfl) ?_
                  refine zr_get (v := .int (u 0 2)) X hW fs_X10_91_9 dX10_issue_98 (zm_s0 hM) rfl rfl rfl ?_
                  refine lv_sipush (v := 200) X.1 X.2.1 dX10_issue_101 (by decide) ?_
                  refine zr_icmp_ge (a := (u 0 2).toInt) (b := 200) (tgt := 117) X dX10_issue_104 (by decide) rfl (by decide) (fun c_9 => ?_) (fun c_9 => ?_)
                  · refine lv_bipush (v := (-7)) X.1 X.2.1 dX10_issue_117 (by decide) ?_
                    have e9 : sp_issue cn t nc q li u = ((-7), u) := (by unfold sp_issue; (repeat (first | refine (if_pos (by omega)).trans ?_ | refine (if_neg (by omega)).trans ?_)); first | rfl | exact congrArg (fun z => ((u 0 8, zs_two u cn t nc (u 1 0 + zs_most u cn t li) z (u 5 (zn cn))) : Int32 × zm_T)) (by first | exact if_pos (by omega) | exact if_neg (by omega)))
                    exact zr_iret X hW dX10_issue_119 (Nat.le_refl _) (Nat.le_refl _) ⟨rfl, rfl, by rw [e9], by rw [e9]⟩
                  · refine lv_aload_n X.1 X.2.1 dX10_issue_107 rfl (lv_at hl 0 rfl) ?_
                    refine zr_get (v := .int (u 0 8)) X hW fs_X10_102_9 dX10_issue_108 (zm_s0 hM) rfl rfl rfl ?_
                    refine lv_sipush (v := 148) X.1 X.2.1 dX10_issue_111 (by decide) ?_
                    refine zr_icmp_le (a := (u 0 8).toInt) (b := 148) (tgt := 120) X dX10_issue_114 (by decide) rfl (by decide) (fun c_10 => ?_) (fun c_10 => ?_)
                    · refine lv_iload X.1 X.2.1 dX10_issue_120 (lv_at hl 5 rfl) ?_
                      refine lv_aload_n X.1 X.2.1 dX10_issue_122 rfl (lv_at hl 0 rfl) ?_
                      refine zr_get (v := .ref (ad 6)) X hW fs_X10_23_9 dX10_issue_123 (zm_s0 hM) rfl rfl rfl ?_
                      refine lv_iload_n X.1 X.2.1 dX10_issue_126 rfl (lv_at hl 1 rfl) ?_
                      refine zr_iald (v := u 6 (zn cn)) X hW dX10_issue_127 (zm_s6 hM) rfl rfl (zi_vp (by omega)) rfl ?_
                      refine zr_callS (As := [.int li, .int (u 6 (zn cn))]) (rest := []) X hW hl.1 md_X10_least ms_X10_141 dX10_issue_128 rfl rfl (Nat.le_of_ble_eq_true rfl) ⟨Nat.le_of_ble_eq_true rfl, Nat.le_of_ble_eq_true rfl⟩ ⟨Nat.le_of_ble_eq_true rfl, Nat.le_of_ble_eq_true rfl⟩ (c_X10_least l Y N0 ad sh (zm_mix u g0) li (u 6 (zn cn))) (fun v9 ad9 sh9 g9 H locs hp hW => ?_)
                      obtain ⟨rfl, rfl, rfl, _, rfl, rfl⟩ := hp
                      refine lv_aload_n X.1 X.2.1 dX10_issue_131 rfl (lv_at hl 0 rfl) ?_
                      refine zr_get (v := .ref (ad 6)) X hW fs_X10_23_9 dX10_issue_132 (zm_s0 hM) rfl rfl rfl ?_
                      refine lv_iload_n X.1 X.2.1 dX10_issue_135 rfl (lv_at hl 2 rfl) ?_
                      refine zr_iald (v := u 6 (zn t)) X hW dX10_issue_136 (zm_s6 hM) rfl rfl (zi_vp (by omega)) rfl ?_
                      refine zr_callS (As := [.int (zs_mn li (u 6 (zn cn))), .int (u 6 (zn t))]) (rest := []) X hW hl.1 md_X10_least ms_X10_141 dX10_issue_137 rfl rfl (Nat.le_of_ble_eq_true rfl) ⟨Nat.le_of_ble_eq_true rfl, Nat.le_of_ble_eq_true rfl⟩ ⟨Nat.le_of_ble_eq_true rfl, Nat.le_of_ble_eq_true rfl⟩ (c_X10_least l Y N0 ad sh (zm_mix u g0) (zs_mn li (u 6 (zn cn))) (u 6 (zn t))) (fun v9 ad9 sh9 g9 H locs hp hW => ?_)
                      obtain ⟨rfl, rfl, rfl, _, rfl, rfl⟩ := hp
                      refine lv_istore (lv' := [(6, .int (zs_mn (zs_mn li (u 6 (zn cn))) (u 6 (zn t)))), (0, .ref (ad 0)), (1, .int cn), (2, .int t), (3, .int nc), (4, .int q), (5, .int li)]) X.1 X.2.1 dX10_issue_140 hl (by decide) rfl (fun ls hl => ?_)
                      refine lv_aload_n X.1 X.2.1 dX10_issue_142 rfl (lv_at hl 1 rfl) ?_
                      refine zr_get (v := .ref (ad 1)) X hW fs_X10_7_9 dX10_issue_143 (zm_s0 hM) rfl rfl rfl ?_
                      refine lv_iconst (v := 0) X.1 X.2.1 dX10_issue_146 (by decide) ?_
                      refine zr_iald (v := u 1 0) X hW dX10_issue_147 (zm_s1 hM) rfl rfl (zi_vp (by decide)) rfl ?_
                      refine lv_iload X.1 X.2.1 dX10_issue_148 (lv_at hl 0 rfl) ?_
                      refine lv_iadd X.1 X.2.1 dX10_issue_150 ?_
                      refine lv_istore (lv' := [(7, .int ((u 1 0) + (zs_mn (zs_mn li (u 6 (zn cn))) (u 6 (zn t))))), (6, .int (zs_mn (zs_mn li (u 6 (zn cn))) (u 6 (zn t)))), (0, .ref (ad 0)), (1, .int cn), (2, .int t), (3, .int nc), (4, .int q), (5, .int li)]) X.1 X.2.1 dX10_issue_151 hl (by decide) rfl (fun ls hl => ?_)
                      refine lv_aload_n X.1 X.2.1 dX10_issue_153 rfl (lv_at hl 2 rfl) ?_
                      refine lv_iload_n X.1 X.2.1 dX10_issue_154 rfl (lv_at hl 3 rfl) ?_
                      refine lv_iload_n X.1 X.2.1 dX10_issue_155 rfl (lv_at hl 4 rfl) ?_
                      refine lv_iload_n X.1 X.2.1 dX10_issue_156 rfl (lv_at hl 5 rfl) ?_
                      refine lv_iload X.1 X.2.1 dX10_issue_157 (lv_at hl 0 rfl) ?_
                      refine lv_iload_n X.1 X.2.1 dX10_issue_159 rfl (lv_at hl 4 rfl) ?_
                      refine zr_if_ne (a := (t).toInt) (tgt := 181) X dX10_issue_160 (by decide) rfl (fun c_15 => ?_) (fun c_15 => ?_)
                      · refine lv_iload X.1 X.2.1 dX10_issue_181 (lv_at hl 0 rfl) ?_
                        refine lv_aload_n X.1 X.2.1 dX10_issue_183 rfl (lv_at hl 2 rfl) ?_
                        refine zr_get (v := .ref (ad 5)) X hW fs_X10_20_9 dX10_issue_184 (zm_s0 hM) rfl rfl rfl ?_
                        refine lv_iload_n X.1 X.2.1 dX10_issue_187 rfl (lv_at hl 3 rfl) ?_
                        refine zr_iald (v := u 5 (zn cn)) X hW dX10_issue_188 (zm_s5 hM) rfl rfl (zi_vp (by omega)) rfl ?_
                        refine zr_callV (As := [.int cn, .int t, .int nc, .int ((u 1 0) + (zs_mn (zs_mn li (u 6 (zn cn))) (u 6 (zn t)))), .int ((u 1 0) + (zs_mn (zs_mn li (u 6 (zn cn))) (u 6 (zn t)))), .int (u 5 (zn cn))]) (rest := []) X hW hl.1 md_X10_bothSeals ms_X10_144 dX10_issue_189 (zm_s0 hM) rfl rfl rfl rfl (Nat.le_of_ble_eq_true rfl) ⟨Nat.le_of_ble_eq_true rfl, Nat.le_of_ble_eq_true rfl⟩ ⟨Nat.le_of_ble_eq_true rfl, Nat.le_of_ble_eq_true rfl⟩ (c_X10_bothSeals l Y N0 ad sh u g0 hM cn t nc ((u 1 0) + (zs_mn (zs_mn li (u 6 (zn cn))) (u 6 (zn t)))) ((u 1 0) + (zs_mn (zs_mn li (u 6 (zn cn))) (u 6 (zn t)))) (u 5 (zn cn)) (by omega) (by omega)) (fun v9 ad9 sh9 g9 H locs hp hW => ?_)
                        obtain ⟨rfl, rfl, _, rfl, rfl, rfl⟩ := hp
                        obtain ⟨u_17, hu_17⟩ : ∃ z : zm_T, z = zs_two u cn t nc ((u 1 0) + (zs_mn (zs_mn li (u 6 (zn cn))) (u 6 (zn t)))) ((u 1 0) + (zs_mn (zs_mn li (u 6 (zn cn))) (u 6 (zn t)))) (u 5 (zn cn)) := ⟨_, rfl⟩
                        rw [← hu_17] at hW
                        have e9 : sp_issue cn t nc q li u = (u 0 8, u_17) := (by subst hu_17; unfold sp_issue; (repeat (first | refine (if_pos (by omega)).trans ?_ | refine (if_neg (by omega)).trans ?_)); first | rfl | exact congrArg (fun z => ((u 0 8, zs_two u cn t nc (u 1 0 + zs_most u cn t li) z (u 5 (zn cn))) : Int32 × zm_T)) (by first | exact if_pos (by omega) | exact if_neg (by omega)))
                        exact zr_iret X hW dX10_issue_192 (Nat.le_refl _) (Nat.le_refl _) ⟨rfl, rfl, by rw [e9], by rw [e9]⟩
                      · refine lv_aload_n X.1 X.2.1 dX10_issue_163 rfl (lv_at hl 2 rfl) ?_
                        refine zr_get (v := .ref (ad 1)) X hW fs_X10_7_9 dX10_issue_164 (zm_s0 hM) rfl rfl rfl ?_
                        refine lv_iconst (v := 0) X.1 X.2.1 dX10_issue_167 (by decide) ?_
                        refine zr_iald (v := u 1 0) X hW dX10_issue_168 (zm_s1 hM) rfl rfl (zi_vp (by decide)) rfl ?_
                        refine lv_iconst (v := 5) X.1 X.2.1 dX10_issue_169 (by decide) ?_
                        refine lv_aload_n X.1 X.2.1 dX10_issue_170 rfl (lv_at hl 2 rfl) ?_
                        refine zr_get (v := .ref (ad 6)) X hW fs_X10_23_9 dX10_issue_171 (zm_s0 hM) rfl rfl rfl ?_
                        refine lv_iload_n X.1 X.2.1 dX10_issue_174 rfl (lv_at hl 3 rfl) ?_
                        refine zr_iald (v := u 6 (zn cn)) X hW dX10_issue_175 (zm_s6 hM) rfl rfl (zi_vp (by omega)) rfl ?_
                        refine lv_imul X.1 X.2.1 dX10_issue_176 ?_
                        refine lv_iadd X.1 X.2.1 dX10_issue_177 ?_
                        refine lv_goto (tgt := 183) X.1 X.2.1 dX10_issue_178 (by decide) ?_
                        refine lv_aload_n X.1 X.2.1 dX10_issue_183 rfl (lv_at hl 2 rfl) ?_
                        refine zr_get (v := .ref (ad 5)) X hW fs_X10_20_9 dX10_issue_184 (zm_s0 hM) rfl rfl rfl ?_
                        refine lv_iload_n X.1 X.2.1 dX10_issue_187 rfl (lv_at hl 3 rfl) ?_
                        refine zr_iald (v := u 5 (zn cn)) X hW dX10_issue_188 (zm_s5 hM) rfl rfl (zi_vp (by omega)) rfl ?_
                        refine zr_callV (As := [.int cn, .int t, .int nc, .int ((u 1 0) + (zs_mn (zs_mn li (u 6 (zn cn))) (u 6 (zn t)))), .int ((u 1 0) + (5 * (u 6 (zn cn)))), .int (u 5 (zn cn))]) (rest := []) X hW hl.1 md_X10_bothSeals ms_X10_144 dX10_issue_189 (zm_s0 hM) rfl rfl rfl rfl (Nat.le_of_ble_eq_true rfl) ⟨Nat.le_of_ble_eq_true rfl, Nat.le_of_ble_eq_true rfl⟩ ⟨Nat.le_of_ble_eq_true rfl, Nat.le_of_ble_eq_true rfl⟩ (c_X10_bothSeals l Y N0 ad sh u g0 hM cn t nc ((u 1 0) + (zs_mn (zs_mn li (u 6 (zn cn))) (u 6 (zn t)))) ((u 1 0) + (5 * (u 6 (zn cn)))) (u 5 (zn cn)) (by omega) (by omega)) (fun v9 ad9 sh9 g9 H locs hp hW => ?_)
                        obtain ⟨rfl, rfl, _, rfl, rfl, rfl⟩ := hp
                        obtain ⟨u_20, hu_20⟩ : ∃ z : zm_T, z = zs_two u cn t nc ((u 1 0) + (zs_mn (zs_mn li (u 6 (zn cn))) (u 6 (zn t)))) ((u 1 0) + (5 * (u 6 (zn cn)))) (u 5 (zn cn)) := ⟨_, rfl⟩
                        rw [← hu_20] at hW
                        have e9 : sp_issue cn t nc q li u = (u 0 8, u_20) := (by subst hu_20; unfold sp_issue; (repeat (first | refine (if_pos (by omega)).trans ?_ | refine (if_neg (by omega)).trans ?_)); first | rfl | exact congrArg (fun z => ((u 0 8, zs_two u cn t nc (u 1 0 + zs_most u cn t li) z (u 5 (zn cn))) : Int32 × zm_T)) (by first | exact if_pos (by omega) | exact if_neg (by omega)))
                        exact zr_iret X hW dX10_issue_192 (Nat.le_refl _) (Nat.le_refl _) ⟨rfl, rfl, by rw [e9], by rw [e9]⟩
                    · refine lv_bipush (v := (-7)) X.1 X.2.1 dX10_issue_117 (by decide) ?_
                      have e9 : sp_issue cn t nc q li u = ((-7), u) := (by unfold sp_issue; (repeat (first | refine (if_pos (by omega)).trans ?_ | refine (if_neg (by omega)).trans ?_)); first | rfl | exact congrArg (fun z => ((u 0 8, zs_two u cn t nc (u 1 0 + zs_most u cn t li) z (u 5 (zn cn))) : Int32 × zm_T)) (by first | exact if_pos (by omega) | exact if_neg (by omega)))
                      exact zr_iret X hW dX10_issue_119 (Nat.le_refl _) (Nat.le_refl _) ⟨rfl, rfl, by rw [e9], by rw [e9]⟩
                · subst h9
                  have h_8 : ¬ (zs_nr u (u 13 (zn q)) (u 1 0)) := h_8
                  refine zr_if_ne (a := 0) (tgt := 97) X dX10_issue_91 (by decide) (by decide) (fun c9 => absurd c9 (by decide)) (fun _ => ?_)
                  refine lv_bipush (v := (-4)) X.1 X.2.1 dX10_issue_94 (by decide) ?_
                  have e9 : sp_issue cn t nc q li u = ((-4), u) := (by unfold sp_issue; (repeat (first | refine (if_pos (by omega)).trans ?_ | refine (if_neg (by omega)).trans ?_)); first | rfl | exact congrArg (fun z => ((u 0 8, zs_two u cn t nc (u 1 0 + zs_most u cn t li) z (u 5 (zn cn))) : Int32 × zm_T)) (by first | exact if_pos (by omega) | exact if_neg (by omega)))
                  exact zr_iret X hW dX10_issue_96 (Nat.le_refl _) (Nat.le_refl _) ⟨rfl, rfl, by rw [e9], by rw [e9]⟩
              · refine lv_bipush (v := (-3)) X.1 X.2.1 dX10_issue_71 (by decide) ?_
                have e9 : sp_issue cn t nc q li u = ((-3), u) := (by unfold sp_issue; (repeat (first | refine (if_pos (by omega)).trans ?_ | refine (if_neg (by omega)).trans ?_)); first | rfl | exact congrArg (fun z => ((u 0 8, zs_two u cn t nc (u 1 0 + zs_most u cn t li) z (u 5 (zn cn))) : Int32 × zm_T)) (by first | exact if_pos (by omega) | exact if_neg (by omega)))
                exact zr_iret X hW dX10_issue_73 (Nat.le_refl _) (Nat.le_refl _) ⟨rfl, rfl, by rw [e9], by rw [e9]⟩
            · subst h9
              have h_6 : ¬ (zs_op u (u 5 (zn cn)) q 1) := h_6
              refine zr_if_ne (a := 0) (tgt := 60) X dX10_issue_54 (by decide) (by decide) (fun c9 => absurd c9 (by decide)) (fun _ => ?_)
              refine lv_bipush (v := (-2)) X.1 X.2.1 dX10_issue_57 (by decide) ?_
              have e9 : sp_issue cn t nc q li u = ((-2), u) := (by unfold sp_issue; (repeat (first | refine (if_pos (by omega)).trans ?_ | refine (if_neg (by omega)).trans ?_)); first | rfl | exact congrArg (fun z => ((u 0 8, zs_two u cn t nc (u 1 0 + zs_most u cn t li) z (u 5 (zn cn))) : Int32 × zm_T)) (by first | exact if_pos (by omega) | exact if_neg (by omega)))
              exact zr_iret X hW dX10_issue_59 (Nat.le_refl _) (Nat.le_refl _) ⟨rfl, rfl, by rw [e9], by rw [e9]⟩
          · refine lv_iconst (v := (-1)) X.1 X.2.1 dX10_issue_39 (by decide) ?_
            have e9 : sp_issue cn t nc q li u = ((-1), u) := (by unfold sp_issue; (repeat (first | refine (if_pos (by omega)).trans ?_ | refine (if_neg (by omega)).trans ?_)); first | rfl | exact congrArg (fun z => ((u 0 8, zs_two u cn t nc (u 1 0 + zs_most u cn t li) z (u 5 (zn cn))) : Int32 × zm_T)) (by first | exact if_pos (by omega) | exact if_neg (by omega)))
            exact zr_iret X hW dX10_issue_40 (Nat.le_refl _) (Nat.le_refl _) ⟨rfl, rfl, by rw [e9], by rw [e9]⟩
        · subst h9
          have h_4 : ¬ (zs_bk u t) := h_4
          refine zr_if_eq (a := 0) (tgt := 39) X dX10_issue_30 (by decide) (by decide) (fun _ => ?_) (fun c9 => absurd c9 (by decide))
          refine lv_iconst (v := (-1)) X.1 X.2.1 dX10_issue_39 (by decide) ?_
          have e9 : sp_issue cn t nc q li u = ((-1), u) := (by unfold sp_issue; (repeat (first | refine (if_pos (by omega)).trans ?_ | refine (if_neg (by omega)).trans ?_)); first | rfl | exact congrArg (fun z => ((u 0 8, zs_two u cn t nc (u 1 0 + zs_most u cn t li) z (u 5 (zn cn))) : Int32 × zm_T)) (by first | exact if_pos (by omega) | exact if_neg (by omega)))
          exact zr_iret X hW dX10_issue_40 (Nat.le_refl _) (Nat.le_refl _) ⟨rfl, rfl, by rw [e9], by rw [e9]⟩
      · subst h9
        have h_3 : ¬ (zi_in t 0 1) := h_3
        refine zr_if_eq (a := 0) (tgt := 39) X dX10_issue_22 (by decide) (by decide) (fun _ => ?_) (fun c9 => absurd c9 (by decide))
        refine lv_iconst (v := (-1)) X.1 X.2.1 dX10_issue_39 (by decide) ?_
        have e9 : sp_issue cn t nc q li u = ((-1), u) := (by unfold sp_issue; (repeat (first | refine (if_pos (by omega)).trans ?_ | refine (if_neg (by omega)).trans ?_)); first | rfl | exact congrArg (fun z => ((u 0 8, zs_two u cn t nc (u 1 0 + zs_most u cn t li) z (u 5 (zn cn))) : Int32 × zm_T)) (by first | exact if_pos (by omega) | exact if_neg (by omega)))
        exact zr_iret X hW dX10_issue_40 (Nat.le_refl _) (Nat.le_refl _) ⟨rfl, rfl, by rw [e9], by rw [e9]⟩
    · subst h9
      have h_2 : ¬ (zs_bk u cn) := h_2
      refine zr_if_eq (a := 0) (tgt := 39) X dX10_issue_13 (by decide) (by decide) (fun _ => ?_) (fun c9 => absurd c9 (by decide))
      refine lv_iconst (v := (-1)) X.1 X.2.1 dX10_issue_39 (by decide) ?_
      have e9 : sp_issue cn t nc q li u = ((-1), u) := (by unfold sp_issue; (repeat (first | refine (if_pos (by omega)).trans ?_ | refine (if_neg (by omega)).trans ?_)); first | rfl | exact congrArg (fun z => ((u 0 8, zs_two u cn t nc (u 1 0 + zs_most u cn t li) z (u 5 (zn cn))) : Int32 × zm_T)) (by first | exact if_pos (by omega) | exact if_neg (by omega)))
      exact zr_iret X hW dX10_issue_40 (Nat.le_refl _) (Nat.le_refl _) ⟨rfl, rfl, by rw [e9], by rw [e9]⟩
  · subst h9
    have h_1 : ¬ (zs_us cn) := h_1
    refine zr_if_eq (a := 0) (tgt := 39) X dX10_issue_5 (by decide) (by decide) (fun _ => ?_) (fun c9 => absurd c9 (by decide))
    refine lv_iconst (v := (-1)) X.1 X.2.1 dX10_issue_39 (by decide) ?_
    have e9 : sp_issue cn t nc q li u = ((-1), u) := (by unfold sp_issue; (repeat (first | refine (if_pos (by omega)).trans ?_ | refine (if_neg (by omega)).trans ?_)); first | rfl | exact congrArg (fun z => ((u 0 8, zs_two u cn t nc (u 1 0 + zs_most u cn t li) z (u 5 (zn cn))) : Int32 × zm_T)) (by first | exact if_pos (by omega) | exact if_neg (by omega)))
    exact zr_iret X hW dX10_issue_40 (Nat.le_refl _) (Nat.le_refl _) ⟨rfl, rfl, by rw [e9], by rw [e9]⟩

set_option maxHeartbeats 4000000 in
set_option maxRecDepth 100000 in
theorem c_X10_grant (l : Launch) (Y : zw_Y) (N0 : Nat) (ad : Nat → Nat) (sh : Nat → Option zw_Sh) (u g0 : zm_T) (hM : zm_S sh) (k cl t nc li : Int32) (hI : zm_I u) : zw_Met l Y N0 yX10_grant cX10_grant 9 (some .int) 3 78 0 0 ad sh (zm_mix u g0) [.ref (ad 0), .int k, .int cl, .int t, .int nc, .int li] (zp_S ad sh g0 (sp_grant k cl t nc li u)) := by
  refine zw_meth (by decide) (Nat.le_of_ble_eq_true rfl) ?_
  intro p e s m below meth c ls X hnm hl hW
  have hl : lv_has ls 9 [(0, .ref (ad 0)), (1, .int k), (2, .int cl), (3, .int t), (4, .int nc), (5, .int li)] := hl
  have hse := zI_se hI
  have hke := zI_ke hI
  have hs1 := zi_sub (u 0 8) 1 (by rw [show (1 : Int32).toInt = 1 from rfl]; omega)
  rw [show (1 : Int32).toInt = 1 from rfl] at hs1
  refine lv_iload_n X.1 X.2.1 dX10_grant_0 rfl (lv_at hl 3 rfl) ?_
  refine lv_iconst (v := 0) X.1 X.2.1 dX10_grant_1 (by decide) ?_
  refine lv_iconst (v := 1) X.1 X.2.1 dX10_grant_2 (by decide) ?_
  refine zr_callS (As := [.int t, .int 0, .int 1]) (rest := []) X hW hl.1 md_X10_in ms_X10_87 dX10_grant_3 rfl rfl (Nat.le_of_ble_eq_true rfl) ⟨Nat.le_of_ble_eq_true rfl, Nat.le_of_ble_eq_true rfl⟩ ⟨Nat.le_of_ble_eq_true rfl, Nat.le_of_ble_eq_true rfl⟩ (c_X10_in l Y N0 ad sh (zm_mix u g0) t 0 1) (fun v9 ad9 sh9 g9 H locs hp hW => ?_)
  rcases hp with ⟨rfl, rfl, rfl, ⟨h_1, h9⟩ | ⟨h_1, h9⟩⟩
  · subst h9
    have h_1 : zi_in t 0 1 := h_1
    refine zr_if_eq (a := 1) (tgt := 31) X dX10_grant_6 (by decide) (by decide) (fun c9 => absurd c9 (by decide)) (fun _ => ?_)
    refine lv_aload_n X.1 X.2.1 dX10_grant_9 rfl (lv_at hl 0 rfl) ?_
    refine lv_iload_n X.1 X.2.1 dX10_grant_10 rfl (lv_at hl 3 rfl) ?_
    refine zr_callV (As := [.int t]) (rest := []) X hW hl.1 md_X10_booked ms_X10_94 dX10_grant_11 (zm_s0 hM) rfl rfl rfl rfl (Nat.le_of_ble_eq_true rfl) ⟨Nat.le_of_ble_eq_true rfl, Nat.le_of_ble_eq_true rfl⟩ ⟨Nat.le_of_ble_eq_true rfl, Nat.le_of_ble_eq_true rfl⟩ (c_X10_booked l Y N0 ad sh u g0 hM t) (fun v9 ad9 sh9 g9 H locs hp hW => ?_)
    rcases hp with ⟨rfl, rfl, rfl, ⟨h_2, h9⟩ | ⟨h_2, h9⟩⟩
    · subst h9
      have h_2 : zs_bk u t := h_2
      refine zr_if_eq (a := 1) (tgt := 31) X dX10_grant_14 (by decide) (by decide) (fun c9 => absurd c9 (by decide)) (fun _ => ?_)
      refine lv_aload_n X.1 X.2.1 dX10_grant_17 rfl (lv_at hl 0 rfl) ?_
      refine lv_iconst (v := 0) X.1 X.2.1 dX10_grant_18 (by decide) ?_
      refine zr_callV (As := [.int 0]) (rest := []) X hW hl.1 md_X10_booked ms_X10_94 dX10_grant_19 (zm_s0 hM) rfl rfl rfl rfl (Nat.le_of_ble_eq_true rfl) ⟨Nat.le_of_ble_eq_true rfl, Nat.le_of_ble_eq_true rfl⟩ ⟨Nat.le_of_ble_eq_true rfl, Nat.le_of_ble_eq_true rfl⟩ (c_X10_booked l Y N0 ad sh u g0 hM 0) (fun v9 ad9 sh9 g9 H locs hp hW => ?_)
      rcases hp with ⟨rfl, rfl, rfl, ⟨h_3, h9⟩ | ⟨h_3, h9⟩⟩
      · subst h9
        have h_3 : zs_bk u 0 := h_3
        refine zr_if_eq (a := 1) (tgt := 31) X dX10_grant_22 (by decide) (by decide) (fun c9 => absurd c9 (by decide)) (fun _ => ?_)
        refine lv_iload X.1 X.2.1 dX10_grant_25 (lv_at hl 5 rfl) ?_
        refine lv_iconst (v := 1) X.1 X.2.1 dX10_grant_27 (by decide) ?_
        refine zr_icmp_ge (a := (li).toInt) (b := 1) (tgt := 33) X dX10_grant_28 (by decide) rfl (by decide) (fun c_4 => ?_) (fun c_4 => ?_)
        · refine lv_aload_n X.1 X.2.1 dX10_grant_33 rfl (lv_at hl 0 rfl) ?_
          refine lv_aload_n X.1 X.2.1 dX10_grant_34 rfl (lv_at hl 0 rfl) ?_
          refine zr_get (v := .ref (ad 5)) X hW fs_X10_20_9 dX10_grant_35 (zm_s0 hM) rfl rfl rfl ?_
          refine lv_iconst (v := 0) X.1 X.2.1 dX10_grant_38 (by decide) ?_
          refine zr_iald (v := u 5 0) X hW dX10_grant_39 (zm_s5 hM) rfl rfl (zi_vp (by decide)) rfl ?_
          refine lv_iload_n X.1 X.2.1 dX10_grant_40 rfl (lv_at hl 1 rfl) ?_
          refine lv_iconst (v := 2) X.1 X.2.1 dX10_grant_41 (by decide) ?_
          refine zr_callV (As := [.int (u 5 0), .int k, .int 2]) (rest := []) X hW hl.1 md_X10_opens ms_X10_126 dX10_grant_42 (zm_s0 hM) rfl rfl rfl rfl (Nat.le_of_ble_eq_true rfl) ⟨Nat.le_of_ble_eq_true rfl, Nat.le_of_ble_eq_true rfl⟩ ⟨Nat.le_of_ble_eq_true rfl, Nat.le_of_ble_eq_true rfl⟩ (c_X10_opens l Y N0 ad sh u g0 hM (u 5 0) k 2 hI) (fun v9 ad9 sh9 g9 H locs hp hW => ?_)
          rcases hp with ⟨rfl, rfl, rfl, ⟨h_5, h9⟩ | ⟨h_5, h9⟩⟩
          · subst h9
            have h_5 : zs_op u (u 5 0) k 2 := h_5
            refine zr_if_ne (a := 1) (tgt := 51) X dX10_grant_45 (by decide) (by decide) (fun _ => ?_) (fun c9 => absurd c9 (by decide))
            refine lv_aload_n X.1 X.2.1 dX10_grant_51 rfl (lv_at hl 0 rfl) ?_
            refine lv_aload_n X.1 X.2.1 dX10_grant_52 rfl (lv_at hl 0 rfl) ?_
            refine zr_get (v := .ref (ad 12)) X hW fs_X10_38_9 dX10_grant_53 (zm_s0 hM) rfl rfl rfl ?_
            refine lv_iload_n X.1 X.2.1 dX10_grant_56 rfl (lv_at hl 1 rfl) ?_
            refine zr_iald (v := u 12 (zn k)) X hW dX10_grant_57 (zm_s12 hM) rfl rfl (zi_vp (by omega)) rfl ?_
            refine lv_iload_n X.1 X.2.1 dX10_grant_58 rfl (lv_at hl 2 rfl) ?_
            refine lv_iconst (v := 4) X.1 X.2.1 dX10_grant_59 (by decide) ?_
            refine zr_callV (As := [.int (u 12 (zn k)), .int cl, .int 4]) (rest := []) X hW hl.1 md_X10_opens ms_X10_126 dX10_grant_60 (zm_s0 hM) rfl rfl rfl rfl (Nat.le_of_ble_eq_true rfl) ⟨Nat.le_of_ble_eq_true rfl, Nat.le_of_ble_eq_true rfl⟩ ⟨Nat.le_of_ble_eq_true rfl, Nat.le_of_ble_eq_true rfl⟩ (c_X10_opens l Y N0 ad sh u g0 hM (u 12 (zn k)) cl 4 hI) (fun v9 ad9 sh9 g9 H locs hp hW => ?_)
            rcases hp with ⟨rfl, rfl, rfl, ⟨h_6, h9⟩ | ⟨h_6, h9⟩⟩
            · subst h9
              have h_6 : zs_op u (u 12 (zn k)) cl 4 := h_6
              refine zr_if_ne (a := 1) (tgt := 69) X dX10_grant_63 (by decide) (by decide) (fun _ => ?_) (fun c9 => absurd c9 (by decide))
              refine lv_aload_n X.1 X.2.1 dX10_grant_69 rfl (lv_at hl 0 rfl) ?_
              refine zr_get (v := .ref (ad 11)) X hW fs_X10_35_9 dX10_grant_70 (zm_s0 hM) rfl rfl rfl ?_
              refine lv_iload_n X.1 X.2.1 dX10_grant_73 rfl (lv_at hl 1 rfl) ?_
              refine zr_iald (v := u 11 (zn k)) X hW dX10_grant_74 (zm_s11 hM) rfl rfl (zi_vp (by omega)) rfl ?_
              refine lv_istore (lv' := [(6, .int (u 11 (zn k))), (0, .ref (ad 0)), (1, .int k), (2, .int cl), (3, .int t), (4, .int nc), (5, .int li)]) X.1 X.2.1 dX10_grant_75 hl (by decide) rfl (fun ls hl => ?_)
              refine lv_aload_n X.1 X.2.1 dX10_grant_77 rfl (lv_at hl 1 rfl) ?_
              refine zr_get (v := .ref (ad 11)) X hW fs_X10_35_9 dX10_grant_78 (zm_s0 hM) rfl rfl rfl ?_
              refine lv_iload_n X.1 X.2.1 dX10_grant_81 rfl (lv_at hl 3 rfl) ?_
              refine zr_iald (v := u 11 (zn cl)) X hW dX10_grant_82 (zm_s11 hM) rfl rfl (zi_vp (by omega)) rfl ?_
              refine lv_iload X.1 X.2.1 dX10_grant_83 (lv_at hl 0 rfl) ?_
              refine zr_icmp_ne (a := (u 11 (zn cl)).toInt) (b := (u 11 (zn k)).toInt) (tgt := 115) X dX10_grant_85 (by decide) rfl rfl (fun c_7 => ?_) (fun c_7 => ?_)
              · refine lv_bipush (v := (-3)) X.1 X.2.1 dX10_grant_115 (by decide) ?_
                have e9 : sp_grant k cl t nc li u = ((-3), u) := (by unfold sp_grant; (repeat (first | refine (if_pos (by omega)).trans ?_ | refine (if_neg (by omega)).trans ?_)); first | rfl | (have h1 : t.toInt = 1 := (by omega); have hg : zs_gend u k t li = zs_mn (u 1 0 + zs_most u (u 11 (zn k)) t li) (u 14 (zn k)) := congrArg (zs_mn _) (if_pos h1); rw [if_pos h1, hg] <;> rfl) | (have h1 : ¬ t.toInt = 1 := (by omega); have hg : zs_gend u k t li = zs_mn (u 1 0 + zs_most u (u 11 (zn k)) t li) (u 15 (zn k)) := congrArg (zs_mn _) (if_neg h1); rw [if_neg h1, hg] <;> rfl) | (exfalso; omega))
                exact zr_iret X hW dX10_grant_117 (Nat.le_refl _) (Nat.le_refl _) ⟨rfl, rfl, by rw [e9], by rw [e9]⟩
              · refine lv_aload_n X.1 X.2.1 dX10_grant_88 rfl (lv_at hl 1 rfl) ?_
                refine zr_get (v := .ref (ad 16)) X hW fs_X10_50_9 dX10_grant_89 (zm_s0 hM) rfl rfl rfl ?_
                refine lv_iload_n X.1 X.2.1 dX10_grant_92 rfl (lv_at hl 3 rfl) ?_
                refine zr_iald (v := u 16 (zn cl)) X hW dX10_grant_93 (zm_s16 hM) rfl rfl (zi_vp (by omega)) rfl ?_
                refine zr_if_ne (a := (u 16 (zn cl)).toInt) (tgt := 115) X dX10_grant_94 (by decide) rfl (fun c_8 => ?_) (fun c_8 => ?_)
                · refine lv_bipush (v := (-3)) X.1 X.2.1 dX10_grant_115 (by decide) ?_
                  have e9 : sp_grant k cl t nc li u = ((-3), u) := (by unfold sp_grant; (repeat (first | refine (if_pos (by omega)).trans ?_ | refine (if_neg (by omega)).trans ?_)); first | rfl | (have h1 : t.toInt = 1 := (by omega); have hg : zs_gend u k t li = zs_mn (u 1 0 + zs_most u (u 11 (zn k)) t li) (u 14 (zn k)) := congrArg (zs_mn _) (if_pos h1); rw [if_pos h1, hg] <;> rfl) | (have h1 : ¬ t.toInt = 1 := (by omega); have hg : zs_gend u k t li = zs_mn (u 1 0 + zs_most u (u 11 (zn k)) t li) (u 15 (zn k)) := congrArg (zs_mn _) (if_neg h1); rw [if_neg h1, hg] <;> rfl) | (exfalso; omega))
                  exact zr_iret X hW dX10_grant_117 (Nat.le_refl _) (Nat.le_refl _) ⟨rfl, rfl, by rw [e9], by rw [e9]⟩
                · refine lv_aload_n X.1 X.2.1 dX10_grant_97 rfl (lv_at hl 1 rfl) ?_
                  refine lv_iload X.1 X.2.1 dX10_grant_98 (lv_at hl 0 rfl) ?_
                  refine zr_callV (As := [.int (u 11 (zn k))]) (rest := []) X hW hl.1 md_X10_user ms_X10_112 dX10_grant_100 (zm_s0 hM) rfl rfl rfl rfl (Nat.le_of_ble_eq_true rfl) ⟨Nat.le_of_ble_eq_true rfl, Nat.le_of_ble_eq_true rfl⟩ ⟨Nat.le_of_ble_eq_true rfl, Nat.le_of_ble_eq_true rfl⟩ (c_X10_user l Y N0 ad sh u g0 hM (u 11 (zn k))) (fun v9 ad9 sh9 g9 H locs hp hW => ?_)
                  rcases hp with ⟨rfl, rfl, rfl, ⟨h_9, h9⟩ | ⟨h_9, h9⟩⟩
                  · subst h9
                    have h_9 : zs_us (u 11 (zn k)) := h_9
                    refine zr_if_eq (a := 1) (tgt := 115) X dX10_grant_103 (by decide) (by decide) (fun c9 => absurd c9 (by decide)) (fun _ => ?_)
                    refine lv_aload_n X.1 X.2.1 dX10_grant_106 rfl (lv_at hl 1 rfl) ?_
                    refine lv_iload X.1 X.2.1 dX10_grant_107 (lv_at hl 0 rfl) ?_
                    refine zr_callV (As := [.int (u 11 (zn k))]) (rest := []) X hW hl.1 md_X10_booked ms_X10_94 dX10_grant_109 (zm_s0 hM) rfl rfl rfl rfl (Nat.le_of_ble_eq_true rfl) ⟨Nat.le_of_ble_eq_true rfl, Nat.le_of_ble_eq_true rfl⟩ ⟨Nat.le_of_ble_eq_true rfl, Nat.le_of_ble_eq_true rfl⟩ (c_X10_booked l Y N0 ad sh u g0 hM (u 11 (zn k))) (fun v9 ad9 sh9 g9 H locs hp hW => ?_)
                    rcases hp with ⟨rfl, rfl, rfl, ⟨h_10, h9⟩ | ⟨h_10, h9⟩⟩
                    · subst h9
                      have h_10 : zs_bk u (u 11 (zn k)) := h_10
                      refine zr_if_ne (a := 1) (tgt := 118) X dX10_grant_112 (by decide) (by decide) (fun _ => ?_) (fun c9 => absurd c9 (by decide))
                      refine lv_aload_n X.1 X.2.1 dX10_grant_118 rfl (lv_at hl 1 rfl) ?_
                      refine lv_aload_n X.1 X.2.1 dX10_grant_119 rfl (lv_at hl 1 rfl) ?_
                      refine zr_get (v := .ref (ad 13)) X hW fs_X10_41_9 dX10_grant_120 (zm_s0 hM) rfl rfl rfl ?_
                      refine lv_iload_n X.1 X.2.1 dX10_grant_123 rfl (lv_at hl 3 rfl) ?_
                      refine zr_iald (v := u 13 (zn cl)) X hW dX10_grant_124 (zm_s13 hM) rfl rfl (zi_vp (by omega)) rfl ?_
                      refine lv_aload_n X.1 X.2.1 dX10_grant_125 rfl (lv_at hl 1 rfl) ?_
                      refine zr_get (v := .ref (ad 1)) X hW fs_X10_7_9 dX10_grant_126 (zm_s0 hM) rfl rfl rfl ?_
                      refine lv_iconst (v := 0) X.1 X.2.1 dX10_grant_129 (by decide) ?_
                      refine zr_iald (v := u 1 0) X hW dX10_grant_130 (zm_s1 hM) rfl rfl (zi_vp (by decide)) rfl ?_
                      refine zr_callV (As := [.int (u 13 (zn cl)), .int (u 1 0)]) (rest := []) X hW hl.1 md_X10_near ms_X10_137 dX10_grant_131 (zm_s0 hM) rfl rfl rfl rfl (Nat.le_of_ble_eq_true rfl) ⟨Nat.le_of_ble_eq_true rfl, Nat.le_of_ble_eq_true rfl⟩ ⟨Nat.le_of_ble_eq_true rfl, Nat.le_of_ble_eq_true rfl⟩ (c_X10_near l Y N0 ad sh u g0 hM (u 13 (zn cl)) (u 1 0) hI) (fun v9 ad9 sh9 g9 H locs hp hW => ?_)
                      rcases hp with ⟨rfl, rfl, rfl, ⟨h_11, h9⟩ | ⟨h_11, h9⟩⟩
                      · subst h9
                        have h_11 : zs_nr u (u 13 (zn cl)) (u 1 0) := h_11
                        refine zr_if_eq (a := 1) (tgt := 152) X dX10_grant_134 (by decide) (by decide) (fun c9 => absurd c9 (by decide)) (fun _ => ?_)
                        refine lv_aload_n X.1 X.2.1 dX10_grant_137 rfl (lv_at hl 1 rfl) ?_
                        refine zr_get (v := .ref (ad 1)) X hW fs_X10_7_9 dX10_grant_138 (zm_s0 hM) rfl rfl rfl ?_
                        refine lv_iconst (v := 0) X.1 X.2.1 dX10_grant_141 (by decide) ?_
                        refine zr_iald (v := u 1 0) X hW dX10_grant_142 (zm_s1 hM) rfl rfl (zi_vp (by decide)) rfl ?_
                        refine lv_aload_n X.1 X.2.1 dX10_grant_143 rfl (lv_at hl 1 rfl) ?_
                        refine zr_get (v := .ref (ad 14)) X hW fs_X10_44_9 dX10_grant_144 (zm_s0 hM) rfl rfl rfl ?_
                        refine lv_iload_n X.1 X.2.1 dX10_grant_147 rfl (lv_at hl 2 rfl) ?_
                        refine zr_iald (v := u 14 (zn k)) X hW dX10_grant_148 (zm_s14 hM) rfl rfl (zi_vp (by omega)) rfl ?_
                        refine zr_icmp_le (a := (u 1 0).toInt) (b := (u 14 (zn k)).toInt) (tgt := 155) X dX10_grant_149 (by decide) rfl rfl (fun c_12 => ?_) (fun c_12 => ?_)
                        · refine lv_aload_n X.1 X.2.1 dX10_grant_155 rfl (lv_at hl 1 rfl) ?_
                          refine zr_get (v := .int (u 0 2)) X hW fs_X10_91_9 dX10_grant_156 (zm_s0 hM) rfl rfl rfl ?_
                          refine lv_sipush (v := 200) X.1 X.2.1 dX10_grant_159 (by decide) ?_
                          refine zr_icmp_ge (a := (u 0 2).toInt) (b := 200) (tgt := 175) X dX10_grant_162 (by decide) rfl (by decide) (fun c_13 => ?_) (fun c_13 => ?_)
                          · refine lv_bipush (v := (-7)) X.1 X.2.1 dX10_grant_175 (by decide) ?_
                            have e9 : sp_grant k cl t nc li u = ((-7), u) := (by unfold sp_grant; (repeat (first | refine (if_pos (by omega)).trans ?_ | refine (if_neg (by omega)).trans ?_)); first | rfl | (have h1 : t.toInt = 1 := (by omega); have hg : zs_gend u k t li = zs_mn (u 1 0 + zs_most u (u 11 (zn k)) t li) (u 14 (zn k)) := congrArg (zs_mn _) (if_pos h1); rw [if_pos h1, hg] <;> rfl) | (have h1 : ¬ t.toInt = 1 := (by omega); have hg : zs_gend u k t li = zs_mn (u 1 0 + zs_most u (u 11 (zn k)) t li) (u 15 (zn k)) := congrArg (zs_mn _) (if_neg h1); rw [if_neg h1, hg] <;> rfl) | (exfalso; omega))
                            exact zr_iret X hW dX10_grant_177 (Nat.le_refl _) (Nat.le_refl _) ⟨rfl, rfl, by rw [e9], by rw [e9]⟩
                          · refine lv_aload_n X.1 X.2.1 dX10_grant_165 rfl (lv_at hl 1 rfl) ?_
                            refine zr_get (v := .int (u 0 8)) X hW fs_X10_102_9 dX10_grant_166 (zm_s0 hM) rfl rfl rfl ?_
                            refine lv_sipush (v := 148) X.1 X.2.1 dX10_grant_169 (by decide) ?_
                            refine zr_icmp_le (a := (u 0 8).toInt) (b := 148) (tgt := 178) X dX10_grant_172 (by decide) rfl (by decide) (fun c_14 => ?_) (fun c_14 => ?_)
                            · refine lv_iload X.1 X.2.1 dX10_grant_178 (lv_at hl 6 rfl) ?_
                              refine lv_aload_n X.1 X.2.1 dX10_grant_180 rfl (lv_at hl 1 rfl) ?_
                              refine zr_get (v := .ref (ad 6)) X hW fs_X10_23_9 dX10_grant_181 (zm_s0 hM) rfl rfl rfl ?_
                              refine lv_iload X.1 X.2.1 dX10_grant_184 (lv_at hl 0 rfl) ?_
                              refine zr_iald (v := u 6 (zn (u 11 (zn k)))) X hW dX10_grant_186 (zm_s6 hM) rfl rfl (zi_vp (by omega)) rfl ?_
                              refine zr_callS (As := [.int li, .int (u 6 (zn (u 11 (zn k))))]) (rest := []) X hW hl.1 md_X10_least ms_X10_141 dX10_grant_187 rfl rfl (Nat.le_of_ble_eq_true rfl) ⟨Nat.le_of_ble_eq_true rfl, Nat.le_of_ble_eq_true rfl⟩ ⟨Nat.le_of_ble_eq_true rfl, Nat.le_of_ble_eq_true rfl⟩ (c_X10_least l Y N0 ad sh (zm_mix u g0) li (u 6 (zn (u 11 (zn k))))) (fun v9 ad9 sh9 g9 H locs hp hW => ?_)
                              obtain ⟨rfl, rfl, rfl, _, rfl, rfl⟩ := hp
                              refine lv_aload_n X.1 X.2.1 dX10_grant_190 rfl (lv_at hl 1 rfl) ?_
                              refine zr_get (v := .ref (ad 6)) X hW fs_X10_23_9 dX10_grant_191 (zm_s0 hM) rfl rfl rfl ?_
                              refine lv_iload_n X.1 X.2.1 dX10_grant_194 rfl (lv_at hl 4 rfl) ?_
                              refine zr_iald (v := u 6 (zn t)) X hW dX10_grant_195 (zm_s6 hM) rfl rfl (zi_vp (by omega)) rfl ?_
                              refine zr_callS (As := [.int (zs_mn li (u 6 (zn (u 11 (zn k))))), .int (u 6 (zn t))]) (rest := []) X hW hl.1 md_X10_least ms_X10_141 dX10_grant_196 rfl rfl (Nat.le_of_ble_eq_true rfl) ⟨Nat.le_of_ble_eq_true rfl, Nat.le_of_ble_eq_true rfl⟩ ⟨Nat.le_of_ble_eq_true rfl, Nat.le_of_ble_eq_true rfl⟩ (c_X10_least l Y N0 ad sh (zm_mix u g0) (zs_mn li (u 6 (zn (u 11 (zn k))))) (u 6 (zn t))) (fun v9 ad9 sh9 g9 H locs hp hW => ?_)
                              obtain ⟨rfl, rfl, rfl, _, rfl, rfl⟩ := hp
                              refine lv_istore (lv' := [(7, .int (zs_mn (zs_mn li (u 6 (zn (u 11 (zn k))))) (u 6 (zn t)))), (6, .int (u 11 (zn k))), (0, .ref (ad 0)), (1, .int k), (2, .int cl), (3, .int t), (4, .int nc), (5, .int li)]) X.1 X.2.1 dX10_grant_199 hl (by decide) rfl (fun ls hl => ?_)
                              refine lv_aload_n X.1 X.2.1 dX10_grant_201 rfl (lv_at hl 2 rfl) ?_
                              refine zr_get (v := .ref (ad 1)) X hW fs_X10_7_9 dX10_grant_202 (zm_s0 hM) rfl rfl rfl ?_
                              refine lv_iconst (v := 0) X.1 X.2.1 dX10_grant_205 (by decide) ?_
                              refine zr_iald (v := u 1 0) X hW dX10_grant_206 (zm_s1 hM) rfl rfl (zi_vp (by decide)) rfl ?_
                              refine lv_iload X.1 X.2.1 dX10_grant_207 (lv_at hl 0 rfl) ?_
                              refine lv_iadd X.1 X.2.1 dX10_grant_209 ?_
                              refine lv_iload_n X.1 X.2.1 dX10_grant_210 rfl (lv_at hl 5 rfl) ?_
                              refine lv_iconst (v := 1) X.1 X.2.1 dX10_grant_211 (by decide) ?_
                              refine zr_icmp_ne (a := (t).toInt) (b := 1) (tgt := 224) X dX10_grant_212 (by decide) rfl (by decide) (fun c_19 => ?_) (fun c_19 => ?_)
                              · refine lv_aload_n X.1 X.2.1 dX10_grant_224 rfl (lv_at hl 2 rfl) ?_
                                refine zr_get (v := .ref (ad 15)) X hW fs_X10_47_9 dX10_grant_225 (zm_s0 hM) rfl rfl rfl ?_
                                refine lv_iload_n X.1 X.2.1 dX10_grant_228 rfl (lv_at hl 3 rfl) ?_
                                refine zr_iald (v := u 15 (zn k)) X hW dX10_grant_229 (zm_s15 hM) rfl rfl (zi_vp (by omega)) rfl ?_
                                refine zr_callS (As := [.int ((u 1 0) + (zs_mn (zs_mn li (u 6 (zn (u 11 (zn k))))) (u 6 (zn t)))), .int (u 15 (zn k))]) (rest := []) X hW hl.1 md_X10_least ms_X10_141 dX10_grant_230 rfl rfl (Nat.le_of_ble_eq_true rfl) ⟨Nat.le_of_ble_eq_true rfl, Nat.le_of_ble_eq_true rfl⟩ ⟨Nat.le_of_ble_eq_true rfl, Nat.le_of_ble_eq_true rfl⟩ (c_X10_least l Y N0 ad sh (zm_mix u g0) ((u 1 0) + (zs_mn (zs_mn li (u 6 (zn (u 11 (zn k))))) (u 6 (zn t)))) (u 15 (zn k))) (fun v9 ad9 sh9 g9 H locs hp hW => ?_)
                                obtain ⟨rfl, rfl, rfl, _, rfl, rfl⟩ := hp
                                refine lv_istore (lv' := [(8, .int (zs_mn ((u 1 0) + (zs_mn (zs_mn li (u 6 (zn (u 11 (zn k))))) (u 6 (zn t)))) (u 15 (zn k)))), (7, .int (zs_mn (zs_mn li (u 6 (zn (u 11 (zn k))))) (u 6 (zn t)))), (6, .int (u 11 (zn k))), (0, .ref (ad 0)), (1, .int k), (2, .int cl), (3, .int t), (4, .int nc), (5, .int li)]) X.1 X.2.1 dX10_grant_233 hl (by decide) rfl (fun ls hl => ?_)
                                refine lv_aload_n X.1 X.2.1 dX10_grant_235 rfl (lv_at hl 3 rfl) ?_
                                refine lv_iload X.1 X.2.1 dX10_grant_236 (lv_at hl 2 rfl) ?_
                                refine lv_iload_n X.1 X.2.1 dX10_grant_238 rfl (lv_at hl 6 rfl) ?_
                                refine lv_iload X.1 X.2.1 dX10_grant_239 (lv_at hl 7 rfl) ?_
                                refine lv_iload X.1 X.2.1 dX10_grant_241 (lv_at hl 0 rfl) ?_
                                refine lv_iload_n X.1 X.2.1 dX10_grant_243 rfl (lv_at hl 6 rfl) ?_
                                refine lv_iconst (v := 1) X.1 X.2.1 dX10_grant_244 (by decide) ?_
                                refine zr_icmp_ne (a := (t).toInt) (b := 1) (tgt := 253) X dX10_grant_245 (by decide) rfl (by decide) (fun _ => ?_) (fun c9 => absurd c9 (by omega))
                                refine lv_aload_n X.1 X.2.1 dX10_grant_253 rfl (lv_at hl 3 rfl) ?_
                                refine zr_get (v := .ref (ad 15)) X hW fs_X10_47_9 dX10_grant_254 (zm_s0 hM) rfl rfl rfl ?_
                                refine lv_iload_n X.1 X.2.1 dX10_grant_257 rfl (lv_at hl 4 rfl) ?_
                                refine zr_iald (v := u 15 (zn k)) X hW dX10_grant_258 (zm_s15 hM) rfl rfl (zi_vp (by omega)) rfl ?_
                                refine lv_aload_n X.1 X.2.1 dX10_grant_259 rfl (lv_at hl 3 rfl) ?_
                                refine zr_get (v := .ref (ad 12)) X hW fs_X10_38_9 dX10_grant_260 (zm_s0 hM) rfl rfl rfl ?_
                                refine lv_iload_n X.1 X.2.1 dX10_grant_263 rfl (lv_at hl 4 rfl) ?_
                                refine zr_iald (v := u 12 (zn k)) X hW dX10_grant_264 (zm_s12 hM) rfl rfl (zi_vp (by omega)) rfl ?_
                                refine zr_callV (As := [.int (u 11 (zn k)), .int t, .int nc, .int (zs_mn ((u 1 0) + (zs_mn (zs_mn li (u 6 (zn (u 11 (zn k))))) (u 6 (zn t)))) (u 15 (zn k))), .int (u 15 (zn k)), .int (u 12 (zn k))]) (rest := []) X hW hl.1 md_X10_bothSeals ms_X10_144 dX10_grant_265 (zm_s0 hM) rfl rfl rfl rfl (Nat.le_of_ble_eq_true rfl) ⟨Nat.le_of_ble_eq_true rfl, Nat.le_of_ble_eq_true rfl⟩ ⟨Nat.le_of_ble_eq_true rfl, Nat.le_of_ble_eq_true rfl⟩ (c_X10_bothSeals l Y N0 ad sh u g0 hM (u 11 (zn k)) t nc (zs_mn ((u 1 0) + (zs_mn (zs_mn li (u 6 (zn (u 11 (zn k))))) (u 6 (zn t)))) (u 15 (zn k))) (u 15 (zn k)) (u 12 (zn k)) (by omega) (by omega)) (fun v9 ad9 sh9 g9 H locs hp hW => ?_)
                                obtain ⟨rfl, rfl, _, rfl, rfl, rfl⟩ := hp
                                obtain ⟨u_23, hu_23⟩ : ∃ z : zm_T, z = zs_two u (u 11 (zn k)) t nc (zs_mn ((u 1 0) + (zs_mn (zs_mn li (u 6 (zn (u 11 (zn k))))) (u 6 (zn t)))) (u 15 (zn k))) (u 15 (zn k)) (u 12 (zn k)) := ⟨_, rfl⟩
                                rw [← hu_23] at hW
                                have e9 : sp_grant k cl t nc li u = (u 0 8, u_23) := (by subst hu_23; unfold sp_grant; (repeat (first | refine (if_pos (by omega)).trans ?_ | refine (if_neg (by omega)).trans ?_)); first | rfl | (have h1 : t.toInt = 1 := (by omega); have hg : zs_gend u k t li = zs_mn (u 1 0 + zs_most u (u 11 (zn k)) t li) (u 14 (zn k)) := congrArg (zs_mn _) (if_pos h1); rw [if_pos h1, hg] <;> rfl) | (have h1 : ¬ t.toInt = 1 := (by omega); have hg : zs_gend u k t li = zs_mn (u 1 0 + zs_most u (u 11 (zn k)) t li) (u 15 (zn k)) := congrArg (zs_mn _) (if_neg h1); rw [if_neg h1, hg] <;> rfl) | (exfalso; omega))
                                exact zr_iret X hW dX10_grant_268 (Nat.le_refl _) (Nat.le_refl _) ⟨rfl, rfl, by rw [e9], by rw [e9]⟩
                              · refine lv_aload_n X.1 X.2.1 dX10_grant_215 rfl (lv_at hl 2 rfl) ?_
                                refine zr_get (v := .ref (ad 14)) X hW fs_X10_44_9 dX10_grant_216 (zm_s0 hM) rfl rfl rfl ?_
                                refine lv_iload_n X.1 X.2.1 dX10_grant_219 rfl (lv_at hl 3 rfl) ?_
                                refine zr_iald (v := u 14 (zn k)) X hW dX10_grant_220 (zm_s14 hM) rfl rfl (zi_vp (by omega)) rfl ?_
                                refine lv_goto (tgt := 230) X.1 X.2.1 dX10_grant_221 (by decide) ?_
                                refine zr_callS (As := [.int ((u 1 0) + (zs_mn (zs_mn li (u 6 (zn (u 11 (zn k))))) (u 6 (zn t)))), .int (u 14 (zn k))]) (rest := []) X hW hl.1 md_X10_least ms_X10_141 dX10_grant_230 rfl rfl (Nat.le_of_ble_eq_true rfl) ⟨Nat.le_of_ble_eq_true rfl, Nat.le_of_ble_eq_true rfl⟩ ⟨Nat.le_of_ble_eq_true rfl, Nat.le_of_ble_eq_true rfl⟩ (c_X10_least l Y N0 ad sh (zm_mix u g0) ((u 1 0) + (zs_mn (zs_mn li (u 6 (zn (u 11 (zn k))))) (u 6 (zn t)))) (u 14 (zn k))) (fun v9 ad9 sh9 g9 H locs hp hW => ?_)
                                obtain ⟨rfl, rfl, rfl, _, rfl, rfl⟩ := hp
                                refine lv_istore (lv' := [(8, .int (zs_mn ((u 1 0) + (zs_mn (zs_mn li (u 6 (zn (u 11 (zn k))))) (u 6 (zn t)))) (u 14 (zn k)))), (7, .int (zs_mn (zs_mn li (u 6 (zn (u 11 (zn k))))) (u 6 (zn t)))), (6, .int (u 11 (zn k))), (0, .ref (ad 0)), (1, .int k), (2, .int cl), (3, .int t), (4, .int nc), (5, .int li)]) X.1 X.2.1 dX10_grant_233 hl (by decide) rfl (fun ls hl => ?_)
                                refine lv_aload_n X.1 X.2.1 dX10_grant_235 rfl (lv_at hl 3 rfl) ?_
                                refine lv_iload X.1 X.2.1 dX10_grant_236 (lv_at hl 2 rfl) ?_
                                refine lv_iload_n X.1 X.2.1 dX10_grant_238 rfl (lv_at hl 6 rfl) ?_
                                refine lv_iload X.1 X.2.1 dX10_grant_239 (lv_at hl 7 rfl) ?_
                                refine lv_iload X.1 X.2.1 dX10_grant_241 (lv_at hl 0 rfl) ?_
                                refine lv_iload_n X.1 X.2.1 dX10_grant_243 rfl (lv_at hl 6 rfl) ?_
                                refine lv_iconst (v := 1) X.1 X.2.1 dX10_grant_244 (by decide) ?_
                                refine zr_icmp_ne (a := (t).toInt) (b := 1) (tgt := 253) X dX10_grant_245 (by decide) rfl (by decide) (fun c9 => absurd c9 (by omega)) (fun _ => ?_)
                                refine lv_iload X.1 X.2.1 dX10_grant_248 (lv_at hl 0 rfl) ?_
                                refine lv_goto (tgt := 259) X.1 X.2.1 dX10_grant_250 (by decide) ?_
                                refine lv_aload_n X.1 X.2.1 dX10_grant_259 rfl (lv_at hl 3 rfl) ?_
                                refine zr_get (v := .ref (ad 12)) X hW fs_X10_38_9 dX10_grant_260 (zm_s0 hM) rfl rfl rfl ?_
                                refine lv_iload_n X.1 X.2.1 dX10_grant_263 rfl (lv_at hl 4 rfl) ?_
                                refine zr_iald (v := u 12 (zn k)) X hW dX10_grant_264 (zm_s12 hM) rfl rfl (zi_vp (by omega)) rfl ?_
                                refine zr_callV (As := [.int (u 11 (zn k)), .int t, .int nc, .int (zs_mn ((u 1 0) + (zs_mn (zs_mn li (u 6 (zn (u 11 (zn k))))) (u 6 (zn t)))) (u 14 (zn k))), .int (zs_mn ((u 1 0) + (zs_mn (zs_mn li (u 6 (zn (u 11 (zn k))))) (u 6 (zn t)))) (u 14 (zn k))), .int (u 12 (zn k))]) (rest := []) X hW hl.1 md_X10_bothSeals ms_X10_144 dX10_grant_265 (zm_s0 hM) rfl rfl rfl rfl (Nat.le_of_ble_eq_true rfl) ⟨Nat.le_of_ble_eq_true rfl, Nat.le_of_ble_eq_true rfl⟩ ⟨Nat.le_of_ble_eq_true rfl, Nat.le_of_ble_eq_true rfl⟩ (c_X10_bothSeals l Y N0 ad sh u g0 hM (u 11 (zn k)) t nc (zs_mn ((u 1 0) + (zs_mn (zs_mn li (u 6 (zn (u 11 (zn k))))) (u 6 (zn t)))) (u 14 (zn k))) (zs_mn ((u 1 0) + (zs_mn (zs_mn li (u 6 (zn (u 11 (zn k))))) (u 6 (zn t)))) (u 14 (zn k))) (u 12 (zn k)) (by omega) (by omega)) (fun v9 ad9 sh9 g9 H locs hp hW => ?_)
                                obtain ⟨rfl, rfl, _, rfl, rfl, rfl⟩ := hp
                                obtain ⟨u_28, hu_28⟩ : ∃ z : zm_T, z = zs_two u (u 11 (zn k)) t nc (zs_mn ((u 1 0) + (zs_mn (zs_mn li (u 6 (zn (u 11 (zn k))))) (u 6 (zn t)))) (u 14 (zn k))) (zs_mn ((u 1 0) + (zs_mn (zs_mn li (u 6 (zn (u 11 (zn k))))) (u 6 (zn t)))) (u 14 (zn k))) (u 12 (zn k)) := ⟨_, rfl⟩
                                rw [← hu_28] at hW
                                have e9 : sp_grant k cl t nc li u = (u 0 8, u_28) := (by subst hu_28; unfold sp_grant; (repeat (first | refine (if_pos (by omega)).trans ?_ | refine (if_neg (by omega)).trans ?_)); first | rfl | (have h1 : t.toInt = 1 := (by omega); have hg : zs_gend u k t li = zs_mn (u 1 0 + zs_most u (u 11 (zn k)) t li) (u 14 (zn k)) := congrArg (zs_mn _) (if_pos h1); rw [if_pos h1, hg] <;> rfl) | (have h1 : ¬ t.toInt = 1 := (by omega); have hg : zs_gend u k t li = zs_mn (u 1 0 + zs_most u (u 11 (zn k)) t li) (u 15 (zn k)) := congrArg (zs_mn _) (if_neg h1); rw [if_neg h1, hg] <;> rfl) | (exfalso; omega))
                                exact zr_iret X hW dX10_grant_268 (Nat.le_refl _) (Nat.le_refl _) ⟨rfl, rfl, by rw [e9], by rw [e9]⟩
                            · refine lv_bipush (v := (-7)) X.1 X.2.1 dX10_grant_175 (by decide) ?_
                              have e9 : sp_grant k cl t nc li u = ((-7), u) := (by unfold sp_grant; (repeat (first | refine (if_pos (by omega)).trans ?_ | refine (if_neg (by omega)).trans ?_)); first | rfl | (have h1 : t.toInt = 1 := (by omega); have hg : zs_gend u k t li = zs_mn (u 1 0 + zs_most u (u 11 (zn k)) t li) (u 14 (zn k)) := congrArg (zs_mn _) (if_pos h1); rw [if_pos h1, hg] <;> rfl) | (have h1 : ¬ t.toInt = 1 := (by omega); have hg : zs_gend u k t li = zs_mn (u 1 0 + zs_most u (u 11 (zn k)) t li) (u 15 (zn k)) := congrArg (zs_mn _) (if_neg h1); rw [if_neg h1, hg] <;> rfl) | (exfalso; omega))
                              exact zr_iret X hW dX10_grant_177 (Nat.le_refl _) (Nat.le_refl _) ⟨rfl, rfl, by rw [e9], by rw [e9]⟩
                        · refine lv_bipush (v := (-4)) X.1 X.2.1 dX10_grant_152 (by decide) ?_
                          have e9 : sp_grant k cl t nc li u = ((-4), u) := (by unfold sp_grant; (repeat (first | refine (if_pos (by omega)).trans ?_ | refine (if_neg (by omega)).trans ?_)); first | rfl | (have h1 : t.toInt = 1 := (by omega); have hg : zs_gend u k t li = zs_mn (u 1 0 + zs_most u (u 11 (zn k)) t li) (u 14 (zn k)) := congrArg (zs_mn _) (if_pos h1); rw [if_pos h1, hg] <;> rfl) | (have h1 : ¬ t.toInt = 1 := (by omega); have hg : zs_gend u k t li = zs_mn (u 1 0 + zs_most u (u 11 (zn k)) t li) (u 15 (zn k)) := congrArg (zs_mn _) (if_neg h1); rw [if_neg h1, hg] <;> rfl) | (exfalso; omega))
                          exact zr_iret X hW dX10_grant_154 (Nat.le_refl _) (Nat.le_refl _) ⟨rfl, rfl, by rw [e9], by rw [e9]⟩
                      · subst h9
                        have h_11 : ¬ (zs_nr u (u 13 (zn cl)) (u 1 0)) := h_11
                        refine zr_if_eq (a := 0) (tgt := 152) X dX10_grant_134 (by decide) (by decide) (fun _ => ?_) (fun c9 => absurd c9 (by decide))
                        refine lv_bipush (v := (-4)) X.1 X.2.1 dX10_grant_152 (by decide) ?_
                        have e9 : sp_grant k cl t nc li u = ((-4), u) := (by unfold sp_grant; (repeat (first | refine (if_pos (by omega)).trans ?_ | refine (if_neg (by omega)).trans ?_)); first | rfl | (have h1 : t.toInt = 1 := (by omega); have hg : zs_gend u k t li = zs_mn (u 1 0 + zs_most u (u 11 (zn k)) t li) (u 14 (zn k)) := congrArg (zs_mn _) (if_pos h1); rw [if_pos h1, hg] <;> rfl) | (have h1 : ¬ t.toInt = 1 := (by omega); have hg : zs_gend u k t li = zs_mn (u 1 0 + zs_most u (u 11 (zn k)) t li) (u 15 (zn k)) := congrArg (zs_mn _) (if_neg h1); rw [if_neg h1, hg] <;> rfl) | (exfalso; omega))
                        exact zr_iret X hW dX10_grant_154 (Nat.le_refl _) (Nat.le_refl _) ⟨rfl, rfl, by rw [e9], by rw [e9]⟩
                    · subst h9
                      have h_10 : ¬ (zs_bk u (u 11 (zn k))) := h_10
                      refine zr_if_ne (a := 0) (tgt := 118) X dX10_grant_112 (by decide) (by decide) (fun c9 => absurd c9 (by decide)) (fun _ => ?_)
                      refine lv_bipush (v := (-3)) X.1 X.2.1 dX10_grant_115 (by decide) ?_
                      have e9 : sp_grant k cl t nc li u = ((-3), u) := (by unfold sp_grant; (repeat (first | refine (if_pos (by omega)).trans ?_ | refine (if_neg (by omega)).trans ?_)); first | rfl | (have h1 : t.toInt = 1 := (by omega); have hg : zs_gend u k t li = zs_mn (u 1 0 + zs_most u (u 11 (zn k)) t li) (u 14 (zn k)) := congrArg (zs_mn _) (if_pos h1); rw [if_pos h1, hg] <;> rfl) | (have h1 : ¬ t.toInt = 1 := (by omega); have hg : zs_gend u k t li = zs_mn (u 1 0 + zs_most u (u 11 (zn k)) t li) (u 15 (zn k)) := congrArg (zs_mn _) (if_neg h1); rw [if_neg h1, hg] <;> rfl) | (exfalso; omega))
                      exact zr_iret X hW dX10_grant_117 (Nat.le_refl _) (Nat.le_refl _) ⟨rfl, rfl, by rw [e9], by rw [e9]⟩
                  · subst h9
                    have h_9 : ¬ (zs_us (u 11 (zn k))) := h_9
                    refine zr_if_eq (a := 0) (tgt := 115) X dX10_grant_103 (by decide) (by decide) (fun _ => ?_) (fun c9 => absurd c9 (by decide))
                    refine lv_bipush (v := (-3)) X.1 X.2.1 dX10_grant_115 (by decide) ?_
                    have e9 : sp_grant k cl t nc li u = ((-3), u) := (by unfold sp_grant; (repeat (first | refine (if_pos (by omega)).trans ?_ | refine (if_neg (by omega)).trans ?_)); first | rfl | (have h1 : t.toInt = 1 := (by omega); have hg : zs_gend u k t li = zs_mn (u 1 0 + zs_most u (u 11 (zn k)) t li) (u 14 (zn k)) := congrArg (zs_mn _) (if_pos h1); rw [if_pos h1, hg] <;> rfl) | (have h1 : ¬ t.toInt = 1 := (by omega); have hg : zs_gend u k t li = zs_mn (u 1 0 + zs_most u (u 11 (zn k)) t li) (u 15 (zn k)) := congrArg (zs_mn _) (if_neg h1); rw [if_neg h1, hg] <;> rfl) | (exfalso; omega))
                    exact zr_iret X hW dX10_grant_117 (Nat.le_refl _) (Nat.le_refl _) ⟨rfl, rfl, by rw [e9], by rw [e9]⟩
            · subst h9
              have h_6 : ¬ (zs_op u (u 12 (zn k)) cl 4) := h_6
              refine zr_if_ne (a := 0) (tgt := 69) X dX10_grant_63 (by decide) (by decide) (fun c9 => absurd c9 (by decide)) (fun _ => ?_)
              refine lv_bipush (v := (-2)) X.1 X.2.1 dX10_grant_66 (by decide) ?_
              have e9 : sp_grant k cl t nc li u = ((-2), u) := (by unfold sp_grant; (repeat (first | refine (if_pos (by omega)).trans ?_ | refine (if_neg (by omega)).trans ?_)); first | rfl | (have h1 : t.toInt = 1 := (by omega); have hg : zs_gend u k t li = zs_mn (u 1 0 + zs_most u (u 11 (zn k)) t li) (u 14 (zn k)) := congrArg (zs_mn _) (if_pos h1); rw [if_pos h1, hg] <;> rfl) | (have h1 : ¬ t.toInt = 1 := (by omega); have hg : zs_gend u k t li = zs_mn (u 1 0 + zs_most u (u 11 (zn k)) t li) (u 15 (zn k)) := congrArg (zs_mn _) (if_neg h1); rw [if_neg h1, hg] <;> rfl) | (exfalso; omega))
              exact zr_iret X hW dX10_grant_68 (Nat.le_refl _) (Nat.le_refl _) ⟨rfl, rfl, by rw [e9], by rw [e9]⟩
          · subst h9
            have h_5 : ¬ (zs_op u (u 5 0) k 2) := h_5
            refine zr_if_ne (a := 0) (tgt := 51) X dX10_grant_45 (by decide) (by decide) (fun c9 => absurd c9 (by decide)) (fun _ => ?_)
            refine lv_bipush (v := (-2)) X.1 X.2.1 dX10_grant_48 (by decide) ?_
            have e9 : sp_grant k cl t nc li u = ((-2), u) := (by unfold sp_grant; (repeat (first | refine (if_pos (by omega)).trans ?_ | refine (if_neg (by omega)).trans ?_)); first | rfl | (have h1 : t.toInt = 1 := (by omega); have hg : zs_gend u k t li = zs_mn (u 1 0 + zs_most u (u 11 (zn k)) t li) (u 14 (zn k)) := congrArg (zs_mn _) (if_pos h1); rw [if_pos h1, hg] <;> rfl) | (have h1 : ¬ t.toInt = 1 := (by omega); have hg : zs_gend u k t li = zs_mn (u 1 0 + zs_most u (u 11 (zn k)) t li) (u 15 (zn k)) := congrArg (zs_mn _) (if_neg h1); rw [if_neg h1, hg] <;> rfl) | (exfalso; omega))
            exact zr_iret X hW dX10_grant_50 (Nat.le_refl _) (Nat.le_refl _) ⟨rfl, rfl, by rw [e9], by rw [e9]⟩
        · refine lv_iconst (v := (-1)) X.1 X.2.1 dX10_grant_31 (by decide) ?_
          have e9 : sp_grant k cl t nc li u = ((-1), u) := (by unfold sp_grant; (repeat (first | refine (if_pos (by omega)).trans ?_ | refine (if_neg (by omega)).trans ?_)); first | rfl | (have h1 : t.toInt = 1 := (by omega); have hg : zs_gend u k t li = zs_mn (u 1 0 + zs_most u (u 11 (zn k)) t li) (u 14 (zn k)) := congrArg (zs_mn _) (if_pos h1); rw [if_pos h1, hg] <;> rfl) | (have h1 : ¬ t.toInt = 1 := (by omega); have hg : zs_gend u k t li = zs_mn (u 1 0 + zs_most u (u 11 (zn k)) t li) (u 15 (zn k)) := congrArg (zs_mn _) (if_neg h1); rw [if_neg h1, hg] <;> rfl) | (exfalso; omega))
          exact zr_iret X hW dX10_grant_32 (Nat.le_refl _) (Nat.le_refl _) ⟨rfl, rfl, by rw [e9], by rw [e9]⟩
      · subst h9
        have h_3 : ¬ (zs_bk u 0) := h_3
        refine zr_if_eq (a := 0) (tgt := 31) X dX10_grant_22 (by decide) (by decide) (fun _ => ?_) (fun c9 => absurd c9 (by decide))
        refine lv_iconst (v := (-1)) X.1 X.2.1 dX10_grant_31 (by decide) ?_
        have e9 : sp_grant k cl t nc li u = ((-1), u) := (by unfold sp_grant; (repeat (first | refine (if_pos (by omega)).trans ?_ | refine (if_neg (by omega)).trans ?_)); first | rfl | (have h1 : t.toInt = 1 := (by omega); have hg : zs_gend u k t li = zs_mn (u 1 0 + zs_most u (u 11 (zn k)) t li) (u 14 (zn k)) := congrArg (zs_mn _) (if_pos h1); rw [if_pos h1, hg] <;> rfl) | (have h1 : ¬ t.toInt = 1 := (by omega); have hg : zs_gend u k t li = zs_mn (u 1 0 + zs_most u (u 11 (zn k)) t li) (u 15 (zn k)) := congrArg (zs_mn _) (if_neg h1); rw [if_neg h1, hg] <;> rfl) | (exfalso; omega))
        exact zr_iret X hW dX10_grant_32 (Nat.le_refl _) (Nat.le_refl _) ⟨rfl, rfl, by rw [e9], by rw [e9]⟩
    · subst h9
      have h_2 : ¬ (zs_bk u t) := h_2
      refine zr_if_eq (a := 0) (tgt := 31) X dX10_grant_14 (by decide) (by decide) (fun _ => ?_) (fun c9 => absurd c9 (by decide))
      refine lv_iconst (v := (-1)) X.1 X.2.1 dX10_grant_31 (by decide) ?_
      have e9 : sp_grant k cl t nc li u = ((-1), u) := (by unfold sp_grant; (repeat (first | refine (if_pos (by omega)).trans ?_ | refine (if_neg (by omega)).trans ?_)); first | rfl | (have h1 : t.toInt = 1 := (by omega); have hg : zs_gend u k t li = zs_mn (u 1 0 + zs_most u (u 11 (zn k)) t li) (u 14 (zn k)) := congrArg (zs_mn _) (if_pos h1); rw [if_pos h1, hg] <;> rfl) | (have h1 : ¬ t.toInt = 1 := (by omega); have hg : zs_gend u k t li = zs_mn (u 1 0 + zs_most u (u 11 (zn k)) t li) (u 15 (zn k)) := congrArg (zs_mn _) (if_neg h1); rw [if_neg h1, hg] <;> rfl) | (exfalso; omega))
      exact zr_iret X hW dX10_grant_32 (Nat.le_refl _) (Nat.le_refl _) ⟨rfl, rfl, by rw [e9], by rw [e9]⟩
  · subst h9
    have h_1 : ¬ (zi_in t 0 1) := h_1
    refine zr_if_eq (a := 0) (tgt := 31) X dX10_grant_6 (by decide) (by decide) (fun _ => ?_) (fun c9 => absurd c9 (by decide))
    refine lv_iconst (v := (-1)) X.1 X.2.1 dX10_grant_31 (by decide) ?_
    have e9 : sp_grant k cl t nc li u = ((-1), u) := (by unfold sp_grant; (repeat (first | refine (if_pos (by omega)).trans ?_ | refine (if_neg (by omega)).trans ?_)); first | rfl | (have h1 : t.toInt = 1 := (by omega); have hg : zs_gend u k t li = zs_mn (u 1 0 + zs_most u (u 11 (zn k)) t li) (u 14 (zn k)) := congrArg (zs_mn _) (if_pos h1); rw [if_pos h1, hg] <;> rfl) | (have h1 : ¬ t.toInt = 1 := (by omega); have hg : zs_gend u k t li = zs_mn (u 1 0 + zs_most u (u 11 (zn k)) t li) (u 15 (zn k)) := congrArg (zs_mn _) (if_neg h1); rw [if_neg h1, hg] <;> rfl) | (exfalso; omega))
    exact zr_iret X hW dX10_grant_32 (Nat.le_refl _) (Nat.le_refl _) ⟨rfl, rfl, by rw [e9], by rw [e9]⟩

set_option maxHeartbeats 4000000 in
set_option maxRecDepth 100000 in
theorem c_X10_forge (l : Launch) (Y : zw_Y) (N0 : Nat) (ad : Nat → Nat) (sh : Nat → Option zw_Sh) (u g0 : zm_T) (hM : zm_S sh) (key k cn a b : Int32) (hI : zm_I u) : zw_Met l Y N0 yX10_forge cX10_forge 7 (some .int) 2 51 0 0 ad sh (zm_mix u g0) [.ref (ad 0), .int key, .int k, .int cn, .int a, .int b] (zp_S ad sh g0 (sp_forge key k cn a b u)) := by
  refine zw_meth (by decide) (Nat.le_of_ble_eq_true rfl) ?_
  intro p e s m below meth c ls X hnm hl hW
  have hl : lv_has ls 7 [(0, .ref (ad 0)), (1, .int key), (2, .int k), (3, .int cn), (4, .int a), (5, .int b)] := hl
  have hse := zI_se hI
  have hke := zI_ke hI
  have hs1 := zi_sub (u 0 8) 1 (by rw [show (1 : Int32).toInt = 1 from rfl]; omega)
  rw [show (1 : Int32).toInt = 1 from rfl] at hs1
  refine lv_iload_n X.1 X.2.1 dX10_forge_0 rfl (lv_at hl 2 rfl) ?_
  refine lv_iconst (v := 1) X.1 X.2.1 dX10_forge_1 (by decide) ?_
  refine lv_iconst (v := 4) X.1 X.2.1 dX10_forge_2 (by decide) ?_
  refine zr_callS (As := [.int k, .int 1, .int 4]) (rest := []) X hW hl.1 md_X10_in ms_X10_87 dX10_forge_3 rfl rfl (Nat.le_of_ble_eq_true rfl) ⟨Nat.le_of_ble_eq_true rfl, Nat.le_of_ble_eq_true rfl⟩ ⟨Nat.le_of_ble_eq_true rfl, Nat.le_of_ble_eq_true rfl⟩ (c_X10_in l Y N0 ad sh (zm_mix u g0) k 1 4) (fun v9 ad9 sh9 g9 H locs hp hW => ?_)
  rcases hp with ⟨rfl, rfl, rfl, ⟨h_1, h9⟩ | ⟨h_1, h9⟩⟩
  · subst h9
    have h_1 : zi_in k 1 4 := h_1
    refine zr_if_eq (a := 1) (tgt := 23) X dX10_forge_6 (by decide) (by decide) (fun c9 => absurd c9 (by decide)) (fun _ => ?_)
    refine lv_iload_n X.1 X.2.1 dX10_forge_9 rfl (lv_at hl 2 rfl) ?_
    refine lv_iconst (v := 3) X.1 X.2.1 dX10_forge_10 (by decide) ?_
    refine zr_icmp_eq (a := (k).toInt) (b := 3) (tgt := 25) X dX10_forge_11 (by decide) rfl (by decide) (fun c_2 => ?_) (fun c_2 => ?_)
    · refine lv_aload_n X.1 X.2.1 dX10_forge_25 rfl (lv_at hl 0 rfl) ?_
      refine lv_iload_n X.1 X.2.1 dX10_forge_26 rfl (lv_at hl 1 rfl) ?_
      refine zr_callV (As := [.int key]) (rest := []) X hW hl.1 md_X10_isStolen ms_X10_159 dX10_forge_27 (zm_s0 hM) rfl rfl rfl rfl (Nat.le_of_ble_eq_true rfl) ⟨Nat.le_of_ble_eq_true rfl, Nat.le_of_ble_eq_true rfl⟩ ⟨Nat.le_of_ble_eq_true rfl, Nat.le_of_ble_eq_true rfl⟩ (c_X10_isStolen l Y N0 ad sh u g0 hM key hI) (fun v9 ad9 sh9 g9 H locs hp hW => ?_)
      rcases hp with ⟨rfl, rfl, rfl, ⟨h_3, h9⟩ | ⟨h_3, h9⟩⟩
      · subst h9
        have h_3 : zs_st u key := h_3
        refine zr_if_eq (a := 1) (tgt := 52) X dX10_forge_30 (by decide) (by decide) (fun c9 => absurd c9 (by decide)) (fun _ => ?_)
        refine lv_iload_n X.1 X.2.1 dX10_forge_33 rfl (lv_at hl 2 rfl) ?_
        refine lv_iconst (v := 2) X.1 X.2.1 dX10_forge_34 (by decide) ?_
        refine zr_icmp_eq (a := (k).toInt) (b := 2) (tgt := 43) X dX10_forge_35 (by decide) rfl (by decide) (fun c9 => absurd c9 (by omega)) (fun _ => ?_)
        refine lv_iload_n X.1 X.2.1 dX10_forge_38 rfl (lv_at hl 2 rfl) ?_
        refine lv_iconst (v := 3) X.1 X.2.1 dX10_forge_39 (by decide) ?_
        refine zr_icmp_ne (a := (k).toInt) (b := 3) (tgt := 55) X dX10_forge_40 (by decide) rfl (by decide) (fun c9 => absurd c9 (by omega)) (fun _ => ?_)
        refine lv_aload_n X.1 X.2.1 dX10_forge_43 rfl (lv_at hl 0 rfl) ?_
        refine lv_iload X.1 X.2.1 dX10_forge_44 (lv_at hl 4 rfl) ?_
        refine zr_callV (As := [.int a]) (rest := []) X hW hl.1 md_X10_isStolen ms_X10_159 dX10_forge_46 (zm_s0 hM) rfl rfl rfl rfl (Nat.le_of_ble_eq_true rfl) ⟨Nat.le_of_ble_eq_true rfl, Nat.le_of_ble_eq_true rfl⟩ ⟨Nat.le_of_ble_eq_true rfl, Nat.le_of_ble_eq_true rfl⟩ (c_X10_isStolen l Y N0 ad sh u g0 hM a hI) (fun v9 ad9 sh9 g9 H locs hp hW => ?_)
        rcases hp with ⟨rfl, rfl, rfl, ⟨h_4, h9⟩ | ⟨h_4, h9⟩⟩
        · subst h9
          have h_4 : zs_st u a := h_4
          refine zr_if_ne (a := 1) (tgt := 55) X dX10_forge_49 (by decide) (by decide) (fun _ => ?_) (fun c9 => absurd c9 (by decide))
          refine lv_aload_n X.1 X.2.1 dX10_forge_55 rfl (lv_at hl 0 rfl) ?_
          refine zr_get (v := .int (u 0 8)) X hW fs_X10_102_9 dX10_forge_56 (zm_s0 hM) rfl rfl rfl ?_
          refine lv_sipush (v := 150) X.1 X.2.1 dX10_forge_59 (by decide) ?_
          refine zr_icmp_lt (a := (u 0 8).toInt) (b := 150) (tgt := 68) X dX10_forge_62 (by decide) rfl (by decide) (fun c_5 => ?_) (fun c_5 => ?_)
          · refine lv_iload_n X.1 X.2.1 dX10_forge_68 rfl (lv_at hl 2 rfl) ?_
            refine lv_iconst (v := 1) X.1 X.2.1 dX10_forge_69 (by decide) ?_
            refine zr_icmp_ne (a := (k).toInt) (b := 1) (tgt := 82) X dX10_forge_70 (by decide) rfl (by decide) (fun _ => ?_) (fun c9 => absurd c9 (by omega))
            refine lv_iload_n X.1 X.2.1 dX10_forge_82 rfl (lv_at hl 2 rfl) ?_
            refine lv_iconst (v := 2) X.1 X.2.1 dX10_forge_83 (by decide) ?_
            refine zr_icmp_ne (a := (k).toInt) (b := 2) (tgt := 101) X dX10_forge_84 (by decide) rfl (by decide) (fun _ => ?_) (fun c9 => absurd c9 (by omega))
            refine lv_iload_n X.1 X.2.1 dX10_forge_101 rfl (lv_at hl 2 rfl) ?_
            refine lv_iconst (v := 3) X.1 X.2.1 dX10_forge_102 (by decide) ?_
            refine zr_icmp_ne (a := (k).toInt) (b := 3) (tgt := 119) X dX10_forge_103 (by decide) rfl (by decide) (fun c9 => absurd c9 (by omega)) (fun _ => ?_)
            refine lv_aload_n X.1 X.2.1 dX10_forge_106 rfl (lv_at hl 0 rfl) ?_
            refine lv_iload_n X.1 X.2.1 dX10_forge_107 rfl (lv_at hl 1 rfl) ?_
            refine lv_iload X.1 X.2.1 dX10_forge_108 (lv_at hl 4 rfl) ?_
            refine lv_iload X.1 X.2.1 dX10_forge_110 (lv_at hl 5 rfl) ?_
            refine lv_iconst (v := 1) X.1 X.2.1 dX10_forge_112 (by decide) ?_
            refine lv_ldc (v := 1000000) X.1 X.2.1 X.2.2.2.1 (X.2.2.2.2.1 _ (zt_in (zt_t4 80 rfl) rfl)) dX10_forge_113 ?_
            refine zr_callV (As := [.int key, .int a, .int b, .int 1, .int 1000000]) (rest := []) X hW hl.1 md_X10_makePart ms_X10_133 dX10_forge_115 (zm_s0 hM) rfl rfl rfl rfl (Nat.le_of_ble_eq_true rfl) ⟨Nat.le_of_ble_eq_true rfl, Nat.le_of_ble_eq_true rfl⟩ ⟨Nat.le_of_ble_eq_true rfl, Nat.le_of_ble_eq_true rfl⟩ (c_X10_makePart l Y N0 ad sh u g0 hM key a b 1 1000000 (by omega)) (fun v9 ad9 sh9 g9 H locs hp hW => ?_)
            obtain ⟨rfl, rfl, _, rfl, rfl, rfl⟩ := hp
            obtain ⟨u_7, hu_7⟩ : ∃ z : zm_T, z = zs_mk u (zs_v 3 key (-1) a b 1 1000000 0 0 0) := ⟨_, rfl⟩
            rw [← hu_7] at hW
            have e9 : sp_forge key k cn a b u = (u 0 8, u_7) := (by subst hu_7; unfold sp_forge; (repeat (first | refine (if_pos (by omega)).trans ?_ | refine (if_neg (by omega)).trans ?_)); first | rfl | (refine congrArg (fun z => ((u 0 8, zs_mk u z) : Int32 × zm_T)) ?_; (repeat (first | refine (if_pos (by omega)).trans ?_ | refine (if_neg (by omega)).trans ?_)); rfl) | (rw [zs_mk3 rfl]; refine congrArg (fun z => ((u 0 8, zs_mk u z) : Int32 × zm_T)) ?_; (repeat (first | refine (if_pos (by omega)).trans ?_ | refine (if_neg (by omega)).trans ?_)); rfl))
            exact zr_iret X hW dX10_forge_118 (Nat.le_refl _) (Nat.le_refl _) ⟨rfl, rfl, by rw [e9], by rw [e9]⟩
          · refine lv_bipush (v := (-7)) X.1 X.2.1 dX10_forge_65 (by decide) ?_
            have e9 : sp_forge key k cn a b u = ((-7), u) := (by unfold sp_forge; (repeat (first | refine (if_pos (by omega)).trans ?_ | refine (if_neg (by omega)).trans ?_)); first | rfl | (refine congrArg (fun z => ((u 0 8, zs_mk u z) : Int32 × zm_T)) ?_; (repeat (first | refine (if_pos (by omega)).trans ?_ | refine (if_neg (by omega)).trans ?_)); rfl) | (rw [zs_mk3 rfl]; refine congrArg (fun z => ((u 0 8, zs_mk u z) : Int32 × zm_T)) ?_; (repeat (first | refine (if_pos (by omega)).trans ?_ | refine (if_neg (by omega)).trans ?_)); rfl))
            exact zr_iret X hW dX10_forge_67 (Nat.le_refl _) (Nat.le_refl _) ⟨rfl, rfl, by rw [e9], by rw [e9]⟩
        · subst h9
          have h_4 : ¬ (zs_st u a) := h_4
          refine zr_if_ne (a := 0) (tgt := 55) X dX10_forge_49 (by decide) (by decide) (fun c9 => absurd c9 (by decide)) (fun _ => ?_)
          refine lv_bipush (v := (-2)) X.1 X.2.1 dX10_forge_52 (by decide) ?_
          have e9 : sp_forge key k cn a b u = ((-2), u) := (by unfold sp_forge; (repeat (first | refine (if_pos (by omega)).trans ?_ | refine (if_neg (by omega)).trans ?_)); first | rfl | (refine congrArg (fun z => ((u 0 8, zs_mk u z) : Int32 × zm_T)) ?_; (repeat (first | refine (if_pos (by omega)).trans ?_ | refine (if_neg (by omega)).trans ?_)); rfl) | (rw [zs_mk3 rfl]; refine congrArg (fun z => ((u 0 8, zs_mk u z) : Int32 × zm_T)) ?_; (repeat (first | refine (if_pos (by omega)).trans ?_ | refine (if_neg (by omega)).trans ?_)); rfl))
          exact zr_iret X hW dX10_forge_54 (Nat.le_refl _) (Nat.le_refl _) ⟨rfl, rfl, by rw [e9], by rw [e9]⟩
      · subst h9
        have h_3 : ¬ (zs_st u key) := h_3
        refine zr_if_eq (a := 0) (tgt := 52) X dX10_forge_30 (by decide) (by decide) (fun _ => ?_) (fun c9 => absurd c9 (by decide))
        refine lv_bipush (v := (-2)) X.1 X.2.1 dX10_forge_52 (by decide) ?_
        have e9 : sp_forge key k cn a b u = ((-2), u) := (by unfold sp_forge; (repeat (first | refine (if_pos (by omega)).trans ?_ | refine (if_neg (by omega)).trans ?_)); first | rfl | (refine congrArg (fun z => ((u 0 8, zs_mk u z) : Int32 × zm_T)) ?_; (repeat (first | refine (if_pos (by omega)).trans ?_ | refine (if_neg (by omega)).trans ?_)); rfl) | (rw [zs_mk3 rfl]; refine congrArg (fun z => ((u 0 8, zs_mk u z) : Int32 × zm_T)) ?_; (repeat (first | refine (if_pos (by omega)).trans ?_ | refine (if_neg (by omega)).trans ?_)); rfl))
        exact zr_iret X hW dX10_forge_54 (Nat.le_refl _) (Nat.le_refl _) ⟨rfl, rfl, by rw [e9], by rw [e9]⟩
    · refine lv_iload_n X.1 X.2.1 dX10_forge_14 rfl (lv_at hl 3 rfl) ?_
      refine lv_iconst (v := 0) X.1 X.2.1 dX10_forge_15 (by decide) ?_
      refine lv_iconst (v := 5) X.1 X.2.1 dX10_forge_16 (by decide) ?_
      refine zr_callS (As := [.int cn, .int 0, .int 5]) (rest := []) X hW hl.1 md_X10_in ms_X10_87 dX10_forge_17 rfl rfl (Nat.le_of_ble_eq_true rfl) ⟨Nat.le_of_ble_eq_true rfl, Nat.le_of_ble_eq_true rfl⟩ ⟨Nat.le_of_ble_eq_true rfl, Nat.le_of_ble_eq_true rfl⟩ (c_X10_in l Y N0 ad sh (zm_mix u g0) cn 0 5) (fun v9 ad9 sh9 g9 H locs hp hW => ?_)
      rcases hp with ⟨rfl, rfl, rfl, ⟨h_9, h9⟩ | ⟨h_9, h9⟩⟩
      · subst h9
        have h_9 : zi_in cn 0 5 := h_9
        refine zr_if_ne (a := 1) (tgt := 25) X dX10_forge_20 (by decide) (by decide) (fun _ => ?_) (fun c9 => absurd c9 (by decide))
        refine lv_aload_n X.1 X.2.1 dX10_forge_25 rfl (lv_at hl 0 rfl) ?_
        refine lv_iload_n X.1 X.2.1 dX10_forge_26 rfl (lv_at hl 1 rfl) ?_
        refine zr_callV (As := [.int key]) (rest := []) X hW hl.1 md_X10_isStolen ms_X10_159 dX10_forge_27 (zm_s0 hM) rfl rfl rfl rfl (Nat.le_of_ble_eq_true rfl) ⟨Nat.le_of_ble_eq_true rfl, Nat.le_of_ble_eq_true rfl⟩ ⟨Nat.le_of_ble_eq_true rfl, Nat.le_of_ble_eq_true rfl⟩ (c_X10_isStolen l Y N0 ad sh u g0 hM key hI) (fun v9 ad9 sh9 g9 H locs hp hW => ?_)
        rcases hp with ⟨rfl, rfl, rfl, ⟨h_10, h9⟩ | ⟨h_10, h9⟩⟩
        · subst h9
          have h_10 : zs_st u key := h_10
          refine zr_if_eq (a := 1) (tgt := 52) X dX10_forge_30 (by decide) (by decide) (fun c9 => absurd c9 (by decide)) (fun _ => ?_)
          refine lv_iload_n X.1 X.2.1 dX10_forge_33 rfl (lv_at hl 2 rfl) ?_
          refine lv_iconst (v := 2) X.1 X.2.1 dX10_forge_34 (by decide) ?_
          refine zr_icmp_eq (a := (k).toInt) (b := 2) (tgt := 43) X dX10_forge_35 (by decide) rfl (by decide) (fun c_11 => ?_) (fun c_11 => ?_)
          · refine lv_aload_n X.1 X.2.1 dX10_forge_43 rfl (lv_at hl 0 rfl) ?_
            refine lv_iload X.1 X.2.1 dX10_forge_44 (lv_at hl 4 rfl) ?_
            refine zr_callV (As := [.int a]) (rest := []) X hW hl.1 md_X10_isStolen ms_X10_159 dX10_forge_46 (zm_s0 hM) rfl rfl rfl rfl (Nat.le_of_ble_eq_true rfl) ⟨Nat.le_of_ble_eq_true rfl, Nat.le_of_ble_eq_true rfl⟩ ⟨Nat.le_of_ble_eq_true rfl, Nat.le_of_ble_eq_true rfl⟩ (c_X10_isStolen l Y N0 ad sh u g0 hM a hI) (fun v9 ad9 sh9 g9 H locs hp hW => ?_)
            rcases hp with ⟨rfl, rfl, rfl, ⟨h_12, h9⟩ | ⟨h_12, h9⟩⟩
            · subst h9
              have h_12 : zs_st u a := h_12
              refine zr_if_ne (a := 1) (tgt := 55) X dX10_forge_49 (by decide) (by decide) (fun _ => ?_) (fun c9 => absurd c9 (by decide))
              refine lv_aload_n X.1 X.2.1 dX10_forge_55 rfl (lv_at hl 0 rfl) ?_
              refine zr_get (v := .int (u 0 8)) X hW fs_X10_102_9 dX10_forge_56 (zm_s0 hM) rfl rfl rfl ?_
              refine lv_sipush (v := 150) X.1 X.2.1 dX10_forge_59 (by decide) ?_
              refine zr_icmp_lt (a := (u 0 8).toInt) (b := 150) (tgt := 68) X dX10_forge_62 (by decide) rfl (by decide) (fun c_13 => ?_) (fun c_13 => ?_)
              · refine lv_iload_n X.1 X.2.1 dX10_forge_68 rfl (lv_at hl 2 rfl) ?_
                refine lv_iconst (v := 1) X.1 X.2.1 dX10_forge_69 (by decide) ?_
                refine zr_icmp_ne (a := (k).toInt) (b := 1) (tgt := 82) X dX10_forge_70 (by decide) rfl (by decide) (fun _ => ?_) (fun c9 => absurd c9 (by omega))
                refine lv_iload_n X.1 X.2.1 dX10_forge_82 rfl (lv_at hl 2 rfl) ?_
                refine lv_iconst (v := 2) X.1 X.2.1 dX10_forge_83 (by decide) ?_
                refine zr_icmp_ne (a := (k).toInt) (b := 2) (tgt := 101) X dX10_forge_84 (by decide) rfl (by decide) (fun c9 => absurd c9 (by omega)) (fun _ => ?_)
                refine lv_aload_n X.1 X.2.1 dX10_forge_87 rfl (lv_at hl 0 rfl) ?_
                refine lv_iload_n X.1 X.2.1 dX10_forge_88 rfl (lv_at hl 1 rfl) ?_
                refine lv_iload_n X.1 X.2.1 dX10_forge_89 rfl (lv_at hl 3 rfl) ?_
                refine lv_iload X.1 X.2.1 dX10_forge_90 (lv_at hl 4 rfl) ?_
                refine lv_iconst (v := 0) X.1 X.2.1 dX10_forge_92 (by decide) ?_
                refine lv_iload X.1 X.2.1 dX10_forge_93 (lv_at hl 5 rfl) ?_
                refine lv_iload X.1 X.2.1 dX10_forge_95 (lv_at hl 5 rfl) ?_
                refine zr_callV (As := [.int key, .int cn, .int a, .int 0, .int b, .int b]) (rest := []) X hW hl.1 md_X10_makeTicket ms_X10_129 dX10_forge_97 (zm_s0 hM) rfl rfl rfl rfl (Nat.le_of_ble_eq_true rfl) ⟨Nat.le_of_ble_eq_true rfl, Nat.le_of_ble_eq_true rfl⟩ ⟨Nat.le_of_ble_eq_true rfl, Nat.le_of_ble_eq_true rfl⟩ (c_X10_makeTicket l Y N0 ad sh u g0 hM key cn a 0 b b (by omega)) (fun v9 ad9 sh9 g9 H locs hp hW => ?_)
                obtain ⟨rfl, rfl, _, rfl, rfl, rfl⟩ := hp
                obtain ⟨u_15, hu_15⟩ : ∃ z : zm_T, z = zs_mk u (zs_v 2 key cn a 0 b b 0 0 0) := ⟨_, rfl⟩
                rw [← hu_15] at hW
                have e9 : sp_forge key k cn a b u = (u 0 8, u_15) := (by subst hu_15; unfold sp_forge; (repeat (first | refine (if_pos (by omega)).trans ?_ | refine (if_neg (by omega)).trans ?_)); first | rfl | (refine congrArg (fun z => ((u 0 8, zs_mk u z) : Int32 × zm_T)) ?_; (repeat (first | refine (if_pos (by omega)).trans ?_ | refine (if_neg (by omega)).trans ?_)); rfl) | (rw [zs_mk3 rfl]; refine congrArg (fun z => ((u 0 8, zs_mk u z) : Int32 × zm_T)) ?_; (repeat (first | refine (if_pos (by omega)).trans ?_ | refine (if_neg (by omega)).trans ?_)); rfl))
                exact zr_iret X hW dX10_forge_100 (Nat.le_refl _) (Nat.le_refl _) ⟨rfl, rfl, by rw [e9], by rw [e9]⟩
              · refine lv_bipush (v := (-7)) X.1 X.2.1 dX10_forge_65 (by decide) ?_
                have e9 : sp_forge key k cn a b u = ((-7), u) := (by unfold sp_forge; (repeat (first | refine (if_pos (by omega)).trans ?_ | refine (if_neg (by omega)).trans ?_)); first | rfl | (refine congrArg (fun z => ((u 0 8, zs_mk u z) : Int32 × zm_T)) ?_; (repeat (first | refine (if_pos (by omega)).trans ?_ | refine (if_neg (by omega)).trans ?_)); rfl) | (rw [zs_mk3 rfl]; refine congrArg (fun z => ((u 0 8, zs_mk u z) : Int32 × zm_T)) ?_; (repeat (first | refine (if_pos (by omega)).trans ?_ | refine (if_neg (by omega)).trans ?_)); rfl))
                exact zr_iret X hW dX10_forge_67 (Nat.le_refl _) (Nat.le_refl _) ⟨rfl, rfl, by rw [e9], by rw [e9]⟩
            · subst h9
              have h_12 : ¬ (zs_st u a) := h_12
              refine zr_if_ne (a := 0) (tgt := 55) X dX10_forge_49 (by decide) (by decide) (fun c9 => absurd c9 (by decide)) (fun _ => ?_)
              refine lv_bipush (v := (-2)) X.1 X.2.1 dX10_forge_52 (by decide) ?_
              have e9 : sp_forge key k cn a b u = ((-2), u) := (by unfold sp_forge; (repeat (first | refine (if_pos (by omega)).trans ?_ | refine (if_neg (by omega)).trans ?_)); first | rfl | (refine congrArg (fun z => ((u 0 8, zs_mk u z) : Int32 × zm_T)) ?_; (repeat (first | refine (if_pos (by omega)).trans ?_ | refine (if_neg (by omega)).trans ?_)); rfl) | (rw [zs_mk3 rfl]; refine congrArg (fun z => ((u 0 8, zs_mk u z) : Int32 × zm_T)) ?_; (repeat (first | refine (if_pos (by omega)).trans ?_ | refine (if_neg (by omega)).trans ?_)); rfl))
              exact zr_iret X hW dX10_forge_54 (Nat.le_refl _) (Nat.le_refl _) ⟨rfl, rfl, by rw [e9], by rw [e9]⟩
          · refine lv_iload_n X.1 X.2.1 dX10_forge_38 rfl (lv_at hl 2 rfl) ?_
            refine lv_iconst (v := 3) X.1 X.2.1 dX10_forge_39 (by decide) ?_
            refine zr_icmp_ne (a := (k).toInt) (b := 3) (tgt := 55) X dX10_forge_40 (by decide) rfl (by decide) (fun _ => ?_) (fun c9 => absurd c9 (by omega))
            refine lv_aload_n X.1 X.2.1 dX10_forge_55 rfl (lv_at hl 0 rfl) ?_
            refine zr_get (v := .int (u 0 8)) X hW fs_X10_102_9 dX10_forge_56 (zm_s0 hM) rfl rfl rfl ?_
            refine lv_sipush (v := 150) X.1 X.2.1 dX10_forge_59 (by decide) ?_
            refine zr_icmp_lt (a := (u 0 8).toInt) (b := 150) (tgt := 68) X dX10_forge_62 (by decide) rfl (by decide) (fun c_17 => ?_) (fun c_17 => ?_)
            · refine lv_iload_n X.1 X.2.1 dX10_forge_68 rfl (lv_at hl 2 rfl) ?_
              refine lv_iconst (v := 1) X.1 X.2.1 dX10_forge_69 (by decide) ?_
              refine zr_icmp_ne (a := (k).toInt) (b := 1) (tgt := 82) X dX10_forge_70 (by decide) rfl (by decide) (fun c_18 => ?_) (fun c_18 => ?_)
              · refine lv_iload_n X.1 X.2.1 dX10_forge_82 rfl (lv_at hl 2 rfl) ?_
                refine lv_iconst (v := 2) X.1 X.2.1 dX10_forge_83 (by decide) ?_
                refine zr_icmp_ne (a := (k).toInt) (b := 2) (tgt := 101) X dX10_forge_84 (by decide) rfl (by decide) (fun _ => ?_) (fun c9 => absurd c9 (by omega))
                refine lv_iload_n X.1 X.2.1 dX10_forge_101 rfl (lv_at hl 2 rfl) ?_
                refine lv_iconst (v := 3) X.1 X.2.1 dX10_forge_102 (by decide) ?_
                refine zr_icmp_ne (a := (k).toInt) (b := 3) (tgt := 119) X dX10_forge_103 (by decide) rfl (by decide) (fun _ => ?_) (fun c9 => absurd c9 (by omega))
                refine lv_aload_n X.1 X.2.1 dX10_forge_119 rfl (lv_at hl 0 rfl) ?_
                refine lv_iload_n X.1 X.2.1 dX10_forge_120 rfl (lv_at hl 1 rfl) ?_
                refine lv_iload_n X.1 X.2.1 dX10_forge_121 rfl (lv_at hl 3 rfl) ?_
                refine lv_iload X.1 X.2.1 dX10_forge_122 (lv_at hl 5 rfl) ?_
                refine lv_iconst (v := 0) X.1 X.2.1 dX10_forge_124 (by decide) ?_
                refine zr_callV (As := [.int key, .int cn, .int b, .int 0]) (rest := []) X hW hl.1 md_X10_makeClaim ms_X10_123 dX10_forge_125 (zm_s0 hM) rfl rfl rfl rfl (Nat.le_of_ble_eq_true rfl) ⟨Nat.le_of_ble_eq_true rfl, Nat.le_of_ble_eq_true rfl⟩ ⟨Nat.le_of_ble_eq_true rfl, Nat.le_of_ble_eq_true rfl⟩ (c_X10_makeClaim l Y N0 ad sh u g0 hM key cn b 0 (by omega)) (fun v9 ad9 sh9 g9 H locs hp hW => ?_)
                obtain ⟨rfl, rfl, _, rfl, rfl, rfl⟩ := hp
                obtain ⟨u_20, hu_20⟩ : ∃ z : zm_T, z = zs_mk u (zs_v 4 key cn (-1) b 0 0 0 0 0) := ⟨_, rfl⟩
                rw [← hu_20] at hW
                refine lv_istore (lv' := [(6, .int (u 0 8)), (0, .ref (ad 0)), (1, .int key), (2, .int k), (3, .int cn), (4, .int a), (5, .int b)]) X.1 X.2.1 dX10_forge_128 hl (by decide) rfl (fun ls hl => ?_)
                refine lv_aload_n X.1 X.2.1 dX10_forge_130 rfl (lv_at hl 1 rfl) ?_
                refine zr_get (v := .ref (ad 16)) X hW fs_X10_50_9 dX10_forge_131 (zm_s0 hM) rfl rfl rfl ?_
                refine lv_iload X.1 X.2.1 dX10_forge_134 (lv_at hl 0 rfl) ?_
                refine lv_iload X.1 X.2.1 dX10_forge_136 (lv_at hl 5 rfl) ?_
                refine lv_iconst (v := 3) X.1 X.2.1 dX10_forge_138 (by decide) ?_
                refine lv_iand X.1 X.2.1 dX10_forge_139 ?_
                refine zr_iast X hW dX10_forge_140 (zm_s16 hM) rfl rfl (zi_vp (by omega)) (fun H locs hW => ?_)
                have hW : zw_St Y N0 ad sh (zm_mix (zm_w u_20 16 (zn (u 0 8)) (a &&& 3)) g0) s H locs := zm_st (by decide) hW
                obtain ⟨u_22, hu_22⟩ : ∃ z : zm_T, z = zm_w u_20 16 (zn (u 0 8)) (a &&& 3) := ⟨_, rfl⟩
                rw [← hu_22] at hW
                refine lv_aload_n X.1 X.2.1 dX10_forge_141 rfl (lv_at hl 1 rfl) ?_
                refine zr_get (v := .ref (ad 17)) X hW fs_X10_53_9 dX10_forge_142 (zm_s0 hM) rfl rfl rfl ?_
                refine lv_iload X.1 X.2.1 dX10_forge_145 (lv_at hl 0 rfl) ?_
                refine lv_iload X.1 X.2.1 dX10_forge_147 (lv_at hl 5 rfl) ?_
                refine lv_iconst (v := 2) X.1 X.2.1 dX10_forge_149 (by decide) ?_
                refine lv_ishr X.1 X.2.1 dX10_forge_150 ?_
                refine lv_iconst (v := 3) X.1 X.2.1 dX10_forge_151 (by decide) ?_
                refine lv_iand X.1 X.2.1 dX10_forge_152 ?_
                refine lv_iconst (v := 3) X.1 X.2.1 dX10_forge_153 (by decide) ?_
                refine lv_irem X.1 X.2.1 dX10_forge_154 (by decide) ?_
                refine zr_iast X hW dX10_forge_155 (zm_s17 hM) rfl rfl (zi_vp (by omega)) (fun H locs hW => ?_)
                have hW : zw_St Y N0 ad sh (zm_mix (zm_w u_22 17 (zn (u 0 8)) (((a >>> ((2 : Int32) &&& 31)) &&& 3) - ((a >>> ((2 : Int32) &&& 31)) &&& 3) / 3 * 3)) g0) s H locs := zm_st (by decide) hW
                obtain ⟨u_23, hu_23⟩ : ∃ z : zm_T, z = zm_w u_22 17 (zn (u 0 8)) (((a >>> ((2 : Int32) &&& 31)) &&& 3) - ((a >>> ((2 : Int32) &&& 31)) &&& 3) / 3 * 3) := ⟨_, rfl⟩
                rw [← hu_23] at hW
                refine lv_aload_n X.1 X.2.1 dX10_forge_156 rfl (lv_at hl 1 rfl) ?_
                refine zr_get (v := .ref (ad 18)) X hW fs_X10_56_9 dX10_forge_157 (zm_s0 hM) rfl rfl rfl ?_
                refine lv_iload X.1 X.2.1 dX10_forge_160 (lv_at hl 0 rfl) ?_
                refine lv_iload X.1 X.2.1 dX10_forge_162 (lv_at hl 5 rfl) ?_
                refine lv_iconst (v := 4) X.1 X.2.1 dX10_forge_164 (by decide) ?_
                refine lv_ishr X.1 X.2.1 dX10_forge_165 ?_
                refine zr_iast X hW dX10_forge_166 (zm_s18 hM) rfl rfl (zi_vp (by omega)) (fun H locs hW => ?_)
                have hW : zw_St Y N0 ad sh (zm_mix (zm_w u_23 18 (zn (u 0 8)) (a >>> ((4 : Int32) &&& 31))) g0) s H locs := zm_st (by decide) hW
                obtain ⟨u_24, hu_24⟩ : ∃ z : zm_T, z = zm_w u_23 18 (zn (u 0 8)) (a >>> ((4 : Int32) &&& 31)) := ⟨_, rfl⟩
                rw [← hu_24] at hW
                refine lv_iload X.1 X.2.1 dX10_forge_167 (lv_at hl 0 rfl) ?_
                have e9 : sp_forge key k cn a b u = (u 0 8, u_24) := (by subst hu_24 hu_23 hu_22 hu_20; unfold sp_forge; (repeat (first | refine (if_pos (by omega)).trans ?_ | refine (if_neg (by omega)).trans ?_)); first | rfl | (refine congrArg (fun z => ((u 0 8, zs_mk u z) : Int32 × zm_T)) ?_; (repeat (first | refine (if_pos (by omega)).trans ?_ | refine (if_neg (by omega)).trans ?_)); rfl) | (rw [zs_mk3 rfl]; refine congrArg (fun z => ((u 0 8, zs_mk u z) : Int32 × zm_T)) ?_; (repeat (first | refine (if_pos (by omega)).trans ?_ | refine (if_neg (by omega)).trans ?_)); rfl))
                exact zr_iret X hW dX10_forge_169 (Nat.le_refl _) (Nat.le_refl _) ⟨rfl, rfl, by rw [e9], by rw [e9]⟩
              · refine lv_aload_n X.1 X.2.1 dX10_forge_73 rfl (lv_at hl 0 rfl) ?_
                refine lv_iload_n X.1 X.2.1 dX10_forge_74 rfl (lv_at hl 1 rfl) ?_
                refine lv_iload_n X.1 X.2.1 dX10_forge_75 rfl (lv_at hl 3 rfl) ?_
                refine lv_iload X.1 X.2.1 dX10_forge_76 (lv_at hl 5 rfl) ?_
                refine zr_callV (As := [.int key, .int cn, .int b]) (rest := []) X hW hl.1 md_X10_makeProof ms_X10_119 dX10_forge_78 (zm_s0 hM) rfl rfl rfl rfl (Nat.le_of_ble_eq_true rfl) ⟨Nat.le_of_ble_eq_true rfl, Nat.le_of_ble_eq_true rfl⟩ ⟨Nat.le_of_ble_eq_true rfl, Nat.le_of_ble_eq_true rfl⟩ (c_X10_makeProof l Y N0 ad sh u g0 hM key cn b (by omega)) (fun v9 ad9 sh9 g9 H locs hp hW => ?_)
                obtain ⟨rfl, rfl, _, rfl, rfl, rfl⟩ := hp
                obtain ⟨u_26, hu_26⟩ : ∃ z : zm_T, z = zs_mk u (zs_v 1 key cn (-1) b 0 0 0 0 0) := ⟨_, rfl⟩
                rw [← hu_26] at hW
                have e9 : sp_forge key k cn a b u = (u 0 8, u_26) := (by subst hu_26; unfold sp_forge; (repeat (first | refine (if_pos (by omega)).trans ?_ | refine (if_neg (by omega)).trans ?_)); first | rfl | (refine congrArg (fun z => ((u 0 8, zs_mk u z) : Int32 × zm_T)) ?_; (repeat (first | refine (if_pos (by omega)).trans ?_ | refine (if_neg (by omega)).trans ?_)); rfl) | (rw [zs_mk3 rfl]; refine congrArg (fun z => ((u 0 8, zs_mk u z) : Int32 × zm_T)) ?_; (repeat (first | refine (if_pos (by omega)).trans ?_ | refine (if_neg (by omega)).trans ?_)); rfl))
                exact zr_iret X hW dX10_forge_81 (Nat.le_refl _) (Nat.le_refl _) ⟨rfl, rfl, by rw [e9], by rw [e9]⟩
            · refine lv_bipush (v := (-7)) X.1 X.2.1 dX10_forge_65 (by decide) ?_
              have e9 : sp_forge key k cn a b u = ((-7), u) := (by unfold sp_forge; (repeat (first | refine (if_pos (by omega)).trans ?_ | refine (if_neg (by omega)).trans ?_)); first | rfl | (refine congrArg (fun z => ((u 0 8, zs_mk u z) : Int32 × zm_T)) ?_; (repeat (first | refine (if_pos (by omega)).trans ?_ | refine (if_neg (by omega)).trans ?_)); rfl) | (rw [zs_mk3 rfl]; refine congrArg (fun z => ((u 0 8, zs_mk u z) : Int32 × zm_T)) ?_; (repeat (first | refine (if_pos (by omega)).trans ?_ | refine (if_neg (by omega)).trans ?_)); rfl))
              exact zr_iret X hW dX10_forge_67 (Nat.le_refl _) (Nat.le_refl _) ⟨rfl, rfl, by rw [e9], by rw [e9]⟩
        · subst h9
          have h_10 : ¬ (zs_st u key) := h_10
          refine zr_if_eq (a := 0) (tgt := 52) X dX10_forge_30 (by decide) (by decide) (fun _ => ?_) (fun c9 => absurd c9 (by decide))
          refine lv_bipush (v := (-2)) X.1 X.2.1 dX10_forge_52 (by decide) ?_
          have e9 : sp_forge key k cn a b u = ((-2), u) := (by unfold sp_forge; (repeat (first | refine (if_pos (by omega)).trans ?_ | refine (if_neg (by omega)).trans ?_)); first | rfl | (refine congrArg (fun z => ((u 0 8, zs_mk u z) : Int32 × zm_T)) ?_; (repeat (first | refine (if_pos (by omega)).trans ?_ | refine (if_neg (by omega)).trans ?_)); rfl) | (rw [zs_mk3 rfl]; refine congrArg (fun z => ((u 0 8, zs_mk u z) : Int32 × zm_T)) ?_; (repeat (first | refine (if_pos (by omega)).trans ?_ | refine (if_neg (by omega)).trans ?_)); rfl))
          exact zr_iret X hW dX10_forge_54 (Nat.le_refl _) (Nat.le_refl _) ⟨rfl, rfl, by rw [e9], by rw [e9]⟩
      · subst h9
        have h_9 : ¬ (zi_in cn 0 5) := h_9
        refine zr_if_ne (a := 0) (tgt := 25) X dX10_forge_20 (by decide) (by decide) (fun c9 => absurd c9 (by decide)) (fun _ => ?_)
        refine lv_iconst (v := (-1)) X.1 X.2.1 dX10_forge_23 (by decide) ?_
        have e9 : sp_forge key k cn a b u = ((-1), u) := (by unfold sp_forge; (repeat (first | refine (if_pos (by omega)).trans ?_ | refine (if_neg (by omega)).trans ?_)); first | rfl | (refine congrArg (fun z => ((u 0 8, zs_mk u z) : Int32 × zm_T)) ?_; (repeat (first | refine (if_pos (by omega)).trans ?_ | refine (if_neg (by omega)).trans ?_)); rfl) | (rw [zs_mk3 rfl]; refine congrArg (fun z => ((u 0 8, zs_mk u z) : Int32 × zm_T)) ?_; (repeat (first | refine (if_pos (by omega)).trans ?_ | refine (if_neg (by omega)).trans ?_)); rfl))
        exact zr_iret X hW dX10_forge_24 (Nat.le_refl _) (Nat.le_refl _) ⟨rfl, rfl, by rw [e9], by rw [e9]⟩
  · subst h9
    have h_1 : ¬ (zi_in k 1 4) := h_1
    refine zr_if_eq (a := 0) (tgt := 23) X dX10_forge_6 (by decide) (by decide) (fun _ => ?_) (fun c9 => absurd c9 (by decide))
    refine lv_iconst (v := (-1)) X.1 X.2.1 dX10_forge_23 (by decide) ?_
    have e9 : sp_forge key k cn a b u = ((-1), u) := (by unfold sp_forge; (repeat (first | refine (if_pos (by omega)).trans ?_ | refine (if_neg (by omega)).trans ?_)); first | rfl | (refine congrArg (fun z => ((u 0 8, zs_mk u z) : Int32 × zm_T)) ?_; (repeat (first | refine (if_pos (by omega)).trans ?_ | refine (if_neg (by omega)).trans ?_)); rfl) | (rw [zs_mk3 rfl]; refine congrArg (fun z => ((u 0 8, zs_mk u z) : Int32 × zm_T)) ?_; (repeat (first | refine (if_pos (by omega)).trans ?_ | refine (if_neg (by omega)).trans ?_)); rfl))
    exact zr_iret X hW dX10_forge_24 (Nat.le_refl _) (Nat.le_refl _) ⟨rfl, rfl, by rw [e9], by rw [e9]⟩
end
section
theorem zs_clr3 (u : zm_T) (p : Nat) : zm_w (zm_w (zm_w u 7 (3 * p + 0) 0) 7 (3 * p + 1) 0) 7 (3 * p + 2) 0 = zs_clr u p := by
  funext r i
  unfold zs_clr zm_w
  simp only [va_up, upd]
  by_cases hr : r = 7
  · subst hr
    by_cases h0 : i = 3 * p + 0
    · subst h0; simp [upd]
    · by_cases h1 : i = 3 * p + 1
      · subst h1; simp [upd]
      · by_cases h2 : i = 3 * p + 2
        · subst h2; simp [upd]
        · have h3 : ¬ (3 * p ≤ i ∧ i < 3 * p + 3) := by omega
          have h0' : ¬ i = 3 * p := by omega
          simp [upd, h0', h1, h2, h3]
  · simp [hr]

set_option maxHeartbeats 4000000 in
set_option maxRecDepth 100000 in
theorem c_X10_enrol (l : Launch) (Y : zw_Y) (N0 : Nat) (ad : Nat → Nat) (sh : Nat → Option zw_Sh) (u g0 : zm_T) (hM : zm_S sh) (a : Int32) (hI : zm_I u) : zw_Met l Y N0 yX10_enrol cX10_enrol 3 (some .int) 1 22 0 0 ad sh (zm_mix u g0) [.ref (ad 0), .int a] (zp_S ad sh g0 (sp_enrol a u)) := by
  refine zw_meth (by decide) (Nat.le_of_ble_eq_true rfl) ?_
  intro p e s m below meth c ls X hnm hl hW
  have hl : lv_has ls 3 [(0, .ref (ad 0)), (1, .int a)] := hl
  have hse := zI_se hI
  have hke := zI_ke hI
  have hs1 := zi_sub (u 0 8) 1 (by rw [show (1 : Int32).toInt = 1 from rfl]; omega)
  rw [show (1 : Int32).toInt = 1 from rfl] at hs1
  refine lv_iload_n X.1 X.2.1 dX10_enrol_0 rfl (lv_at hl 1 rfl) ?_
  refine lv_iconst (v := 0) X.1 X.2.1 dX10_enrol_1 (by decide) ?_
  refine lv_iconst (v := 5) X.1 X.2.1 dX10_enrol_2 (by decide) ?_
  refine zr_callS (As := [.int a, .int 0, .int 5]) (rest := []) X hW hl.1 md_X10_in ms_X10_87 dX10_enrol_3 rfl rfl (Nat.le_of_ble_eq_true rfl) ⟨Nat.le_of_ble_eq_true rfl, Nat.le_of_ble_eq_true rfl⟩ ⟨Nat.le_of_ble_eq_true rfl, Nat.le_of_ble_eq_true rfl⟩ (c_X10_in l Y N0 ad sh (zm_mix u g0) a 0 5) (fun v9 ad9 sh9 g9 H locs hp hW => ?_)
  rcases hp with ⟨rfl, rfl, rfl, ⟨h_1, h9⟩ | ⟨h_1, h9⟩⟩
  · subst h9
    have h_1 : zi_in a 0 5 := h_1
    refine zr_if_ne (a := 1) (tgt := 11) X dX10_enrol_6 (by decide) (by decide) (fun _ => ?_) (fun c9 => absurd c9 (by decide))
    refine lv_aload_n X.1 X.2.1 dX10_enrol_11 rfl (lv_at hl 0 rfl) ?_
    refine zr_get (v := .int (u 0 2)) X hW fs_X10_91_9 dX10_enrol_12 (zm_s0 hM) rfl rfl rfl ?_
    refine lv_sipush (v := 200) X.1 X.2.1 dX10_enrol_15 (by decide) ?_
    refine zr_icmp_ne (a := (u 0 2).toInt) (b := 200) (tgt := 24) X dX10_enrol_18 (by decide) rfl (by decide) (fun c_2 => ?_) (fun c_2 => ?_)
    · refine lv_aload_n X.1 X.2.1 dX10_enrol_24 rfl (lv_at hl 0 rfl) ?_
      refine zr_get (v := .ref (ad 5)) X hW fs_X10_20_9 dX10_enrol_25 (zm_s0 hM) rfl rfl rfl ?_
      refine lv_iload_n X.1 X.2.1 dX10_enrol_28 rfl (lv_at hl 1 rfl) ?_
      refine zr_iald (v := u 5 (zn a)) X hW dX10_enrol_29 (zm_s5 hM) rfl rfl (zi_vp (by omega)) rfl ?_
      refine zr_if_ge (a := (u 5 (zn a)).toInt) (tgt := 65) X dX10_enrol_30 (by decide) rfl (fun c_3 => ?_) (fun c_3 => ?_)
      · refine lv_aload_n X.1 X.2.1 dX10_enrol_65 rfl (lv_at hl 0 rfl) ?_
        refine zr_get (v := .ref (ad 5)) X hW fs_X10_20_9 dX10_enrol_66 (zm_s0 hM) rfl rfl rfl ?_
        refine lv_iload_n X.1 X.2.1 dX10_enrol_69 rfl (lv_at hl 1 rfl) ?_
        refine lv_aload_n X.1 X.2.1 dX10_enrol_70 rfl (lv_at hl 0 rfl) ?_
        refine zr_get (v := .int (u 0 2)) X hW fs_X10_91_9 dX10_enrol_71 (zm_s0 hM) rfl rfl rfl ?_
        refine zr_iast X hW dX10_enrol_74 (zm_s5 hM) rfl rfl (zi_vp (by omega)) (fun H locs hW => ?_)
        have hW : zw_St Y N0 ad sh (zm_mix (zm_w u 5 (zn a) (u 0 2)) g0) s H locs := zm_st (by decide) hW
        obtain ⟨u_4, hu_4⟩ : ∃ z : zm_T, z = zm_w u 5 (zn a) (u 0 2) := ⟨_, rfl⟩
        rw [← hu_4] at hW
        refine lv_aload_n X.1 X.2.1 dX10_enrol_75 rfl (lv_at hl 0 rfl) ?_
        refine zr_get (v := .ref (ad 3)) X hW fs_X10_13_9 dX10_enrol_76 (zm_s0 hM) rfl rfl rfl ?_
        refine lv_iload_n X.1 X.2.1 dX10_enrol_79 rfl (lv_at hl 1 rfl) ?_
        refine lv_aload_n X.1 X.2.1 dX10_enrol_80 rfl (lv_at hl 0 rfl) ?_
        refine zr_get (v := .int (u 0 2)) X hW fs_X10_91_9 dX10_enrol_81 (zm_s0 hM) rfl rfl (congrArg Value.int (show u_4 0 2 = u 0 2 from (by rw [hu_4]; rfl))) ?_
        refine zr_iast X hW dX10_enrol_84 (zm_s3 hM) rfl rfl (zi_vp (by omega)) (fun H locs hW => ?_)
        have hW : zw_St Y N0 ad sh (zm_mix (zm_w u_4 3 (zn a) (u 0 2)) g0) s H locs := zm_st (by decide) hW
        obtain ⟨u_5, hu_5⟩ : ∃ z : zm_T, z = zm_w u_4 3 (zn a) (u 0 2) := ⟨_, rfl⟩
        rw [← hu_5] at hW
        refine lv_aload_n X.1 X.2.1 dX10_enrol_85 rfl (lv_at hl 0 rfl) ?_
        refine lv_dup X.1 X.2.1 dX10_enrol_86 rfl ?_
        refine zr_get (v := .int (u 0 2)) X hW fs_X10_91_9 dX10_enrol_87 (zm_s0 hM) rfl rfl (congrArg Value.int ((show u_5 0 2 = u_4 0 2 from (by rw [hu_5]; rfl)).trans (show u_4 0 2 = u 0 2 from (by rw [hu_4]; rfl)))) ?_
        refine lv_iconst (v := 1) X.1 X.2.1 dX10_enrol_90 (by decide) ?_
        refine lv_iadd X.1 X.2.1 dX10_enrol_91 ?_
        refine zr_puti X hW fs_X10_91_9 dX10_enrol_92 (zm_s0 hM) rfl rfl rfl rfl (fun H locs hW => ?_)
        have hW : zw_St Y N0 ad sh (zm_mix (zm_w u_5 0 2 ((u 0 2) + 1)) g0) s H locs := zm_st (by decide) hW
        obtain ⟨u_6, hu_6⟩ : ∃ z : zm_T, z = zm_w u_5 0 2 ((u 0 2) + 1) := ⟨_, rfl⟩
        rw [← hu_6] at hW
        refine lv_aload_n X.1 X.2.1 dX10_enrol_95 rfl (lv_at hl 0 rfl) ?_
        refine zr_get (v := .int ((u 0 2) + 1)) X hW fs_X10_91_9 dX10_enrol_96 (zm_s0 hM) rfl rfl (congrArg Value.int (show u_6 0 2 = (u 0 2) + 1 from (by rw [hu_6]; exact zm_ws _ _ _ _))) ?_
        refine lv_iconst (v := 1) X.1 X.2.1 dX10_enrol_99 (by decide) ?_
        refine lv_isub X.1 X.2.1 dX10_enrol_100 ?_
        have e9 : sp_enrol a u = (((u 0 2) + 1) - 1, u_6) := (by subst hu_6 hu_5 hu_4; unfold sp_enrol; (repeat (first | refine (if_pos (by omega)).trans ?_ | refine (if_neg (by omega)).trans ?_)); first | rfl | exact Prod.ext (Int32.add_sub_cancel _ _).symm (congrArg (fun z => zm_w (zm_w (zm_w z 5 (zn a) (u 0 2)) 3 (zn a) (u 0 2)) 0 2 (u 0 2 + 1)) (if_neg (by omega))) | exact Prod.ext (Int32.add_sub_cancel _ _).symm (congrArg (fun z => zm_w (zm_w (zm_w z 5 (zn a) (u 0 2)) 3 (zn a) (u 0 2)) 0 2 (u 0 2 + 1)) ((if_pos (by omega)).trans (zs_clr3 _ _).symm)))
        exact zr_iret X hW dX10_enrol_101 (Nat.le_refl _) (Nat.le_refl _) ⟨rfl, rfl, by rw [e9], by rw [e9]⟩
      · refine lv_aload_n X.1 X.2.1 dX10_enrol_33 rfl (lv_at hl 0 rfl) ?_
        refine zr_get (v := .ref (ad 6)) X hW fs_X10_23_9 dX10_enrol_34 (zm_s0 hM) rfl rfl rfl ?_
        refine lv_iload_n X.1 X.2.1 dX10_enrol_37 rfl (lv_at hl 1 rfl) ?_
        refine lv_bipush (v := 20) X.1 X.2.1 dX10_enrol_38 (by decide) ?_
        refine zr_iast X hW dX10_enrol_40 (zm_s6 hM) rfl rfl (zi_vp (by omega)) (fun H locs hW => ?_)
        have hW : zw_St Y N0 ad sh (zm_mix (zm_w u 6 (zn a) 20) g0) s H locs := zm_st (by decide) hW
        obtain ⟨u_7, hu_7⟩ : ∃ z : zm_T, z = zm_w u 6 (zn a) 20 := ⟨_, rfl⟩
        rw [← hu_7] at hW
        refine lv_iconst (v := 0) X.1 X.2.1 dX10_enrol_41 (by decide) ?_
        refine lv_istore_n (lv' := [(2, .int 0), (0, .ref (ad 0)), (1, .int a)]) X.1 X.2.1 dX10_enrol_42 rfl hl (by decide) rfl (fun ls hl => ?_)
        refine lv_iload_n X.1 X.2.1 dX10_enrol_43 rfl (lv_at hl 0 rfl) ?_
        refine lv_iconst (v := 3) X.1 X.2.1 dX10_enrol_44 (by decide) ?_
        refine zr_icmp_ge (a := 0) (b := 3) (tgt := 65) X dX10_enrol_45 (by decide) (by decide) (by decide) (fun c9 => absurd c9 (by decide)) (fun _ => ?_)
        refine lv_aload_n X.1 X.2.1 dX10_enrol_48 rfl (lv_at hl 1 rfl) ?_
        refine zr_get (v := .ref (ad 7)) X hW fs_X10_26_9 dX10_enrol_49 (zm_s0 hM) rfl rfl rfl ?_
        refine lv_iconst (v := 3) X.1 X.2.1 dX10_enrol_52 (by decide) ?_
        refine lv_iload_n X.1 X.2.1 dX10_enrol_53 rfl (lv_at hl 2 rfl) ?_
        refine lv_imul X.1 X.2.1 dX10_enrol_54 ?_
        refine lv_iload_n X.1 X.2.1 dX10_enrol_55 rfl (lv_at hl 0 rfl) ?_
        refine lv_iadd X.1 X.2.1 dX10_enrol_56 ?_
        refine lv_iconst (v := 0) X.1 X.2.1 dX10_enrol_57 (by decide) ?_
        have hx_8 : (3 * a + 0).toInt = 3 * a.toInt + 0 ∧ (3 * a + 0).toNatClampNeg = 3 * zn a + 0 := zi_ix3 a 0 (by omega) (by decide)
        obtain ⟨hx_8, hx_8n⟩ := hx_8
        refine zr_iast X hW dX10_enrol_58 (zm_s7 hM) rfl rfl (zi_vp (by omega)) (fun H locs hW => ?_)
        rw [hx_8n] at hW
        have hW : zw_St Y N0 ad sh (zm_mix (zm_w u_7 7 (3 * zn a + 0) 0) g0) s H locs := zm_st (by decide) hW
        obtain ⟨u_9, hu_9⟩ : ∃ z : zm_T, z = zm_w u_7 7 (3 * zn a + 0) 0 := ⟨_, rfl⟩
        rw [← hu_9] at hW
        refine lv_iinc (v := 1) (lv' := [(2, .int 1), (0, .ref (ad 0)), (1, .int a)]) X.1 X.2.1 dX10_enrol_59 hl (k := 0) rfl (by decide) (by decide) rfl (fun ls hl => ?_)
        refine lv_goto (tgt := 43) X.1 X.2.1 dX10_enrol_62 (by decide) ?_
        refine lv_iload_n X.1 X.2.1 dX10_enrol_43 rfl (lv_at hl 0 rfl) ?_
        refine lv_iconst (v := 3) X.1 X.2.1 dX10_enrol_44 (by decide) ?_
        refine zr_icmp_ge (a := 1) (b := 3) (tgt := 65) X dX10_enrol_45 (by decide) (by decide) (by decide) (fun c9 => absurd c9 (by decide)) (fun _ => ?_)
        refine lv_aload_n X.1 X.2.1 dX10_enrol_48 rfl (lv_at hl 1 rfl) ?_
        refine zr_get (v := .ref (ad 7)) X hW fs_X10_26_9 dX10_enrol_49 (zm_s0 hM) rfl rfl rfl ?_
        refine lv_iconst (v := 3) X.1 X.2.1 dX10_enrol_52 (by decide) ?_
        refine lv_iload_n X.1 X.2.1 dX10_enrol_53 rfl (lv_at hl 2 rfl) ?_
        refine lv_imul X.1 X.2.1 dX10_enrol_54 ?_
        refine lv_iload_n X.1 X.2.1 dX10_enrol_55 rfl (lv_at hl 0 rfl) ?_
        refine lv_iadd X.1 X.2.1 dX10_enrol_56 ?_
        refine lv_iconst (v := 0) X.1 X.2.1 dX10_enrol_57 (by decide) ?_
        have hx_10 : (3 * a + 1).toInt = 3 * a.toInt + 1 ∧ (3 * a + 1).toNatClampNeg = 3 * zn a + 1 := zi_ix3 a 1 (by omega) (by decide)
        obtain ⟨hx_10, hx_10n⟩ := hx_10
        refine zr_iast X hW dX10_enrol_58 (zm_s7 hM) rfl rfl (zi_vp (by omega)) (fun H locs hW => ?_)
        rw [hx_10n] at hW
        have hW : zw_St Y N0 ad sh (zm_mix (zm_w u_9 7 (3 * zn a + 1) 0) g0) s H locs := zm_st (by decide) hW
        obtain ⟨u_11, hu_11⟩ : ∃ z : zm_T, z = zm_w u_9 7 (3 * zn a + 1) 0 := ⟨_, rfl⟩
        rw [← hu_11] at hW
        refine lv_iinc (v := 2) (lv' := [(2, .int 2), (0, .ref (ad 0)), (1, .int a)]) X.1 X.2.1 dX10_enrol_59 hl (k := 0) rfl (by decide) (by decide) rfl (fun ls hl => ?_)
        refine lv_goto (tgt := 43) X.1 X.2.1 dX10_enrol_62 (by decide) ?_
        refine lv_iload_n X.1 X.2.1 dX10_enrol_43 rfl (lv_at hl 0 rfl) ?_
        refine lv_iconst (v := 3) X.1 X.2.1 dX10_enrol_44 (by decide) ?_
        refine zr_icmp_ge (a := 2) (b := 3) (tgt := 65) X dX10_enrol_45 (by decide) (by decide) (by decide) (fun c9 => absurd c9 (by decide)) (fun _ => ?_)
        refine lv_aload_n X.1 X.2.1 dX10_enrol_48 rfl (lv_at hl 1 rfl) ?_
        refine zr_get (v := .ref (ad 7)) X hW fs_X10_26_9 dX10_enrol_49 (zm_s0 hM) rfl rfl rfl ?_
        refine lv_iconst (v := 3) X.1 X.2.1 dX10_enrol_52 (by decide) ?_
        refine lv_iload_n X.1 X.2.1 dX10_enrol_53 rfl (lv_at hl 2 rfl) ?_
        refine lv_imul X.1 X.2.1 dX10_enrol_54 ?_
        refine lv_iload_n X.1 X.2.1 dX10_enrol_55 rfl (lv_at hl 0 rfl) ?_
        refine lv_iadd X.1 X.2.1 dX10_enrol_56 ?_
        refine lv_iconst (v := 0) X.1 X.2.1 dX10_enrol_57 (by decide) ?_
        have hx_12 : (3 * a + 2).toInt = 3 * a.toInt + 2 ∧ (3 * a + 2).toNatClampNeg = 3 * zn a + 2 := zi_ix3 a 2 (by omega) (by decide)
        obtain ⟨hx_12, hx_12n⟩ := hx_12
        refine zr_iast X hW dX10_enrol_58 (zm_s7 hM) rfl rfl (zi_vp (by omega)) (fun H locs hW => ?_)
        rw [hx_12n] at hW
        have hW : zw_St Y N0 ad sh (zm_mix (zm_w u_11 7 (3 * zn a + 2) 0) g0) s H locs := zm_st (by decide) hW
        obtain ⟨u_13, hu_13⟩ : ∃ z : zm_T, z = zm_w u_11 7 (3 * zn a + 2) 0 := ⟨_, rfl⟩
        rw [← hu_13] at hW
        refine lv_iinc (v := 3) (lv' := [(2, .int 3), (0, .ref (ad 0)), (1, .int a)]) X.1 X.2.1 dX10_enrol_59 hl (k := 0) rfl (by decide) (by decide) rfl (fun ls hl => ?_)
        refine lv_goto (tgt := 43) X.1 X.2.1 dX10_enrol_62 (by decide) ?_
        refine lv_iload_n X.1 X.2.1 dX10_enrol_43 rfl (lv_at hl 0 rfl) ?_
        refine lv_iconst (v := 3) X.1 X.2.1 dX10_enrol_44 (by decide) ?_
        refine zr_icmp_ge (a := 3) (b := 3) (tgt := 65) X dX10_enrol_45 (by decide) (by decide) (by decide) (fun _ => ?_) (fun c9 => absurd c9 (by decide))
        refine lv_aload_n X.1 X.2.1 dX10_enrol_65 rfl (lv_at hl 1 rfl) ?_
        refine zr_get (v := .ref (ad 5)) X hW fs_X10_20_9 dX10_enrol_66 (zm_s0 hM) rfl rfl rfl ?_
        refine lv_iload_n X.1 X.2.1 dX10_enrol_69 rfl (lv_at hl 2 rfl) ?_
        refine lv_aload_n X.1 X.2.1 dX10_enrol_70 rfl (lv_at hl 1 rfl) ?_
        refine zr_get (v := .int (u 0 2)) X hW fs_X10_91_9 dX10_enrol_71 (zm_s0 hM) rfl rfl (congrArg Value.int ((show u_13 0 2 = u_11 0 2 from (by rw [hu_13]; rfl)).trans ((show u_11 0 2 = u_9 0 2 from (by rw [hu_11]; rfl)).trans ((show u_9 0 2 = u_7 0 2 from (by rw [hu_9]; rfl)).trans (show u_7 0 2 = u 0 2 from (by rw [hu_7]; rfl)))))) ?_
        refine zr_iast X hW dX10_enrol_74 (zm_s5 hM) rfl rfl (zi_vp (by omega)) (fun H locs hW => ?_)
        have hW : zw_St Y N0 ad sh (zm_mix (zm_w u_13 5 (zn a) (u 0 2)) g0) s H locs := zm_st (by decide) hW
        obtain ⟨u_14, hu_14⟩ : ∃ z : zm_T, z = zm_w u_13 5 (zn a) (u 0 2) := ⟨_, rfl⟩
        rw [← hu_14] at hW
        refine lv_aload_n X.1 X.2.1 dX10_enrol_75 rfl (lv_at hl 1 rfl) ?_
        refine zr_get (v := .ref (ad 3)) X hW fs_X10_13_9 dX10_enrol_76 (zm_s0 hM) rfl rfl rfl ?_
        refine lv_iload_n X.1 X.2.1 dX10_enrol_79 rfl (lv_at hl 2 rfl) ?_
        refine lv_aload_n X.1 X.2.1 dX10_enrol_80 rfl (lv_at hl 1 rfl) ?_
        refine zr_get (v := .int (u 0 2)) X hW fs_X10_91_9 dX10_enrol_81 (zm_s0 hM) rfl rfl (congrArg Value.int ((show u_14 0 2 = u_13 0 2 from (by rw [hu_14]; rfl)).trans ((show u_13 0 2 = u_11 0 2 from (by rw [hu_13]; rfl)).trans ((show u_11 0 2 = u_9 0 2 from (by rw [hu_11]; rfl)).trans ((show u_9 0 2 = u_7 0 2 from (by rw [hu_9]; rfl)).trans (show u_7 0 2 = u 0 2 from (by rw [hu_7]; rfl))))))) ?_
        refine zr_iast X hW dX10_enrol_84 (zm_s3 hM) rfl rfl (zi_vp (by omega)) (fun H locs hW => ?_)
        have hW : zw_St Y N0 ad sh (zm_mix (zm_w u_14 3 (zn a) (u 0 2)) g0) s H locs := zm_st (by decide) hW
        obtain ⟨u_15, hu_15⟩ : ∃ z : zm_T, z = zm_w u_14 3 (zn a) (u 0 2) := ⟨_, rfl⟩
        rw [← hu_15] at hW
        refine lv_aload_n X.1 X.2.1 dX10_enrol_85 rfl (lv_at hl 1 rfl) ?_
        refine lv_dup X.1 X.2.1 dX10_enrol_86 rfl ?_
        refine zr_get (v := .int (u 0 2)) X hW fs_X10_91_9 dX10_enrol_87 (zm_s0 hM) rfl rfl (congrArg Value.int ((show u_15 0 2 = u_14 0 2 from (by rw [hu_15]; rfl)).trans ((show u_14 0 2 = u_13 0 2 from (by rw [hu_14]; rfl)).trans ((show u_13 0 2 = u_11 0 2 from (by rw [hu_13]; rfl)).trans ((show u_11 0 2 = u_9 0 2 from (by rw [hu_11]; rfl)).trans ((show u_9 0 2 = u_7 0 2 from (by rw [hu_9]; rfl)).trans (show u_7 0 2 = u 0 2 from (by rw [hu_7]; rfl)))))))) ?_
        refine lv_iconst (v := 1) X.1 X.2.1 dX10_enrol_90 (by decide) ?_
        refine lv_iadd X.1 X.2.1 dX10_enrol_91 ?_
        refine zr_puti X hW fs_X10_91_9 dX10_enrol_92 (zm_s0 hM) rfl rfl rfl rfl (fun H locs hW => ?_)
        have hW : zw_St Y N0 ad sh (zm_mix (zm_w u_15 0 2 ((u 0 2) + 1)) g0) s H locs := zm_st (by decide) hW
        obtain ⟨u_16, hu_16⟩ : ∃ z : zm_T, z = zm_w u_15 0 2 ((u 0 2) + 1) := ⟨_, rfl⟩
        rw [← hu_16] at hW
        refine lv_aload_n X.1 X.2.1 dX10_enrol_95 rfl (lv_at hl 1 rfl) ?_
        refine zr_get (v := .int ((u 0 2) + 1)) X hW fs_X10_91_9 dX10_enrol_96 (zm_s0 hM) rfl rfl (congrArg Value.int (show u_16 0 2 = (u 0 2) + 1 from (by rw [hu_16]; exact zm_ws _ _ _ _))) ?_
        refine lv_iconst (v := 1) X.1 X.2.1 dX10_enrol_99 (by decide) ?_
        refine lv_isub X.1 X.2.1 dX10_enrol_100 ?_
        have e9 : sp_enrol a u = (((u 0 2) + 1) - 1, u_16) := (by subst hu_16 hu_15 hu_14 hu_13 hu_11 hu_9 hu_7; unfold sp_enrol; (repeat (first | refine (if_pos (by omega)).trans ?_ | refine (if_neg (by omega)).trans ?_)); first | rfl | exact Prod.ext (Int32.add_sub_cancel _ _).symm (congrArg (fun z => zm_w (zm_w (zm_w z 5 (zn a) (u 0 2)) 3 (zn a) (u 0 2)) 0 2 (u 0 2 + 1)) (if_neg (by omega))) | exact Prod.ext (Int32.add_sub_cancel _ _).symm (congrArg (fun z => zm_w (zm_w (zm_w z 5 (zn a) (u 0 2)) 3 (zn a) (u 0 2)) 0 2 (u 0 2 + 1)) ((if_pos (by omega)).trans (zs_clr3 _ _).symm)))
        exact zr_iret X hW dX10_enrol_101 (Nat.le_refl _) (Nat.le_refl _) ⟨rfl, rfl, by rw [e9], by rw [e9]⟩
    · refine lv_bipush (v := (-7)) X.1 X.2.1 dX10_enrol_21 (by decide) ?_
      have e9 : sp_enrol a u = ((-7), u) := (by unfold sp_enrol; (repeat (first | refine (if_pos (by omega)).trans ?_ | refine (if_neg (by omega)).trans ?_)); first | rfl | exact Prod.ext (Int32.add_sub_cancel _ _).symm (congrArg (fun z => zm_w (zm_w (zm_w z 5 (zn a) (u 0 2)) 3 (zn a) (u 0 2)) 0 2 (u 0 2 + 1)) (if_neg (by omega))) | exact Prod.ext (Int32.add_sub_cancel _ _).symm (congrArg (fun z => zm_w (zm_w (zm_w z 5 (zn a) (u 0 2)) 3 (zn a) (u 0 2)) 0 2 (u 0 2 + 1)) ((if_pos (by omega)).trans (zs_clr3 _ _).symm)))
      exact zr_iret X hW dX10_enrol_23 (Nat.le_refl _) (Nat.le_refl _) ⟨rfl, rfl, by rw [e9], by rw [e9]⟩
  · subst h9
    have h_1 : ¬ (zi_in a 0 5) := h_1
    refine zr_if_ne (a := 0) (tgt := 11) X dX10_enrol_6 (by decide) (by decide) (fun c9 => absurd c9 (by decide)) (fun _ => ?_)
    refine lv_iconst (v := (-1)) X.1 X.2.1 dX10_enrol_9 (by decide) ?_
    have e9 : sp_enrol a u = ((-1), u) := (by unfold sp_enrol; (repeat (first | refine (if_pos (by omega)).trans ?_ | refine (if_neg (by omega)).trans ?_)); first | rfl | exact Prod.ext (Int32.add_sub_cancel _ _).symm (congrArg (fun z => zm_w (zm_w (zm_w z 5 (zn a) (u 0 2)) 3 (zn a) (u 0 2)) 0 2 (u 0 2 + 1)) (if_neg (by omega))) | exact Prod.ext (Int32.add_sub_cancel _ _).symm (congrArg (fun z => zm_w (zm_w (zm_w z 5 (zn a) (u 0 2)) 3 (zn a) (u 0 2)) 0 2 (u 0 2 + 1)) ((if_pos (by omega)).trans (zs_clr3 _ _).symm)))
    exact zr_iret X hW dX10_enrol_10 (Nat.le_refl _) (Nat.le_refl _) ⟨rfl, rfl, by rw [e9], by rw [e9]⟩

set_option maxHeartbeats 4000000 in
set_option maxRecDepth 100000 in
theorem c_X10_same (l : Launch) (Y : zw_Y) (N0 : Nat) (ad : Nat → Nat) (sh : Nat → Option zw_Sh) (u g0 : zm_T) (hM : zm_S sh) (a1 b1 : Int32) (h1 : 0 ≤ a1.toInt ∧ a1.toInt < 150) (h2 : 0 ≤ b1.toInt ∧ b1.toInt < 150) : zw_Met l Y N0 yX10_same cX10_same 4 (some .boolean) 0 0 0 0 ad sh (zm_mix u g0) [.ref (ad 0), .int a1, .int b1] (zp_B ad sh (zm_mix u g0) (zs_same u (zn a1) (zn b1))) := by
  refine zw_meth (by decide) (Nat.le_of_ble_eq_true rfl) ?_
  intro p e s m below meth c ls X hnm hl hW
  have hl : lv_has ls 4 [(0, .ref (ad 0)), (1, .int a1), (2, .int b1)] := hl
  refine lv_aload_n X.1 X.2.1 dX10_same_0 rfl (lv_at hl 0 rfl) ?_
  refine zr_get (v := .ref (ad 10)) X hW fs_X10_32_9 dX10_same_1 (zm_s0 hM) rfl rfl rfl ?_
  refine lv_iload_n X.1 X.2.1 dX10_same_4 rfl (lv_at hl 1 rfl) ?_
  refine zr_iald (v := u 10 (zn a1)) X hW dX10_same_5 (zm_s10 hM) rfl rfl (zi_vp (by omega)) rfl ?_
  refine lv_aload_n X.1 X.2.1 dX10_same_6 rfl (lv_at hl 0 rfl) ?_
  refine zr_get (v := .ref (ad 10)) X hW fs_X10_32_9 dX10_same_7 (zm_s0 hM) rfl rfl rfl ?_
  refine lv_iload_n X.1 X.2.1 dX10_same_10 rfl (lv_at hl 2 rfl) ?_
  refine zr_iald (v := u 10 (zn b1)) X hW dX10_same_11 (zm_s10 hM) rfl rfl (zi_vp (by omega)) rfl ?_
  refine zr_icmp_ne (a := (u 10 (zn a1)).toInt) (b := (u 10 (zn b1)).toInt) (tgt := 64) X dX10_same_12 (by decide) rfl rfl (fun c_1 => ?_) (fun c_1 => ?_)
  · refine lv_iconst (v := 0) X.1 X.2.1 dX10_same_64 (by decide) ?_
    refine lv_istore_n (lv' := [(3, .int 0), (0, .ref (ad 0)), (1, .int a1), (2, .int b1)]) X.1 X.2.1 dX10_same_65 rfl hl (by decide) rfl (fun ls hl => ?_)
    refine lv_iload_n X.1 X.2.1 dX10_same_66 rfl (lv_at hl 0 rfl) ?_
    refine zr_if_eq (a := 0) (tgt := 119) X dX10_same_67 (by decide) (by decide) (fun _ => ?_) (fun c9 => absurd c9 (by decide))
    refine lv_iconst (v := 0) X.1 X.2.1 dX10_same_119 (by decide) ?_
    exact zr_zret X hW dX10_same_120 (Nat.le_refl _) (Nat.le_refl _) rfl ⟨rfl, rfl, rfl, Or.inr ⟨by omega, rfl⟩⟩
  · refine lv_aload_n X.1 X.2.1 dX10_same_15 rfl (lv_at hl 0 rfl) ?_
    refine zr_get (v := .ref (ad 11)) X hW fs_X10_35_9 dX10_same_16 (zm_s0 hM) rfl rfl rfl ?_
    refine lv_iload_n X.1 X.2.1 dX10_same_19 rfl (lv_at hl 1 rfl) ?_
    refine zr_iald (v := u 11 (zn a1)) X hW dX10_same_20 (zm_s11 hM) rfl rfl (zi_vp (by omega)) rfl ?_
    refine lv_aload_n X.1 X.2.1 dX10_same_21 rfl (lv_at hl 0 rfl) ?_
    refine zr_get (v := .ref (ad 11)) X hW fs_X10_35_9 dX10_same_22 (zm_s0 hM) rfl rfl rfl ?_
    refine lv_iload_n X.1 X.2.1 dX10_same_25 rfl (lv_at hl 2 rfl) ?_
    refine zr_iald (v := u 11 (zn b1)) X hW dX10_same_26 (zm_s11 hM) rfl rfl (zi_vp (by omega)) rfl ?_
    refine zr_icmp_ne (a := (u 11 (zn a1)).toInt) (b := (u 11 (zn b1)).toInt) (tgt := 64) X dX10_same_27 (by decide) rfl rfl (fun c_2 => ?_) (fun c_2 => ?_)
    · refine lv_iconst (v := 0) X.1 X.2.1 dX10_same_64 (by decide) ?_
      refine lv_istore_n (lv' := [(3, .int 0), (0, .ref (ad 0)), (1, .int a1), (2, .int b1)]) X.1 X.2.1 dX10_same_65 rfl hl (by decide) rfl (fun ls hl => ?_)
      refine lv_iload_n X.1 X.2.1 dX10_same_66 rfl (lv_at hl 0 rfl) ?_
      refine zr_if_eq (a := 0) (tgt := 119) X dX10_same_67 (by decide) (by decide) (fun _ => ?_) (fun c9 => absurd c9 (by decide))
      refine lv_iconst (v := 0) X.1 X.2.1 dX10_same_119 (by decide) ?_
      exact zr_zret X hW dX10_same_120 (Nat.le_refl _) (Nat.le_refl _) rfl ⟨rfl, rfl, rfl, Or.inr ⟨by omega, rfl⟩⟩
    · refine lv_aload_n X.1 X.2.1 dX10_same_30 rfl (lv_at hl 0 rfl) ?_
      refine zr_get (v := .ref (ad 13)) X hW fs_X10_41_9 dX10_same_31 (zm_s0 hM) rfl rfl rfl ?_
      refine lv_iload_n X.1 X.2.1 dX10_same_34 rfl (lv_at hl 1 rfl) ?_
      refine zr_iald (v := u 13 (zn a1)) X hW dX10_same_35 (zm_s13 hM) rfl rfl (zi_vp (by omega)) rfl ?_
      refine lv_aload_n X.1 X.2.1 dX10_same_36 rfl (lv_at hl 0 rfl) ?_
      refine zr_get (v := .ref (ad 13)) X hW fs_X10_41_9 dX10_same_37 (zm_s0 hM) rfl rfl rfl ?_
      refine lv_iload_n X.1 X.2.1 dX10_same_40 rfl (lv_at hl 2 rfl) ?_
      refine zr_iald (v := u 13 (zn b1)) X hW dX10_same_41 (zm_s13 hM) rfl rfl (zi_vp (by omega)) rfl ?_
      refine zr_icmp_ne (a := (u 13 (zn a1)).toInt) (b := (u 13 (zn b1)).toInt) (tgt := 64) X dX10_same_42 (by decide) rfl rfl (fun c_3 => ?_) (fun c_3 => ?_)
      · refine lv_iconst (v := 0) X.1 X.2.1 dX10_same_64 (by decide) ?_
        refine lv_istore_n (lv' := [(3, .int 0), (0, .ref (ad 0)), (1, .int a1), (2, .int b1)]) X.1 X.2.1 dX10_same_65 rfl hl (by decide) rfl (fun ls hl => ?_)
        refine lv_iload_n X.1 X.2.1 dX10_same_66 rfl (lv_at hl 0 rfl) ?_
        refine zr_if_eq (a := 0) (tgt := 119) X dX10_same_67 (by decide) (by decide) (fun _ => ?_) (fun c9 => absurd c9 (by decide))
        refine lv_iconst (v := 0) X.1 X.2.1 dX10_same_119 (by decide) ?_
        exact zr_zret X hW dX10_same_120 (Nat.le_refl _) (Nat.le_refl _) rfl ⟨rfl, rfl, rfl, Or.inr ⟨by omega, rfl⟩⟩
      · refine lv_aload_n X.1 X.2.1 dX10_same_45 rfl (lv_at hl 0 rfl) ?_
        refine zr_get (v := .ref (ad 14)) X hW fs_X10_44_9 dX10_same_46 (zm_s0 hM) rfl rfl rfl ?_
        refine lv_iload_n X.1 X.2.1 dX10_same_49 rfl (lv_at hl 1 rfl) ?_
        refine zr_iald (v := u 14 (zn a1)) X hW dX10_same_50 (zm_s14 hM) rfl rfl (zi_vp (by omega)) rfl ?_
        refine lv_aload_n X.1 X.2.1 dX10_same_51 rfl (lv_at hl 0 rfl) ?_
        refine zr_get (v := .ref (ad 14)) X hW fs_X10_44_9 dX10_same_52 (zm_s0 hM) rfl rfl rfl ?_
        refine lv_iload_n X.1 X.2.1 dX10_same_55 rfl (lv_at hl 2 rfl) ?_
        refine zr_iald (v := u 14 (zn b1)) X hW dX10_same_56 (zm_s14 hM) rfl rfl (zi_vp (by omega)) rfl ?_
        refine zr_icmp_ne (a := (u 14 (zn a1)).toInt) (b := (u 14 (zn b1)).toInt) (tgt := 64) X dX10_same_57 (by decide) rfl rfl (fun c_4 => ?_) (fun c_4 => ?_)
        · refine lv_iconst (v := 0) X.1 X.2.1 dX10_same_64 (by decide) ?_
          refine lv_istore_n (lv' := [(3, .int 0), (0, .ref (ad 0)), (1, .int a1), (2, .int b1)]) X.1 X.2.1 dX10_same_65 rfl hl (by decide) rfl (fun ls hl => ?_)
          refine lv_iload_n X.1 X.2.1 dX10_same_66 rfl (lv_at hl 0 rfl) ?_
          refine zr_if_eq (a := 0) (tgt := 119) X dX10_same_67 (by decide) (by decide) (fun _ => ?_) (fun c9 => absurd c9 (by decide))
          refine lv_iconst (v := 0) X.1 X.2.1 dX10_same_119 (by decide) ?_
          exact zr_zret X hW dX10_same_120 (Nat.le_refl _) (Nat.le_refl _) rfl ⟨rfl, rfl, rfl, Or.inr ⟨by omega, rfl⟩⟩
        · refine lv_iconst (v := 1) X.1 X.2.1 dX10_same_60 (by decide) ?_
          refine lv_goto (tgt := 65) X.1 X.2.1 dX10_same_61 (by decide) ?_
          refine lv_istore_n (lv' := [(3, .int 1), (0, .ref (ad 0)), (1, .int a1), (2, .int b1)]) X.1 X.2.1 dX10_same_65 rfl hl (by decide) rfl (fun ls hl => ?_)
          refine lv_iload_n X.1 X.2.1 dX10_same_66 rfl (lv_at hl 0 rfl) ?_
          refine zr_if_eq (a := 1) (tgt := 119) X dX10_same_67 (by decide) (by decide) (fun c9 => absurd c9 (by decide)) (fun _ => ?_)
          refine lv_aload_n X.1 X.2.1 dX10_same_70 rfl (lv_at hl 1 rfl) ?_
          refine zr_get (v := .ref (ad 16)) X hW fs_X10_50_9 dX10_same_71 (zm_s0 hM) rfl rfl rfl ?_
          refine lv_iload_n X.1 X.2.1 dX10_same_74 rfl (lv_at hl 2 rfl) ?_
          refine zr_iald (v := u 16 (zn a1)) X hW dX10_same_75 (zm_s16 hM) rfl rfl (zi_vp (by omega)) rfl ?_
          refine lv_aload_n X.1 X.2.1 dX10_same_76 rfl (lv_at hl 1 rfl) ?_
          refine zr_get (v := .ref (ad 16)) X hW fs_X10_50_9 dX10_same_77 (zm_s0 hM) rfl rfl rfl ?_
          refine lv_iload_n X.1 X.2.1 dX10_same_80 rfl (lv_at hl 3 rfl) ?_
          refine zr_iald (v := u 16 (zn b1)) X hW dX10_same_81 (zm_s16 hM) rfl rfl (zi_vp (by omega)) rfl ?_
          refine zr_icmp_ne (a := (u 16 (zn a1)).toInt) (b := (u 16 (zn b1)).toInt) (tgt := 119) X dX10_same_82 (by decide) rfl rfl (fun c_5 => ?_) (fun c_5 => ?_)
          · refine lv_iconst (v := 0) X.1 X.2.1 dX10_same_119 (by decide) ?_
            exact zr_zret X hW dX10_same_120 (Nat.le_refl _) (Nat.le_refl _) rfl ⟨rfl, rfl, rfl, Or.inr ⟨by omega, rfl⟩⟩
          · refine lv_aload_n X.1 X.2.1 dX10_same_85 rfl (lv_at hl 1 rfl) ?_
            refine zr_get (v := .ref (ad 17)) X hW fs_X10_53_9 dX10_same_86 (zm_s0 hM) rfl rfl rfl ?_
            refine lv_iload_n X.1 X.2.1 dX10_same_89 rfl (lv_at hl 2 rfl) ?_
            refine zr_iald (v := u 17 (zn a1)) X hW dX10_same_90 (zm_s17 hM) rfl rfl (zi_vp (by omega)) rfl ?_
            refine lv_aload_n X.1 X.2.1 dX10_same_91 rfl (lv_at hl 1 rfl) ?_
            refine zr_get (v := .ref (ad 17)) X hW fs_X10_53_9 dX10_same_92 (zm_s0 hM) rfl rfl rfl ?_
            refine lv_iload_n X.1 X.2.1 dX10_same_95 rfl (lv_at hl 3 rfl) ?_
            refine zr_iald (v := u 17 (zn b1)) X hW dX10_same_96 (zm_s17 hM) rfl rfl (zi_vp (by omega)) rfl ?_
            refine zr_icmp_ne (a := (u 17 (zn a1)).toInt) (b := (u 17 (zn b1)).toInt) (tgt := 119) X dX10_same_97 (by decide) rfl rfl (fun c_6 => ?_) (fun c_6 => ?_)
            · refine lv_iconst (v := 0) X.1 X.2.1 dX10_same_119 (by decide) ?_
              exact zr_zret X hW dX10_same_120 (Nat.le_refl _) (Nat.le_refl _) rfl ⟨rfl, rfl, rfl, Or.inr ⟨by omega, rfl⟩⟩
            · refine lv_aload_n X.1 X.2.1 dX10_same_100 rfl (lv_at hl 1 rfl) ?_
              refine zr_get (v := .ref (ad 18)) X hW fs_X10_56_9 dX10_same_101 (zm_s0 hM) rfl rfl rfl ?_
              refine lv_iload_n X.1 X.2.1 dX10_same_104 rfl (lv_at hl 2 rfl) ?_
              refine zr_iald (v := u 18 (zn a1)) X hW dX10_same_105 (zm_s18 hM) rfl rfl (zi_vp (by omega)) rfl ?_
              refine lv_aload_n X.1 X.2.1 dX10_same_106 rfl (lv_at hl 1 rfl) ?_
              refine zr_get (v := .ref (ad 18)) X hW fs_X10_56_9 dX10_same_107 (zm_s0 hM) rfl rfl rfl ?_
              refine lv_iload_n X.1 X.2.1 dX10_same_110 rfl (lv_at hl 3 rfl) ?_
              refine zr_iald (v := u 18 (zn b1)) X hW dX10_same_111 (zm_s18 hM) rfl rfl (zi_vp (by omega)) rfl ?_
              refine zr_icmp_ne (a := (u 18 (zn a1)).toInt) (b := (u 18 (zn b1)).toInt) (tgt := 119) X dX10_same_112 (by decide) rfl rfl (fun c_7 => ?_) (fun c_7 => ?_)
              · refine lv_iconst (v := 0) X.1 X.2.1 dX10_same_119 (by decide) ?_
                exact zr_zret X hW dX10_same_120 (Nat.le_refl _) (Nat.le_refl _) rfl ⟨rfl, rfl, rfl, Or.inr ⟨by omega, rfl⟩⟩
              · refine lv_iconst (v := 1) X.1 X.2.1 dX10_same_115 (by decide) ?_
                refine lv_goto (tgt := 120) X.1 X.2.1 dX10_same_116 (by decide) ?_
                exact zr_zret X hW dX10_same_120 (Nat.le_refl _) (Nat.le_refl _) rfl ⟨rfl, rfl, rfl, Or.inl ⟨by omega, rfl⟩⟩
end
section
def zs_cpk (u : zm_T) (f t k : Nat) : zm_T := fun r i => if r = 5 ∧ t ≤ i ∧ i < t + k then u 5 (f + (i - t)) else if r = 6 ∧ t ≤ i ∧ i < t + k then u 6 (f + (i - t)) else if r = 7 ∧ 3 * t ≤ i ∧ i < 3 * t + 3 * k then u 7 (3 * f + (i - 3 * t)) else u r i
theorem zs_cpk0 (u : zm_T) (f t : Nat) : zs_cpk u f t 0 = u := by
  funext r i
  unfold zs_cpk
  rw [if_neg (by omega), if_neg (by omega), if_neg (by omega)]
theorem zs_cpk6 (u : zm_T) (f t : Nat) : zs_cpk u f t 6 = zs_cp u f t := rfl
theorem zs_cpkn (u : zm_T) {f t k r i : Nat} (h : (r = 5 ∨ r = 6 → ¬ (t ≤ i ∧ i < t + k)) ∧ (r = 7 → ¬ (3 * t ≤ i ∧ i < 3 * t + 3 * k))) : zs_cpk u f t k r i = u r i := by
  unfold zs_cpk
  rw [if_neg (fun q => h.1 (Or.inl q.1) q.2), if_neg (fun q => h.1 (Or.inr q.1) q.2), if_neg (fun q => h.2 q.1 q.2)]
theorem zs_cpks (u : zm_T) (f t k : Nat) : zm_w (zm_w (zm_w (zm_w (zm_w (zs_cpk u f t k) 5 (t + k) (u 5 (f + k))) 6 (t + k) (u 6 (f + k))) 7 (3 * (t + k) + 0) (u 7 (3 * (f + k) + 0))) 7 (3 * (t + k) + 1) (u 7 (3 * (f + k) + 1))) 7 (3 * (t + k) + 2) (u 7 (3 * (f + k) + 2)) = zs_cpk u f t (k + 1) := by
  funext r i
  by_cases h5 : r = 5
  · subst h5
    rw [zm_wn _ _ (Or.inl (by decide)), zm_wn _ _ (Or.inl (by decide)), zm_wn _ _ (Or.inl (by decide)), zm_wn _ _ (Or.inl (by decide))]
    by_cases hi : i = t + k
    · subst hi
      rw [zm_ws]
      unfold zs_cpk
      rw [if_pos (by omega)]
      congr 1; omega
    · rw [zm_wn _ _ (Or.inr hi)]
      unfold zs_cpk
      by_cases hj : t ≤ i ∧ i < t + k
      · rw [if_pos (by omega), if_pos (by omega)]
      · rw [if_neg (by omega), if_neg (by omega), if_neg (by omega), if_neg (by omega), if_neg (by omega), if_neg (by omega)]
  · by_cases h6 : r = 6
    · subst h6
      rw [zm_wn _ _ (Or.inl (by decide)), zm_wn _ _ (Or.inl (by decide)), zm_wn _ _ (Or.inl (by decide))]
      by_cases hi : i = t + k
      · subst hi
        rw [zm_ws]
        unfold zs_cpk
        rw [if_neg (by omega), if_pos (by omega)]
        congr 1; omega
      · rw [zm_wn _ _ (Or.inr hi), zm_wn _ _ (Or.inl (by decide))]
        unfold zs_cpk
        by_cases hj : t ≤ i ∧ i < t + k
        · rw [if_neg (by omega), if_pos (by omega), if_neg (by omega), if_pos (by omega)]
        · rw [if_neg (by omega), if_neg (by omega), if_neg (by omega), if_neg (by omega), if_neg (by omega), if_neg (by omega)]
    · by_cases h7 : r = 7
      · subst h7
        by_cases hi2 : i = 3 * (t + k) + 2
        · subst hi2
          rw [zm_ws]
          unfold zs_cpk
          rw [if_neg (by omega), if_neg (by omega), if_pos (by omega)]
          congr 1; omega
        · rw [zm_wn _ _ (Or.inr hi2)]
          by_cases hi1 : i = 3 * (t + k) + 1
          · subst hi1
            rw [zm_ws]
            unfold zs_cpk
            rw [if_neg (by omega), if_neg (by omega), if_pos (by omega)]
            congr 1; omega
          · rw [zm_wn _ _ (Or.inr hi1)]
            by_cases hi0 : i = 3 * (t + k) + 0
            · subst hi0
              rw [zm_ws]
              unfold zs_cpk
              rw [if_neg (by omega), if_neg (by omega), if_pos (by omega)]
              congr 1; omega
            · rw [zm_wn _ _ (Or.inr hi0), zm_wn _ _ (Or.inl (by decide)), zm_wn _ _ (Or.inl (by decide))]
              unfold zs_cpk
              by_cases hj : 3 * t ≤ i ∧ i < 3 * t + 3 * k
              · rw [if_neg (by omega), if_neg (by omega), if_pos (by omega), if_neg (by omega), if_neg (by omega), if_pos (by omega)]
              · rw [if_neg (by omega), if_neg (by omega), if_neg (by omega), if_neg (by omega), if_neg (by omega), if_neg (by omega)]
      · rw [zm_wn _ _ (Or.inl h7), zm_wn _ _ (Or.inl h7), zm_wn _ _ (Or.inl h7), zm_wn _ _ (Or.inl h6), zm_wn _ _ (Or.inl h5)]
        unfold zs_cpk
        rw [if_neg (by omega), if_neg (by omega), if_neg (by omega), if_neg (by omega), if_neg (by omega), if_neg (by omega)]

set_option maxHeartbeats 8000000 in
set_option maxRecDepth 100000 in
theorem lp_copyBook_s {p : Program} {e : Env} {s : State} {m : MethodId} {below : List Frame} {meth : Method} {c : Code} (l : Launch) (Y : zw_Y) (N0 : Nat) (ad : Nat → Nat) (sh : Nat → Option zw_Sh) (u g0 : zm_T) (hM : zm_S sh) (X : zw_X p m meth c cX10_copyBook 6 (some .int) s ([.ref (ad 0), .int 0, .int 6] : List Value).toArray yX10_copyBook.cls Y) (hnm : meth.name = yX10_copyBook.name) :
    ∀ (n : Nat) (i : Nat) (w : zm_T) (H : Heap) (locs : List Loc) (ls : Array Slot), i ≤ 6 → 6 - i < n → w = zs_cpk u 0 6 i → zw_St Y N0 ad sh (zm_mix w g0) s H locs → lv_has ls 6 [(4, .int (nI i)), (3, .int (zs_cnt u 0 i)), (0, .ref (ad 0)), (1, .int 0), (2, .int 6)] → W p l e ({ frames := 0, cells := 0, slots := 0, locals := 0 } : Room) s m ([.ref (ad 0), .int 0, .int 6] : List Value).toArray below meth c H locs 0 0 (MQ below (zw_Q Y N0 (zp_G ad sh (fun v g' => ∃ r : Int32, v = some (.int r) ∧ r = zs_cnt u 0 6 ∧ g' = zm_mix (zs_cp u 0 6) g0))) ([.ref (ad 0), .int 0, .int 6] : List Value).toArray s 0 0 (fun q => N0 ≤ q)) (F0 m 5 ls []) := by
  intro n
  induction n with
  | zero => intro i w H locs ls h1 h2; omega
  | succ n ih =>
    intro i w H locs ls hi hn hw hW hl
    refine lv_iload X.1 X.2.1 dX10_copyBook_5 (lv_at hl 0 rfl) ?_
    refine lv_bipush (v := 6) X.1 X.2.1 dX10_copyBook_7 (by decide) ?_
    refine zr_icmp_ge (a := ((i : Nat) : Int)) (b := 6) (tgt := 117) X dX10_copyBook_9 (by decide) (nI_toInt (by omega)) (by decide) (fun c_1 => ?_) (fun c_1 => ?_)
    · refine lv_iload_n X.1 X.2.1 dX10_copyBook_117 rfl (lv_at hl 1 rfl) ?_
      have h6 : i = 6 := by omega
      subst h6
      subst hw
      exact zr_iret X hW dX10_copyBook_118 (Nat.le_refl _) (Nat.le_refl _) ⟨rfl, rfl, _, rfl, rfl, rfl⟩
    · refine lv_aload_n X.1 X.2.1 dX10_copyBook_12 rfl (lv_at hl 2 rfl) ?_
      refine zr_get (v := .ref (ad 5)) X hW fs_X10_20_9 dX10_copyBook_13 (zm_s0 hM) rfl rfl rfl ?_
      refine lv_iload_n X.1 X.2.1 dX10_copyBook_16 rfl (lv_at hl 4 rfl) ?_
      refine lv_iload X.1 X.2.1 dX10_copyBook_17 (lv_at hl 0 rfl) ?_
      refine lv_iadd X.1 X.2.1 dX10_copyBook_19 ?_
      refine zr_eqi (v := nI (6 + i)) (nI_add 6 i) ?_
      refine lv_aload_n X.1 X.2.1 dX10_copyBook_20 rfl (lv_at hl 2 rfl) ?_
      refine zr_get (v := .ref (ad 5)) X hW fs_X10_20_9 dX10_copyBook_21 (zm_s0 hM) rfl rfl rfl ?_
      refine lv_iload_n X.1 X.2.1 dX10_copyBook_24 rfl (lv_at hl 3 rfl) ?_
      refine lv_iload X.1 X.2.1 dX10_copyBook_25 (lv_at hl 0 rfl) ?_
      refine lv_iadd X.1 X.2.1 dX10_copyBook_27 ?_
      refine zr_eqi (v := nI (0 + i)) (nI_add 0 i) ?_
      have hx_2 := nI_clamp (n := 0 + i) (by omega)
      refine zr_iald (v := u 5 (0 + i)) X hW dX10_copyBook_28 (zm_s5 hM) rfl rfl (zi_vp (by rw [nI_toInt (by omega)]; omega)) ((show zm_mix w g0 5 (nI (0 + i) : Int32).toNatClampNeg = w 5 (0 + i) from (by rw [hx_2]; rfl)).trans (show w 5 (0 + i) = u 5 (0 + i) from (by rw [hw]; exact zs_cpkn u (by omega)))) ?_
      have hx_3 := nI_clamp (n := 6 + i) (by omega)
      refine zr_iast X hW dX10_copyBook_29 (zm_s5 hM) rfl rfl (zi_vp (by rw [nI_toInt (by omega)]; omega)) (fun H locs hW => ?_)
      rw [hx_3] at hW
      have hW : zw_St Y N0 ad sh (zm_mix (zm_w w 5 (6 + i) (u 5 (0 + i))) g0) s H locs := zm_st (by decide) hW
      obtain ⟨u_4, hu_4⟩ : ∃ z : zm_T, z = zm_w w 5 (6 + i) (u 5 (0 + i)) := ⟨_, rfl⟩
      rw [← hu_4] at hW
      refine lv_aload_n X.1 X.2.1 dX10_copyBook_30 rfl (lv_at hl 2 rfl) ?_
      refine zr_get (v := .ref (ad 6)) X hW fs_X10_23_9 dX10_copyBook_31 (zm_s0 hM) rfl rfl rfl ?_
      refine lv_iload_n X.1 X.2.1 dX10_copyBook_34 rfl (lv_at hl 4 rfl) ?_
      refine lv_iload X.1 X.2.1 dX10_copyBook_35 (lv_at hl 0 rfl) ?_
      refine lv_iadd X.1 X.2.1 dX10_copyBook_37 ?_
      refine zr_eqi (v := nI (6 + i)) (nI_add 6 i) ?_
      refine lv_aload_n X.1 X.2.1 dX10_copyBook_38 rfl (lv_at hl 2 rfl) ?_
      refine zr_get (v := .ref (ad 6)) X hW fs_X10_23_9 dX10_copyBook_39 (zm_s0 hM) rfl rfl rfl ?_
      refine lv_iload_n X.1 X.2.1 dX10_copyBook_42 rfl (lv_at hl 3 rfl) ?_
      refine lv_iload X.1 X.2.1 dX10_copyBook_43 (lv_at hl 0 rfl) ?_
      refine lv_iadd X.1 X.2.1 dX10_copyBook_45 ?_
      refine zr_eqi (v := nI (0 + i)) (nI_add 0 i) ?_
      have hx_5 := nI_clamp (n := 0 + i) (by omega)
      refine zr_iald (v := u 6 (0 + i)) X hW dX10_copyBook_46 (zm_s6 hM) rfl rfl (zi_vp (by rw [nI_toInt (by omega)]; omega)) ((show zm_mix u_4 g0 6 (nI (0 + i) : Int32).toNatClampNeg = u_4 6 (0 + i) from (by rw [hx_5]; rfl)).trans ((show u_4 6 (0 + i) = w 6 (0 + i) from (by rw [hu_4]; rfl)).trans (show w 6 (0 + i) = u 6 (0 + i) from (by rw [hw]; exact zs_cpkn u (by omega))))) ?_
      have hx_6 := nI_clamp (n := 6 + i) (by omega)
      refine zr_iast X hW dX10_copyBook_47 (zm_s6 hM) rfl rfl (zi_vp (by rw [nI_toInt (by omega)]; omega)) (fun H locs hW => ?_)
      rw [hx_6] at hW
      have hW : zw_St Y N0 ad sh (zm_mix (zm_w u_4 6 (6 + i) (u 6 (0 + i))) g0) s H locs := zm_st (by decide) hW
      obtain ⟨u_7, hu_7⟩ : ∃ z : zm_T, z = zm_w u_4 6 (6 + i) (u 6 (0 + i)) := ⟨_, rfl⟩
      rw [← hu_7] at hW
      refine lv_iconst (v := 0) X.1 X.2.1 dX10_copyBook_48 (by decide) ?_
      refine lv_istore (lv' := [(5, .int 0), (4, .int (nI (i))), (3, .int (zs_cnt u 0 i)), (0, .ref (ad 0)), (1, .int 0), (2, .int 6)]) X.1 X.2.1 dX10_copyBook_49 hl (by decide) rfl (fun ls hl => ?_)
      refine lv_iload X.1 X.2.1 dX10_copyBook_51 (lv_at hl 0 rfl) ?_
      refine lv_iconst (v := 3) X.1 X.2.1 dX10_copyBook_53 (by decide) ?_
      refine zr_icmp_ge (a := 0) (b := 3) (tgt := 91) X dX10_copyBook_54 (by decide) (by decide) (by decide) (fun c9 => absurd c9 (by decide)) (fun _ => ?_)
      refine lv_aload_n X.1 X.2.1 dX10_copyBook_57 rfl (lv_at hl 3 rfl) ?_
      refine zr_get (v := .ref (ad 7)) X hW fs_X10_26_9 dX10_copyBook_58 (zm_s0 hM) rfl rfl rfl ?_
      refine lv_iconst (v := 3) X.1 X.2.1 dX10_copyBook_61 (by decide) ?_
      refine lv_iload_n X.1 X.2.1 dX10_copyBook_62 rfl (lv_at hl 5 rfl) ?_
      refine lv_iload X.1 X.2.1 dX10_copyBook_63 (lv_at hl 1 rfl) ?_
      refine lv_iadd X.1 X.2.1 dX10_copyBook_65 ?_
      refine zr_eqi (v := nI (6 + i)) (nI_add 6 i) ?_
      refine lv_imul X.1 X.2.1 dX10_copyBook_66 ?_
      refine zr_eqi (v := nI (3 * (6 + i))) (pk_mul 3 (6 + i)) ?_
      refine lv_iload X.1 X.2.1 dX10_copyBook_67 (lv_at hl 0 rfl) ?_
      refine lv_iadd X.1 X.2.1 dX10_copyBook_69 ?_
      refine zr_eqi (v := nI ((3 * (6 + i)) + 0)) (nI_add (3 * (6 + i)) 0) ?_
      refine lv_aload_n X.1 X.2.1 dX10_copyBook_70 rfl (lv_at hl 3 rfl) ?_
      refine zr_get (v := .ref (ad 7)) X hW fs_X10_26_9 dX10_copyBook_71 (zm_s0 hM) rfl rfl rfl ?_
      refine lv_iconst (v := 3) X.1 X.2.1 dX10_copyBook_74 (by decide) ?_
      refine lv_iload_n X.1 X.2.1 dX10_copyBook_75 rfl (lv_at hl 4 rfl) ?_
      refine lv_iload X.1 X.2.1 dX10_copyBook_76 (lv_at hl 1 rfl) ?_
      refine lv_iadd X.1 X.2.1 dX10_copyBook_78 ?_
      refine zr_eqi (v := nI (0 + i)) (nI_add 0 i) ?_
      refine lv_imul X.1 X.2.1 dX10_copyBook_79 ?_
      refine zr_eqi (v := nI (3 * (0 + i))) (pk_mul 3 (0 + i)) ?_
      refine lv_iload X.1 X.2.1 dX10_copyBook_80 (lv_at hl 0 rfl) ?_
      refine lv_iadd X.1 X.2.1 dX10_copyBook_82 ?_
      refine zr_eqi (v := nI ((3 * (0 + i)) + 0)) (nI_add (3 * (0 + i)) 0) ?_
      have hx_8 := nI_clamp (n := (3 * (0 + i)) + 0) (by omega)
      refine zr_iald (v := u 7 ((3 * (0 + i)) + 0)) X hW dX10_copyBook_83 (zm_s7 hM) rfl rfl (zi_vp (by rw [nI_toInt (by omega)]; omega)) ((show zm_mix u_7 g0 7 (nI ((3 * (0 + i)) + 0) : Int32).toNatClampNeg = u_7 7 ((3 * (0 + i)) + 0) from (by rw [hx_8]; rfl)).trans ((show u_7 7 ((3 * (0 + i)) + 0) = u_4 7 ((3 * (0 + i)) + 0) from (by rw [hu_7]; rfl)).trans ((show u_4 7 ((3 * (0 + i)) + 0) = w 7 ((3 * (0 + i)) + 0) from (by rw [hu_4]; rfl)).trans (show w 7 ((3 * (0 + i)) + 0) = u 7 ((3 * (0 + i)) + 0) from (by rw [hw]; exact zs_cpkn u (by omega)))))) ?_
      have hx_9 := nI_clamp (n := (3 * (6 + i)) + 0) (by omega)
      refine zr_iast X hW dX10_copyBook_84 (zm_s7 hM) rfl rfl (zi_vp (by rw [nI_toInt (by omega)]; omega)) (fun H locs hW => ?_)
      rw [hx_9] at hW
      have hW : zw_St Y N0 ad sh (zm_mix (zm_w u_7 7 ((3 * (6 + i)) + 0) (u 7 ((3 * (0 + i)) + 0))) g0) s H locs := zm_st (by decide) hW
      obtain ⟨u_10, hu_10⟩ : ∃ z : zm_T, z = zm_w u_7 7 ((3 * (6 + i)) + 0) (u 7 ((3 * (0 + i)) + 0)) := ⟨_, rfl⟩
      rw [← hu_10] at hW
      refine lv_iinc (v := 1) (lv' := [(5, .int 1), (4, .int (nI (i))), (3, .int (zs_cnt u 0 i)), (0, .ref (ad 0)), (1, .int 0), (2, .int 6)]) X.1 X.2.1 dX10_copyBook_85 hl (k := 0) rfl (by decide) (by decide) rfl (fun ls hl => ?_)
      refine lv_goto (tgt := 51) X.1 X.2.1 dX10_copyBook_88 (by decide) ?_
      refine lv_iload X.1 X.2.1 dX10_copyBook_51 (lv_at hl 0 rfl) ?_
      refine lv_iconst (v := 3) X.1 X.2.1 dX10_copyBook_53 (by decide) ?_
      refine zr_icmp_ge (a := 1) (b := 3) (tgt := 91) X dX10_copyBook_54 (by decide) (by decide) (by decide) (fun c9 => absurd c9 (by decide)) (fun _ => ?_)
      refine lv_aload_n X.1 X.2.1 dX10_copyBook_57 rfl (lv_at hl 3 rfl) ?_
      refine zr_get (v := .ref (ad 7)) X hW fs_X10_26_9 dX10_copyBook_58 (zm_s0 hM) rfl rfl rfl ?_
      refine lv_iconst (v := 3) X.1 X.2.1 dX10_copyBook_61 (by decide) ?_
      refine lv_iload_n X.1 X.2.1 dX10_copyBook_62 rfl (lv_at hl 5 rfl) ?_
      refine lv_iload X.1 X.2.1 dX10_copyBook_63 (lv_at hl 1 rfl) ?_
      refine lv_iadd X.1 X.2.1 dX10_copyBook_65 ?_
      refine zr_eqi (v := nI (6 + i)) (nI_add 6 i) ?_
      refine lv_imul X.1 X.2.1 dX10_copyBook_66 ?_
      refine zr_eqi (v := nI (3 * (6 + i))) (pk_mul 3 (6 + i)) ?_
      refine lv_iload X.1 X.2.1 dX10_copyBook_67 (lv_at hl 0 rfl) ?_
      refine lv_iadd X.1 X.2.1 dX10_copyBook_69 ?_
      refine zr_eqi (v := nI ((3 * (6 + i)) + 1)) (nI_add (3 * (6 + i)) 1) ?_
      refine lv_aload_n X.1 X.2.1 dX10_copyBook_70 rfl (lv_at hl 3 rfl) ?_
      refine zr_get (v := .ref (ad 7)) X hW fs_X10_26_9 dX10_copyBook_71 (zm_s0 hM) rfl rfl rfl ?_
      refine lv_iconst (v := 3) X.1 X.2.1 dX10_copyBook_74 (by decide) ?_
      refine lv_iload_n X.1 X.2.1 dX10_copyBook_75 rfl (lv_at hl 4 rfl) ?_
      refine lv_iload X.1 X.2.1 dX10_copyBook_76 (lv_at hl 1 rfl) ?_
      refine lv_iadd X.1 X.2.1 dX10_copyBook_78 ?_
      refine zr_eqi (v := nI (0 + i)) (nI_add 0 i) ?_
      refine lv_imul X.1 X.2.1 dX10_copyBook_79 ?_
      refine zr_eqi (v := nI (3 * (0 + i))) (pk_mul 3 (0 + i)) ?_
      refine lv_iload X.1 X.2.1 dX10_copyBook_80 (lv_at hl 0 rfl) ?_
      refine lv_iadd X.1 X.2.1 dX10_copyBook_82 ?_
      refine zr_eqi (v := nI ((3 * (0 + i)) + 1)) (nI_add (3 * (0 + i)) 1) ?_
      have hx_11 := nI_clamp (n := (3 * (0 + i)) + 1) (by omega)
      refine zr_iald (v := u 7 ((3 * (0 + i)) + 1)) X hW dX10_copyBook_83 (zm_s7 hM) rfl rfl (zi_vp (by rw [nI_toInt (by omega)]; omega)) ((show zm_mix u_10 g0 7 (nI ((3 * (0 + i)) + 1) : Int32).toNatClampNeg = u_10 7 ((3 * (0 + i)) + 1) from (by rw [hx_11]; rfl)).trans ((show u_10 7 ((3 * (0 + i)) + 1) = u_7 7 ((3 * (0 + i)) + 1) from (by rw [hu_10]; exact zm_wn _ _ (Or.inr (by omega)))).trans ((show u_7 7 ((3 * (0 + i)) + 1) = u_4 7 ((3 * (0 + i)) + 1) from (by rw [hu_7]; rfl)).trans ((show u_4 7 ((3 * (0 + i)) + 1) = w 7 ((3 * (0 + i)) + 1) from (by rw [hu_4]; rfl)).trans (show w 7 ((3 * (0 + i)) + 1) = u 7 ((3 * (0 + i)) + 1) from (by rw [hw]; exact zs_cpkn u (by omega))))))) ?_
      have hx_12 := nI_clamp (n := (3 * (6 + i)) + 1) (by omega)
      refine zr_iast X hW dX10_copyBook_84 (zm_s7 hM) rfl rfl (zi_vp (by rw [nI_toInt (by omega)]; omega)) (fun H locs hW => ?_)
      rw [hx_12] at hW
      have hW : zw_St Y N0 ad sh (zm_mix (zm_w u_10 7 ((3 * (6 + i)) + 1) (u 7 ((3 * (0 + i)) + 1))) g0) s H locs := zm_st (by decide) hW
      obtain ⟨u_13, hu_13⟩ : ∃ z : zm_T, z = zm_w u_10 7 ((3 * (6 + i)) + 1) (u 7 ((3 * (0 + i)) + 1)) := ⟨_, rfl⟩
      rw [← hu_13] at hW
      refine lv_iinc (v := 2) (lv' := [(5, .int 2), (4, .int (nI (i))), (3, .int (zs_cnt u 0 i)), (0, .ref (ad 0)), (1, .int 0), (2, .int 6)]) X.1 X.2.1 dX10_copyBook_85 hl (k := 0) rfl (by decide) (by decide) rfl (fun ls hl => ?_)
      refine lv_goto (tgt := 51) X.1 X.2.1 dX10_copyBook_88 (by decide) ?_
      refine lv_iload X.1 X.2.1 dX10_copyBook_51 (lv_at hl 0 rfl) ?_
      refine lv_iconst (v := 3) X.1 X.2.1 dX10_copyBook_53 (by decide) ?_
      refine zr_icmp_ge (a := 2) (b := 3) (tgt := 91) X dX10_copyBook_54 (by decide) (by decide) (by decide) (fun c9 => absurd c9 (by decide)) (fun _ => ?_)
      refine lv_aload_n X.1 X.2.1 dX10_copyBook_57 rfl (lv_at hl 3 rfl) ?_
      refine zr_get (v := .ref (ad 7)) X hW fs_X10_26_9 dX10_copyBook_58 (zm_s0 hM) rfl rfl rfl ?_
      refine lv_iconst (v := 3) X.1 X.2.1 dX10_copyBook_61 (by decide) ?_
      refine lv_iload_n X.1 X.2.1 dX10_copyBook_62 rfl (lv_at hl 5 rfl) ?_
      refine lv_iload X.1 X.2.1 dX10_copyBook_63 (lv_at hl 1 rfl) ?_
      refine lv_iadd X.1 X.2.1 dX10_copyBook_65 ?_
      refine zr_eqi (v := nI (6 + i)) (nI_add 6 i) ?_
      refine lv_imul X.1 X.2.1 dX10_copyBook_66 ?_
      refine zr_eqi (v := nI (3 * (6 + i))) (pk_mul 3 (6 + i)) ?_
      refine lv_iload X.1 X.2.1 dX10_copyBook_67 (lv_at hl 0 rfl) ?_
      refine lv_iadd X.1 X.2.1 dX10_copyBook_69 ?_
      refine zr_eqi (v := nI ((3 * (6 + i)) + 2)) (nI_add (3 * (6 + i)) 2) ?_
      refine lv_aload_n X.1 X.2.1 dX10_copyBook_70 rfl (lv_at hl 3 rfl) ?_
      refine zr_get (v := .ref (ad 7)) X hW fs_X10_26_9 dX10_copyBook_71 (zm_s0 hM) rfl rfl rfl ?_
      refine lv_iconst (v := 3) X.1 X.2.1 dX10_copyBook_74 (by decide) ?_
      refine lv_iload_n X.1 X.2.1 dX10_copyBook_75 rfl (lv_at hl 4 rfl) ?_
      refine lv_iload X.1 X.2.1 dX10_copyBook_76 (lv_at hl 1 rfl) ?_
      refine lv_iadd X.1 X.2.1 dX10_copyBook_78 ?_
      refine zr_eqi (v := nI (0 + i)) (nI_add 0 i) ?_
      refine lv_imul X.1 X.2.1 dX10_copyBook_79 ?_
      refine zr_eqi (v := nI (3 * (0 + i))) (pk_mul 3 (0 + i)) ?_
      refine lv_iload X.1 X.2.1 dX10_copyBook_80 (lv_at hl 0 rfl) ?_
      refine lv_iadd X.1 X.2.1 dX10_copyBook_82 ?_
      refine zr_eqi (v := nI ((3 * (0 + i)) + 2)) (nI_add (3 * (0 + i)) 2) ?_
      have hx_14 := nI_clamp (n := (3 * (0 + i)) + 2) (by omega)
      refine zr_iald (v := u 7 ((3 * (0 + i)) + 2)) X hW dX10_copyBook_83 (zm_s7 hM) rfl rfl (zi_vp (by rw [nI_toInt (by omega)]; omega)) ((show zm_mix u_13 g0 7 (nI ((3 * (0 + i)) + 2) : Int32).toNatClampNeg = u_13 7 ((3 * (0 + i)) + 2) from (by rw [hx_14]; rfl)).trans ((show u_13 7 ((3 * (0 + i)) + 2) = u_10 7 ((3 * (0 + i)) + 2) from (by rw [hu_13]; exact zm_wn _ _ (Or.inr (by omega)))).trans ((show u_10 7 ((3 * (0 + i)) + 2) = u_7 7 ((3 * (0 + i)) + 2) from (by rw [hu_10]; exact zm_wn _ _ (Or.inr (by omega)))).trans ((show u_7 7 ((3 * (0 + i)) + 2) = u_4 7 ((3 * (0 + i)) + 2) from (by rw [hu_7]; rfl)).trans ((show u_4 7 ((3 * (0 + i)) + 2) = w 7 ((3 * (0 + i)) + 2) from (by rw [hu_4]; rfl)).trans (show w 7 ((3 * (0 + i)) + 2) = u 7 ((3 * (0 + i)) + 2) from (by rw [hw]; exact zs_cpkn u (by omega)))))))) ?_
      have hx_15 := nI_clamp (n := (3 * (6 + i)) + 2) (by omega)
      refine zr_iast X hW dX10_copyBook_84 (zm_s7 hM) rfl rfl (zi_vp (by rw [nI_toInt (by omega)]; omega)) (fun H locs hW => ?_)
      rw [hx_15] at hW
      have hW : zw_St Y N0 ad sh (zm_mix (zm_w u_13 7 ((3 * (6 + i)) + 2) (u 7 ((3 * (0 + i)) + 2))) g0) s H locs := zm_st (by decide) hW
      obtain ⟨u_16, hu_16⟩ : ∃ z : zm_T, z = zm_w u_13 7 ((3 * (6 + i)) + 2) (u 7 ((3 * (0 + i)) + 2)) := ⟨_, rfl⟩
      rw [← hu_16] at hW
      refine lv_iinc (v := 3) (lv' := [(5, .int 3), (4, .int (nI (i))), (3, .int (zs_cnt u 0 i)), (0, .ref (ad 0)), (1, .int 0), (2, .int 6)]) X.1 X.2.1 dX10_copyBook_85 hl (k := 0) rfl (by decide) (by decide) rfl (fun ls hl => ?_)
      refine lv_goto (tgt := 51) X.1 X.2.1 dX10_copyBook_88 (by decide) ?_
      refine lv_iload X.1 X.2.1 dX10_copyBook_51 (lv_at hl 0 rfl) ?_
      refine lv_iconst (v := 3) X.1 X.2.1 dX10_copyBook_53 (by decide) ?_
      refine zr_icmp_ge (a := 3) (b := 3) (tgt := 91) X dX10_copyBook_54 (by decide) (by decide) (by decide) (fun _ => ?_) (fun c9 => absurd c9 (by decide))
      refine lv_aload_n X.1 X.2.1 dX10_copyBook_91 rfl (lv_at hl 3 rfl) ?_
      refine zr_get (v := .ref (ad 5)) X hW fs_X10_20_9 dX10_copyBook_92 (zm_s0 hM) rfl rfl rfl ?_
      refine lv_iload_n X.1 X.2.1 dX10_copyBook_95 rfl (lv_at hl 4 rfl) ?_
      refine lv_iload X.1 X.2.1 dX10_copyBook_96 (lv_at hl 1 rfl) ?_
      refine lv_iadd X.1 X.2.1 dX10_copyBook_98 ?_
      refine zr_eqi (v := nI (0 + i)) (nI_add 0 i) ?_
      have hx_17 := nI_clamp (n := 0 + i) (by omega)
      refine zr_iald (v := u 5 (0 + i)) X hW dX10_copyBook_99 (zm_s5 hM) rfl rfl (zi_vp (by rw [nI_toInt (by omega)]; omega)) ((show zm_mix u_16 g0 5 (nI (0 + i) : Int32).toNatClampNeg = u_16 5 (0 + i) from (by rw [hx_17]; rfl)).trans ((show u_16 5 (0 + i) = u_13 5 (0 + i) from (by rw [hu_16]; rfl)).trans ((show u_13 5 (0 + i) = u_10 5 (0 + i) from (by rw [hu_13]; rfl)).trans ((show u_10 5 (0 + i) = u_7 5 (0 + i) from (by rw [hu_10]; rfl)).trans ((show u_7 5 (0 + i) = u_4 5 (0 + i) from (by rw [hu_7]; rfl)).trans ((show u_4 5 (0 + i) = w 5 (0 + i) from (by rw [hu_4]; exact zm_wn _ _ (Or.inr (by omega)))).trans (show w 5 (0 + i) = u 5 (0 + i) from (by rw [hw]; exact zs_cpkn u (by omega))))))))) ?_
      refine zr_if_lt (a := (u 5 (0 + i)).toInt) (tgt := 109) X dX10_copyBook_100 (by decide) rfl (fun c_18 => ?_) (fun c_18 => ?_)
      · refine lv_iload_n X.1 X.2.1 dX10_copyBook_109 rfl (lv_at hl 2 rfl) ?_
        refine lv_istore_n (lv' := [(3, .int (zs_cnt u 0 i)), (5, .int 3), (4, .int (nI (i))), (0, .ref (ad 0)), (1, .int 0), (2, .int 6)]) X.1 X.2.1 dX10_copyBook_110 rfl hl (by decide) rfl (fun ls hl => ?_)
        refine lv_iinc (v := nI (i + 1)) (lv' := [(4, .int (nI (i + 1))), (3, .int (zs_cnt u 0 i)), (5, .int 3), (0, .ref (ad 0)), (1, .int 0), (2, .int 6)]) X.1 X.2.1 dX10_copyBook_111 hl (k := 2) rfl (nI_add i 1) (by decide) rfl (fun ls hl => ?_)
        refine lv_goto (tgt := 5) X.1 X.2.1 dX10_copyBook_114 (by decide) ?_
        refine ih (i + 1) _ _ _ _ (by omega) (by omega) (by rw [hu_16, hu_13, hu_10, hu_7, hu_4, hw]; exact zs_cpks u 0 6 i) hW ?_
        rw [show zs_cnt u 0 (i + 1) = zs_cnt u 0 i from if_neg (by omega)]
        exact lv_sub hl [0, 1, 3, 4, 5] rfl
      · refine lv_iload_n X.1 X.2.1 dX10_copyBook_103 rfl (lv_at hl 2 rfl) ?_
        refine lv_iconst (v := 1) X.1 X.2.1 dX10_copyBook_104 (by decide) ?_
        refine lv_iadd X.1 X.2.1 dX10_copyBook_105 ?_
        refine lv_goto (tgt := 110) X.1 X.2.1 dX10_copyBook_106 (by decide) ?_
        refine lv_istore_n (lv' := [(3, .int ((zs_cnt u 0 i) + 1)), (5, .int 3), (4, .int (nI (i))), (0, .ref (ad 0)), (1, .int 0), (2, .int 6)]) X.1 X.2.1 dX10_copyBook_110 rfl hl (by decide) rfl (fun ls hl => ?_)
        refine lv_iinc (v := nI (i + 1)) (lv' := [(4, .int (nI (i + 1))), (3, .int ((zs_cnt u 0 i) + 1)), (5, .int 3), (0, .ref (ad 0)), (1, .int 0), (2, .int 6)]) X.1 X.2.1 dX10_copyBook_111 hl (k := 2) rfl (nI_add i 1) (by decide) rfl (fun ls hl => ?_)
        refine lv_goto (tgt := 5) X.1 X.2.1 dX10_copyBook_114 (by decide) ?_
        refine ih (i + 1) _ _ _ _ (by omega) (by omega) (by rw [hu_16, hu_13, hu_10, hu_7, hu_4, hw]; exact zs_cpks u 0 6 i) hW ?_
        rw [show zs_cnt u 0 (i + 1) = (zs_cnt u 0 i) + 1 from if_pos (by omega)]
        exact lv_sub hl [0, 1, 3, 4, 5] rfl

set_option maxHeartbeats 4000000 in
set_option maxRecDepth 100000 in
theorem c_X10_copyBook_s (l : Launch) (Y : zw_Y) (N0 : Nat) (ad : Nat → Nat) (sh : Nat → Option zw_Sh) (u g0 : zm_T) (hM : zm_S sh) : zw_Met l Y N0 yX10_copyBook cX10_copyBook 6 (some .int) 0 0 0 0 ad sh (zm_mix u g0) [.ref (ad 0), .int 0, .int 6] (zp_G ad sh (fun v g' => ∃ r : Int32, v = some (.int r) ∧ r = zs_cnt u 0 6 ∧ g' = zm_mix (zs_cp u 0 6) g0)) := by
  refine zw_meth (by decide) (Nat.le_of_ble_eq_true rfl) ?_
  intro p e s m below meth c ls X hnm hl hW
  have hl : lv_has ls 6 [(0, .ref (ad 0)), (1, .int 0), (2, .int 6)] := hl
  refine lv_iconst (v := 0) X.1 X.2.1 dX10_copyBook_0 (by decide) ?_
  refine lv_istore_n (lv' := [(3, .int 0), (0, .ref (ad 0)), (1, .int 0), (2, .int 6)]) X.1 X.2.1 dX10_copyBook_1 rfl hl (by decide) rfl (fun ls hl => ?_)
  refine lv_iconst (v := 0) X.1 X.2.1 dX10_copyBook_2 (by decide) ?_
  refine lv_istore (lv' := [(4, .int 0), (3, .int 0), (0, .ref (ad 0)), (1, .int 0), (2, .int 6)]) X.1 X.2.1 dX10_copyBook_3 hl (by decide) rfl (fun ls hl => ?_)
  exact lp_copyBook_s l Y N0 ad sh u g0 hM X hnm 7 0 u _ _ _ (by omega) (by omega) (zs_cpk0 u 0 6).symm hW (lv_sub hl [0, 1, 2, 3, 4] rfl)

set_option maxHeartbeats 8000000 in
set_option maxRecDepth 100000 in
theorem lp_copyBook_c {p : Program} {e : Env} {s : State} {m : MethodId} {below : List Frame} {meth : Method} {c : Code} (l : Launch) (Y : zw_Y) (N0 : Nat) (ad : Nat → Nat) (sh : Nat → Option zw_Sh) (u g0 : zm_T) (hM : zm_S sh) (X : zw_X p m meth c cX10_copyBook 6 (some .int) s ([.ref (ad 0), .int 6, .int 0] : List Value).toArray yX10_copyBook.cls Y) (hnm : meth.name = yX10_copyBook.name) :
    ∀ (n : Nat) (i : Nat) (w : zm_T) (H : Heap) (locs : List Loc) (ls : Array Slot), i ≤ 6 → 6 - i < n → w = zs_cpk u 6 0 i → zw_St Y N0 ad sh (zm_mix w g0) s H locs → lv_has ls 6 [(4, .int (nI i)), (3, .int (zs_cnt u 6 i)), (0, .ref (ad 0)), (1, .int 6), (2, .int 0)] → W p l e ({ frames := 0, cells := 0, slots := 0, locals := 0 } : Room) s m ([.ref (ad 0), .int 6, .int 0] : List Value).toArray below meth c H locs 0 0 (MQ below (zw_Q Y N0 (zp_G ad sh (fun v g' => ∃ r : Int32, v = some (.int r) ∧ r = zs_cnt u 6 6 ∧ g' = zm_mix (zs_cp u 6 0) g0))) ([.ref (ad 0), .int 6, .int 0] : List Value).toArray s 0 0 (fun q => N0 ≤ q)) (F0 m 5 ls []) := by
  intro n
  induction n with
  | zero => intro i w H locs ls h1 h2; omega
  | succ n ih =>
    intro i w H locs ls hi hn hw hW hl
    refine lv_iload X.1 X.2.1 dX10_copyBook_5 (lv_at hl 0 rfl) ?_
    refine lv_bipush (v := 6) X.1 X.2.1 dX10_copyBook_7 (by decide) ?_
    refine zr_icmp_ge (a := ((i : Nat) : Int)) (b := 6) (tgt := 117) X dX10_copyBook_9 (by decide) (nI_toInt (by omega)) (by decide) (fun c_1 => ?_) (fun c_1 => ?_)
    · refine lv_iload_n X.1 X.2.1 dX10_copyBook_117 rfl (lv_at hl 1 rfl) ?_
      have h6 : i = 6 := by omega
      subst h6
      subst hw
      exact zr_iret X hW dX10_copyBook_118 (Nat.le_refl _) (Nat.le_refl _) ⟨rfl, rfl, _, rfl, rfl, rfl⟩
    · refine lv_aload_n X.1 X.2.1 dX10_copyBook_12 rfl (lv_at hl 2 rfl) ?_
      refine zr_get (v := .ref (ad 5)) X hW fs_X10_20_9 dX10_copyBook_13 (zm_s0 hM) rfl rfl rfl ?_
      refine lv_iload_n X.1 X.2.1 dX10_copyBook_16 rfl (lv_at hl 4 rfl) ?_
      refine lv_iload X.1 X.2.1 dX10_copyBook_17 (lv_at hl 0 rfl) ?_
      refine lv_iadd X.1 X.2.1 dX10_copyBook_19 ?_
      refine zr_eqi (v := nI (0 + i)) (nI_add 0 i) ?_
      refine lv_aload_n X.1 X.2.1 dX10_copyBook_20 rfl (lv_at hl 2 rfl) ?_
      refine zr_get (v := .ref (ad 5)) X hW fs_X10_20_9 dX10_copyBook_21 (zm_s0 hM) rfl rfl rfl ?_
      refine lv_iload_n X.1 X.2.1 dX10_copyBook_24 rfl (lv_at hl 3 rfl) ?_
      refine lv_iload X.1 X.2.1 dX10_copyBook_25 (lv_at hl 0 rfl) ?_
      refine lv_iadd X.1 X.2.1 dX10_copyBook_27 ?_
      refine zr_eqi (v := nI (6 + i)) (nI_add 6 i) ?_
      have hx_2 := nI_clamp (n := 6 + i) (by omega)
      refine zr_iald (v := u 5 (6 + i)) X hW dX10_copyBook_28 (zm_s5 hM) rfl rfl (zi_vp (by rw [nI_toInt (by omega)]; omega)) ((show zm_mix w g0 5 (nI (6 + i) : Int32).toNatClampNeg = w 5 (6 + i) from (by rw [hx_2]; rfl)).trans (show w 5 (6 + i) = u 5 (6 + i) from (by rw [hw]; exact zs_cpkn u (by omega)))) ?_
      have hx_3 := nI_clamp (n := 0 + i) (by omega)
      refine zr_iast X hW dX10_copyBook_29 (zm_s5 hM) rfl rfl (zi_vp (by rw [nI_toInt (by omega)]; omega)) (fun H locs hW => ?_)
      rw [hx_3] at hW
      have hW : zw_St Y N0 ad sh (zm_mix (zm_w w 5 (0 + i) (u 5 (6 + i))) g0) s H locs := zm_st (by decide) hW
      obtain ⟨u_4, hu_4⟩ : ∃ z : zm_T, z = zm_w w 5 (0 + i) (u 5 (6 + i)) := ⟨_, rfl⟩
      rw [← hu_4] at hW
      refine lv_aload_n X.1 X.2.1 dX10_copyBook_30 rfl (lv_at hl 2 rfl) ?_
      refine zr_get (v := .ref (ad 6)) X hW fs_X10_23_9 dX10_copyBook_31 (zm_s0 hM) rfl rfl rfl ?_
      refine lv_iload_n X.1 X.2.1 dX10_copyBook_34 rfl (lv_at hl 4 rfl) ?_
      refine lv_iload X.1 X.2.1 dX10_copyBook_35 (lv_at hl 0 rfl) ?_
      refine lv_iadd X.1 X.2.1 dX10_copyBook_37 ?_
      refine zr_eqi (v := nI (0 + i)) (nI_add 0 i) ?_
      refine lv_aload_n X.1 X.2.1 dX10_copyBook_38 rfl (lv_at hl 2 rfl) ?_
      refine zr_get (v := .ref (ad 6)) X hW fs_X10_23_9 dX10_copyBook_39 (zm_s0 hM) rfl rfl rfl ?_
      refine lv_iload_n X.1 X.2.1 dX10_copyBook_42 rfl (lv_at hl 3 rfl) ?_
      refine lv_iload X.1 X.2.1 dX10_copyBook_43 (lv_at hl 0 rfl) ?_
      refine lv_iadd X.1 X.2.1 dX10_copyBook_45 ?_
      refine zr_eqi (v := nI (6 + i)) (nI_add 6 i) ?_
      have hx_5 := nI_clamp (n := 6 + i) (by omega)
      refine zr_iald (v := u 6 (6 + i)) X hW dX10_copyBook_46 (zm_s6 hM) rfl rfl (zi_vp (by rw [nI_toInt (by omega)]; omega)) ((show zm_mix u_4 g0 6 (nI (6 + i) : Int32).toNatClampNeg = u_4 6 (6 + i) from (by rw [hx_5]; rfl)).trans ((show u_4 6 (6 + i) = w 6 (6 + i) from (by rw [hu_4]; rfl)).trans (show w 6 (6 + i) = u 6 (6 + i) from (by rw [hw]; exact zs_cpkn u (by omega))))) ?_
      have hx_6 := nI_clamp (n := 0 + i) (by omega)
      refine zr_iast X hW dX10_copyBook_47 (zm_s6 hM) rfl rfl (zi_vp (by rw [nI_toInt (by omega)]; omega)) (fun H locs hW => ?_)
      rw [hx_6] at hW
      have hW : zw_St Y N0 ad sh (zm_mix (zm_w u_4 6 (0 + i) (u 6 (6 + i))) g0) s H locs := zm_st (by decide) hW
      obtain ⟨u_7, hu_7⟩ : ∃ z : zm_T, z = zm_w u_4 6 (0 + i) (u 6 (6 + i)) := ⟨_, rfl⟩
      rw [← hu_7] at hW
      refine lv_iconst (v := 0) X.1 X.2.1 dX10_copyBook_48 (by decide) ?_
      refine lv_istore (lv' := [(5, .int 0), (4, .int (nI (i))), (3, .int (zs_cnt u 6 i)), (0, .ref (ad 0)), (1, .int 6), (2, .int 0)]) X.1 X.2.1 dX10_copyBook_49 hl (by decide) rfl (fun ls hl => ?_)
      refine lv_iload X.1 X.2.1 dX10_copyBook_51 (lv_at hl 0 rfl) ?_
      refine lv_iconst (v := 3) X.1 X.2.1 dX10_copyBook_53 (by decide) ?_
      refine zr_icmp_ge (a := 0) (b := 3) (tgt := 91) X dX10_copyBook_54 (by decide) (by decide) (by decide) (fun c9 => absurd c9 (by decide)) (fun _ => ?_)
      refine lv_aload_n X.1 X.2.1 dX10_copyBook_57 rfl (lv_at hl 3 rfl) ?_
      refine zr_get (v := .ref (ad 7)) X hW fs_X10_26_9 dX10_copyBook_58 (zm_s0 hM) rfl rfl rfl ?_
      refine lv_iconst (v := 3) X.1 X.2.1 dX10_copyBook_61 (by decide) ?_
      refine lv_iload_n X.1 X.2.1 dX10_copyBook_62 rfl (lv_at hl 5 rfl) ?_
      refine lv_iload X.1 X.2.1 dX10_copyBook_63 (lv_at hl 1 rfl) ?_
      refine lv_iadd X.1 X.2.1 dX10_copyBook_65 ?_
      refine zr_eqi (v := nI (0 + i)) (nI_add 0 i) ?_
      refine lv_imul X.1 X.2.1 dX10_copyBook_66 ?_
      refine zr_eqi (v := nI (3 * (0 + i))) (pk_mul 3 (0 + i)) ?_
      refine lv_iload X.1 X.2.1 dX10_copyBook_67 (lv_at hl 0 rfl) ?_
      refine lv_iadd X.1 X.2.1 dX10_copyBook_69 ?_
      refine zr_eqi (v := nI ((3 * (0 + i)) + 0)) (nI_add (3 * (0 + i)) 0) ?_
      refine lv_aload_n X.1 X.2.1 dX10_copyBook_70 rfl (lv_at hl 3 rfl) ?_
      refine zr_get (v := .ref (ad 7)) X hW fs_X10_26_9 dX10_copyBook_71 (zm_s0 hM) rfl rfl rfl ?_
      refine lv_iconst (v := 3) X.1 X.2.1 dX10_copyBook_74 (by decide) ?_
      refine lv_iload_n X.1 X.2.1 dX10_copyBook_75 rfl (lv_at hl 4 rfl) ?_
      refine lv_iload X.1 X.2.1 dX10_copyBook_76 (lv_at hl 1 rfl) ?_
      refine lv_iadd X.1 X.2.1 dX10_copyBook_78 ?_
      refine zr_eqi (v := nI (6 + i)) (nI_add 6 i) ?_
      refine lv_imul X.1 X.2.1 dX10_copyBook_79 ?_
      refine zr_eqi (v := nI (3 * (6 + i))) (pk_mul 3 (6 + i)) ?_
      refine lv_iload X.1 X.2.1 dX10_copyBook_80 (lv_at hl 0 rfl) ?_
      refine lv_iadd X.1 X.2.1 dX10_copyBook_82 ?_
      refine zr_eqi (v := nI ((3 * (6 + i)) + 0)) (nI_add (3 * (6 + i)) 0) ?_
      have hx_8 := nI_clamp (n := (3 * (6 + i)) + 0) (by omega)
      refine zr_iald (v := u 7 ((3 * (6 + i)) + 0)) X hW dX10_copyBook_83 (zm_s7 hM) rfl rfl (zi_vp (by rw [nI_toInt (by omega)]; omega)) ((show zm_mix u_7 g0 7 (nI ((3 * (6 + i)) + 0) : Int32).toNatClampNeg = u_7 7 ((3 * (6 + i)) + 0) from (by rw [hx_8]; rfl)).trans ((show u_7 7 ((3 * (6 + i)) + 0) = u_4 7 ((3 * (6 + i)) + 0) from (by rw [hu_7]; rfl)).trans ((show u_4 7 ((3 * (6 + i)) + 0) = w 7 ((3 * (6 + i)) + 0) from (by rw [hu_4]; rfl)).trans (show w 7 ((3 * (6 + i)) + 0) = u 7 ((3 * (6 + i)) + 0) from (by rw [hw]; exact zs_cpkn u (by omega)))))) ?_
      have hx_9 := nI_clamp (n := (3 * (0 + i)) + 0) (by omega)
      refine zr_iast X hW dX10_copyBook_84 (zm_s7 hM) rfl rfl (zi_vp (by rw [nI_toInt (by omega)]; omega)) (fun H locs hW => ?_)
      rw [hx_9] at hW
      have hW : zw_St Y N0 ad sh (zm_mix (zm_w u_7 7 ((3 * (0 + i)) + 0) (u 7 ((3 * (6 + i)) + 0))) g0) s H locs := zm_st (by decide) hW
      obtain ⟨u_10, hu_10⟩ : ∃ z : zm_T, z = zm_w u_7 7 ((3 * (0 + i)) + 0) (u 7 ((3 * (6 + i)) + 0)) := ⟨_, rfl⟩
      rw [← hu_10] at hW
      refine lv_iinc (v := 1) (lv' := [(5, .int 1), (4, .int (nI (i))), (3, .int (zs_cnt u 6 i)), (0, .ref (ad 0)), (1, .int 6), (2, .int 0)]) X.1 X.2.1 dX10_copyBook_85 hl (k := 0) rfl (by decide) (by decide) rfl (fun ls hl => ?_)
      refine lv_goto (tgt := 51) X.1 X.2.1 dX10_copyBook_88 (by decide) ?_
      refine lv_iload X.1 X.2.1 dX10_copyBook_51 (lv_at hl 0 rfl) ?_
      refine lv_iconst (v := 3) X.1 X.2.1 dX10_copyBook_53 (by decide) ?_
      refine zr_icmp_ge (a := 1) (b := 3) (tgt := 91) X dX10_copyBook_54 (by decide) (by decide) (by decide) (fun c9 => absurd c9 (by decide)) (fun _ => ?_)
      refine lv_aload_n X.1 X.2.1 dX10_copyBook_57 rfl (lv_at hl 3 rfl) ?_
      refine zr_get (v := .ref (ad 7)) X hW fs_X10_26_9 dX10_copyBook_58 (zm_s0 hM) rfl rfl rfl ?_
      refine lv_iconst (v := 3) X.1 X.2.1 dX10_copyBook_61 (by decide) ?_
      refine lv_iload_n X.1 X.2.1 dX10_copyBook_62 rfl (lv_at hl 5 rfl) ?_
      refine lv_iload X.1 X.2.1 dX10_copyBook_63 (lv_at hl 1 rfl) ?_
      refine lv_iadd X.1 X.2.1 dX10_copyBook_65 ?_
      refine zr_eqi (v := nI (0 + i)) (nI_add 0 i) ?_
      refine lv_imul X.1 X.2.1 dX10_copyBook_66 ?_
      refine zr_eqi (v := nI (3 * (0 + i))) (pk_mul 3 (0 + i)) ?_
      refine lv_iload X.1 X.2.1 dX10_copyBook_67 (lv_at hl 0 rfl) ?_
      refine lv_iadd X.1 X.2.1 dX10_copyBook_69 ?_
      refine zr_eqi (v := nI ((3 * (0 + i)) + 1)) (nI_add (3 * (0 + i)) 1) ?_
      refine lv_aload_n X.1 X.2.1 dX10_copyBook_70 rfl (lv_at hl 3 rfl) ?_
      refine zr_get (v := .ref (ad 7)) X hW fs_X10_26_9 dX10_copyBook_71 (zm_s0 hM) rfl rfl rfl ?_
      refine lv_iconst (v := 3) X.1 X.2.1 dX10_copyBook_74 (by decide) ?_
      refine lv_iload_n X.1 X.2.1 dX10_copyBook_75 rfl (lv_at hl 4 rfl) ?_
      refine lv_iload X.1 X.2.1 dX10_copyBook_76 (lv_at hl 1 rfl) ?_
      refine lv_iadd X.1 X.2.1 dX10_copyBook_78 ?_
      refine zr_eqi (v := nI (6 + i)) (nI_add 6 i) ?_
      refine lv_imul X.1 X.2.1 dX10_copyBook_79 ?_
      refine zr_eqi (v := nI (3 * (6 + i))) (pk_mul 3 (6 + i)) ?_
      refine lv_iload X.1 X.2.1 dX10_copyBook_80 (lv_at hl 0 rfl) ?_
      refine lv_iadd X.1 X.2.1 dX10_copyBook_82 ?_
      refine zr_eqi (v := nI ((3 * (6 + i)) + 1)) (nI_add (3 * (6 + i)) 1) ?_
      have hx_11 := nI_clamp (n := (3 * (6 + i)) + 1) (by omega)
      refine zr_iald (v := u 7 ((3 * (6 + i)) + 1)) X hW dX10_copyBook_83 (zm_s7 hM) rfl rfl (zi_vp (by rw [nI_toInt (by omega)]; omega)) ((show zm_mix u_10 g0 7 (nI ((3 * (6 + i)) + 1) : Int32).toNatClampNeg = u_10 7 ((3 * (6 + i)) + 1) from (by rw [hx_11]; rfl)).trans ((show u_10 7 ((3 * (6 + i)) + 1) = u_7 7 ((3 * (6 + i)) + 1) from (by rw [hu_10]; exact zm_wn _ _ (Or.inr (by omega)))).trans ((show u_7 7 ((3 * (6 + i)) + 1) = u_4 7 ((3 * (6 + i)) + 1) from (by rw [hu_7]; rfl)).trans ((show u_4 7 ((3 * (6 + i)) + 1) = w 7 ((3 * (6 + i)) + 1) from (by rw [hu_4]; rfl)).trans (show w 7 ((3 * (6 + i)) + 1) = u 7 ((3 * (6 + i)) + 1) from (by rw [hw]; exact zs_cpkn u (by omega))))))) ?_
      have hx_12 := nI_clamp (n := (3 * (0 + i)) + 1) (by omega)
      refine zr_iast X hW dX10_copyBook_84 (zm_s7 hM) rfl rfl (zi_vp (by rw [nI_toInt (by omega)]; omega)) (fun H locs hW => ?_)
      rw [hx_12] at hW
      have hW : zw_St Y N0 ad sh (zm_mix (zm_w u_10 7 ((3 * (0 + i)) + 1) (u 7 ((3 * (6 + i)) + 1))) g0) s H locs := zm_st (by decide) hW
      obtain ⟨u_13, hu_13⟩ : ∃ z : zm_T, z = zm_w u_10 7 ((3 * (0 + i)) + 1) (u 7 ((3 * (6 + i)) + 1)) := ⟨_, rfl⟩
      rw [← hu_13] at hW
      refine lv_iinc (v := 2) (lv' := [(5, .int 2), (4, .int (nI (i))), (3, .int (zs_cnt u 6 i)), (0, .ref (ad 0)), (1, .int 6), (2, .int 0)]) X.1 X.2.1 dX10_copyBook_85 hl (k := 0) rfl (by decide) (by decide) rfl (fun ls hl => ?_)
      refine lv_goto (tgt := 51) X.1 X.2.1 dX10_copyBook_88 (by decide) ?_
      refine lv_iload X.1 X.2.1 dX10_copyBook_51 (lv_at hl 0 rfl) ?_
      refine lv_iconst (v := 3) X.1 X.2.1 dX10_copyBook_53 (by decide) ?_
      refine zr_icmp_ge (a := 2) (b := 3) (tgt := 91) X dX10_copyBook_54 (by decide) (by decide) (by decide) (fun c9 => absurd c9 (by decide)) (fun _ => ?_)
      refine lv_aload_n X.1 X.2.1 dX10_copyBook_57 rfl (lv_at hl 3 rfl) ?_
      refine zr_get (v := .ref (ad 7)) X hW fs_X10_26_9 dX10_copyBook_58 (zm_s0 hM) rfl rfl rfl ?_
      refine lv_iconst (v := 3) X.1 X.2.1 dX10_copyBook_61 (by decide) ?_
      refine lv_iload_n X.1 X.2.1 dX10_copyBook_62 rfl (lv_at hl 5 rfl) ?_
      refine lv_iload X.1 X.2.1 dX10_copyBook_63 (lv_at hl 1 rfl) ?_
      refine lv_iadd X.1 X.2.1 dX10_copyBook_65 ?_
      refine zr_eqi (v := nI (0 + i)) (nI_add 0 i) ?_
      refine lv_imul X.1 X.2.1 dX10_copyBook_66 ?_
      refine zr_eqi (v := nI (3 * (0 + i))) (pk_mul 3 (0 + i)) ?_
      refine lv_iload X.1 X.2.1 dX10_copyBook_67 (lv_at hl 0 rfl) ?_
      refine lv_iadd X.1 X.2.1 dX10_copyBook_69 ?_
      refine zr_eqi (v := nI ((3 * (0 + i)) + 2)) (nI_add (3 * (0 + i)) 2) ?_
      refine lv_aload_n X.1 X.2.1 dX10_copyBook_70 rfl (lv_at hl 3 rfl) ?_
      refine zr_get (v := .ref (ad 7)) X hW fs_X10_26_9 dX10_copyBook_71 (zm_s0 hM) rfl rfl rfl ?_
      refine lv_iconst (v := 3) X.1 X.2.1 dX10_copyBook_74 (by decide) ?_
      refine lv_iload_n X.1 X.2.1 dX10_copyBook_75 rfl (lv_at hl 4 rfl) ?_
      refine lv_iload X.1 X.2.1 dX10_copyBook_76 (lv_at hl 1 rfl) ?_
      refine lv_iadd X.1 X.2.1 dX10_copyBook_78 ?_
      refine zr_eqi (v := nI (6 + i)) (nI_add 6 i) ?_
      refine lv_imul X.1 X.2.1 dX10_copyBook_79 ?_
      refine zr_eqi (v := nI (3 * (6 + i))) (pk_mul 3 (6 + i)) ?_
      refine lv_iload X.1 X.2.1 dX10_copyBook_80 (lv_at hl 0 rfl) ?_
      refine lv_iadd X.1 X.2.1 dX10_copyBook_82 ?_
      refine zr_eqi (v := nI ((3 * (6 + i)) + 2)) (nI_add (3 * (6 + i)) 2) ?_
      have hx_14 := nI_clamp (n := (3 * (6 + i)) + 2) (by omega)
      refine zr_iald (v := u 7 ((3 * (6 + i)) + 2)) X hW dX10_copyBook_83 (zm_s7 hM) rfl rfl (zi_vp (by rw [nI_toInt (by omega)]; omega)) ((show zm_mix u_13 g0 7 (nI ((3 * (6 + i)) + 2) : Int32).toNatClampNeg = u_13 7 ((3 * (6 + i)) + 2) from (by rw [hx_14]; rfl)).trans ((show u_13 7 ((3 * (6 + i)) + 2) = u_10 7 ((3 * (6 + i)) + 2) from (by rw [hu_13]; exact zm_wn _ _ (Or.inr (by omega)))).trans ((show u_10 7 ((3 * (6 + i)) + 2) = u_7 7 ((3 * (6 + i)) + 2) from (by rw [hu_10]; exact zm_wn _ _ (Or.inr (by omega)))).trans ((show u_7 7 ((3 * (6 + i)) + 2) = u_4 7 ((3 * (6 + i)) + 2) from (by rw [hu_7]; rfl)).trans ((show u_4 7 ((3 * (6 + i)) + 2) = w 7 ((3 * (6 + i)) + 2) from (by rw [hu_4]; rfl)).trans (show w 7 ((3 * (6 + i)) + 2) = u 7 ((3 * (6 + i)) + 2) from (by rw [hw]; exact zs_cpkn u (by omega)))))))) ?_
      have hx_15 := nI_clamp (n := (3 * (0 + i)) + 2) (by omega)
      refine zr_iast X hW dX10_copyBook_84 (zm_s7 hM) rfl rfl (zi_vp (by rw [nI_toInt (by omega)]; omega)) (fun H locs hW => ?_)
      rw [hx_15] at hW
      have hW : zw_St Y N0 ad sh (zm_mix (zm_w u_13 7 ((3 * (0 + i)) + 2) (u 7 ((3 * (6 + i)) + 2))) g0) s H locs := zm_st (by decide) hW
      obtain ⟨u_16, hu_16⟩ : ∃ z : zm_T, z = zm_w u_13 7 ((3 * (0 + i)) + 2) (u 7 ((3 * (6 + i)) + 2)) := ⟨_, rfl⟩
      rw [← hu_16] at hW
      refine lv_iinc (v := 3) (lv' := [(5, .int 3), (4, .int (nI (i))), (3, .int (zs_cnt u 6 i)), (0, .ref (ad 0)), (1, .int 6), (2, .int 0)]) X.1 X.2.1 dX10_copyBook_85 hl (k := 0) rfl (by decide) (by decide) rfl (fun ls hl => ?_)
      refine lv_goto (tgt := 51) X.1 X.2.1 dX10_copyBook_88 (by decide) ?_
      refine lv_iload X.1 X.2.1 dX10_copyBook_51 (lv_at hl 0 rfl) ?_
      refine lv_iconst (v := 3) X.1 X.2.1 dX10_copyBook_53 (by decide) ?_
      refine zr_icmp_ge (a := 3) (b := 3) (tgt := 91) X dX10_copyBook_54 (by decide) (by decide) (by decide) (fun _ => ?_) (fun c9 => absurd c9 (by decide))
      refine lv_aload_n X.1 X.2.1 dX10_copyBook_91 rfl (lv_at hl 3 rfl) ?_
      refine zr_get (v := .ref (ad 5)) X hW fs_X10_20_9 dX10_copyBook_92 (zm_s0 hM) rfl rfl rfl ?_
      refine lv_iload_n X.1 X.2.1 dX10_copyBook_95 rfl (lv_at hl 4 rfl) ?_
      refine lv_iload X.1 X.2.1 dX10_copyBook_96 (lv_at hl 1 rfl) ?_
      refine lv_iadd X.1 X.2.1 dX10_copyBook_98 ?_
      refine zr_eqi (v := nI (6 + i)) (nI_add 6 i) ?_
      have hx_17 := nI_clamp (n := 6 + i) (by omega)
      refine zr_iald (v := u 5 (6 + i)) X hW dX10_copyBook_99 (zm_s5 hM) rfl rfl (zi_vp (by rw [nI_toInt (by omega)]; omega)) ((show zm_mix u_16 g0 5 (nI (6 + i) : Int32).toNatClampNeg = u_16 5 (6 + i) from (by rw [hx_17]; rfl)).trans ((show u_16 5 (6 + i) = u_13 5 (6 + i) from (by rw [hu_16]; rfl)).trans ((show u_13 5 (6 + i) = u_10 5 (6 + i) from (by rw [hu_13]; rfl)).trans ((show u_10 5 (6 + i) = u_7 5 (6 + i) from (by rw [hu_10]; rfl)).trans ((show u_7 5 (6 + i) = u_4 5 (6 + i) from (by rw [hu_7]; rfl)).trans ((show u_4 5 (6 + i) = w 5 (6 + i) from (by rw [hu_4]; exact zm_wn _ _ (Or.inr (by omega)))).trans (show w 5 (6 + i) = u 5 (6 + i) from (by rw [hw]; exact zs_cpkn u (by omega))))))))) ?_
      refine zr_if_lt (a := (u 5 (6 + i)).toInt) (tgt := 109) X dX10_copyBook_100 (by decide) rfl (fun c_18 => ?_) (fun c_18 => ?_)
      · refine lv_iload_n X.1 X.2.1 dX10_copyBook_109 rfl (lv_at hl 2 rfl) ?_
        refine lv_istore_n (lv' := [(3, .int (zs_cnt u 6 i)), (5, .int 3), (4, .int (nI (i))), (0, .ref (ad 0)), (1, .int 6), (2, .int 0)]) X.1 X.2.1 dX10_copyBook_110 rfl hl (by decide) rfl (fun ls hl => ?_)
        refine lv_iinc (v := nI (i + 1)) (lv' := [(4, .int (nI (i + 1))), (3, .int (zs_cnt u 6 i)), (5, .int 3), (0, .ref (ad 0)), (1, .int 6), (2, .int 0)]) X.1 X.2.1 dX10_copyBook_111 hl (k := 2) rfl (nI_add i 1) (by decide) rfl (fun ls hl => ?_)
        refine lv_goto (tgt := 5) X.1 X.2.1 dX10_copyBook_114 (by decide) ?_
        refine ih (i + 1) _ _ _ _ (by omega) (by omega) (by rw [hu_16, hu_13, hu_10, hu_7, hu_4, hw]; exact zs_cpks u 6 0 i) hW ?_
        rw [show zs_cnt u 6 (i + 1) = zs_cnt u 6 i from if_neg (by omega)]
        exact lv_sub hl [0, 1, 3, 4, 5] rfl
      · refine lv_iload_n X.1 X.2.1 dX10_copyBook_103 rfl (lv_at hl 2 rfl) ?_
        refine lv_iconst (v := 1) X.1 X.2.1 dX10_copyBook_104 (by decide) ?_
        refine lv_iadd X.1 X.2.1 dX10_copyBook_105 ?_
        refine lv_goto (tgt := 110) X.1 X.2.1 dX10_copyBook_106 (by decide) ?_
        refine lv_istore_n (lv' := [(3, .int ((zs_cnt u 6 i) + 1)), (5, .int 3), (4, .int (nI (i))), (0, .ref (ad 0)), (1, .int 6), (2, .int 0)]) X.1 X.2.1 dX10_copyBook_110 rfl hl (by decide) rfl (fun ls hl => ?_)
        refine lv_iinc (v := nI (i + 1)) (lv' := [(4, .int (nI (i + 1))), (3, .int ((zs_cnt u 6 i) + 1)), (5, .int 3), (0, .ref (ad 0)), (1, .int 6), (2, .int 0)]) X.1 X.2.1 dX10_copyBook_111 hl (k := 2) rfl (nI_add i 1) (by decide) rfl (fun ls hl => ?_)
        refine lv_goto (tgt := 5) X.1 X.2.1 dX10_copyBook_114 (by decide) ?_
        refine ih (i + 1) _ _ _ _ (by omega) (by omega) (by rw [hu_16, hu_13, hu_10, hu_7, hu_4, hw]; exact zs_cpks u 6 0 i) hW ?_
        rw [show zs_cnt u 6 (i + 1) = (zs_cnt u 6 i) + 1 from if_pos (by omega)]
        exact lv_sub hl [0, 1, 3, 4, 5] rfl

set_option maxHeartbeats 4000000 in
set_option maxRecDepth 100000 in
theorem c_X10_copyBook_c (l : Launch) (Y : zw_Y) (N0 : Nat) (ad : Nat → Nat) (sh : Nat → Option zw_Sh) (u g0 : zm_T) (hM : zm_S sh) : zw_Met l Y N0 yX10_copyBook cX10_copyBook 6 (some .int) 0 0 0 0 ad sh (zm_mix u g0) [.ref (ad 0), .int 6, .int 0] (zp_G ad sh (fun v g' => ∃ r : Int32, v = some (.int r) ∧ r = zs_cnt u 6 6 ∧ g' = zm_mix (zs_cp u 6 0) g0)) := by
  refine zw_meth (by decide) (Nat.le_of_ble_eq_true rfl) ?_
  intro p e s m below meth c ls X hnm hl hW
  have hl : lv_has ls 6 [(0, .ref (ad 0)), (1, .int 6), (2, .int 0)] := hl
  refine lv_iconst (v := 0) X.1 X.2.1 dX10_copyBook_0 (by decide) ?_
  refine lv_istore_n (lv' := [(3, .int 0), (0, .ref (ad 0)), (1, .int 6), (2, .int 0)]) X.1 X.2.1 dX10_copyBook_1 rfl hl (by decide) rfl (fun ls hl => ?_)
  refine lv_iconst (v := 0) X.1 X.2.1 dX10_copyBook_2 (by decide) ?_
  refine lv_istore (lv' := [(4, .int 0), (3, .int 0), (0, .ref (ad 0)), (1, .int 6), (2, .int 0)]) X.1 X.2.1 dX10_copyBook_3 hl (by decide) rfl (fun ls hl => ?_)
  exact lp_copyBook_c l Y N0 ad sh u g0 hM X hnm 7 0 u _ _ _ (by omega) (by omega) (zs_cpk0 u 6 0).symm hW (lv_sub hl [0, 1, 2, 3, 4] rfl)

set_option maxHeartbeats 4000000 in
set_option maxRecDepth 100000 in
theorem c_X10_save (l : Launch) (Y : zw_Y) (N0 : Nat) (ad : Nat → Nat) (sh : Nat → Option zw_Sh) (u g0 : zm_T) (hM : zm_S sh) (hI : zm_I u) : zw_Met l Y N0 yX10_save cX10_save 1 (some .int) 1 25 0 0 ad sh (zm_mix u g0) [.ref (ad 0)] (zp_S ad sh g0 (sp_save u)) := by
  refine zw_meth (by decide) (Nat.le_of_ble_eq_true rfl) ?_
  intro p e s m below meth c ls X hnm hl hW
  have hl : lv_has ls 1 [(0, .ref (ad 0))] := hl
  refine lv_aload_n X.1 X.2.1 dX10_save_0 rfl (lv_at hl 0 rfl) ?_
  refine lv_iconst (v := 0) X.1 X.2.1 dX10_save_1 (by decide) ?_
  refine lv_bipush (v := 6) X.1 X.2.1 dX10_save_2 (by decide) ?_
  refine zr_callV (As := [.int 0, .int 6]) (rest := []) X hW hl.1 md_X10_copyBook ms_X10_98 dX10_save_4 (zm_s0 hM) rfl rfl rfl rfl (Nat.le_of_ble_eq_true rfl) ⟨Nat.le_of_ble_eq_true rfl, Nat.le_of_ble_eq_true rfl⟩ ⟨Nat.le_of_ble_eq_true rfl, Nat.le_of_ble_eq_true rfl⟩ (c_X10_copyBook_s l Y N0 ad sh u g0 hM) (fun v9 ad9 sh9 g9 H locs hp hW => ?_)
  obtain ⟨rfl, rfl, _, rfl, rfl, rfl⟩ := hp
  have e9 : sp_save u = (zs_cnt u 0 6, (zs_cp u 0 6)) := (by unfold sp_save; (repeat (first | refine (if_pos (by omega)).trans ?_ | refine (if_neg (by omega)).trans ?_)); rfl)
  exact zr_iret X hW dX10_save_7 (Nat.le_refl _) (Nat.le_refl _) ⟨rfl, rfl, by rw [e9], by rw [e9]⟩

set_option maxHeartbeats 4000000 in
set_option maxRecDepth 100000 in
theorem c_X10_crash (l : Launch) (Y : zw_Y) (N0 : Nat) (ad : Nat → Nat) (sh : Nat → Option zw_Sh) (u g0 : zm_T) (hM : zm_S sh) (hI : zm_I u) : zw_Met l Y N0 yX10_crash cX10_crash 1 (some .int) 1 25 0 0 ad sh (zm_mix u g0) [.ref (ad 0)] (zp_S ad sh g0 (sp_crash u)) := by
  refine zw_meth (by decide) (Nat.le_of_ble_eq_true rfl) ?_
  intro p e s m below meth c ls X hnm hl hW
  have hl : lv_has ls 1 [(0, .ref (ad 0))] := hl
  refine lv_aload_n X.1 X.2.1 dX10_crash_0 rfl (lv_at hl 0 rfl) ?_
  refine lv_bipush (v := 6) X.1 X.2.1 dX10_crash_1 (by decide) ?_
  refine lv_iconst (v := 0) X.1 X.2.1 dX10_crash_3 (by decide) ?_
  refine zr_callV (As := [.int 6, .int 0]) (rest := []) X hW hl.1 md_X10_copyBook ms_X10_98 dX10_crash_4 (zm_s0 hM) rfl rfl rfl rfl (Nat.le_of_ble_eq_true rfl) ⟨Nat.le_of_ble_eq_true rfl, Nat.le_of_ble_eq_true rfl⟩ ⟨Nat.le_of_ble_eq_true rfl, Nat.le_of_ble_eq_true rfl⟩ (c_X10_copyBook_c l Y N0 ad sh u g0 hM) (fun v9 ad9 sh9 g9 H locs hp hW => ?_)
  obtain ⟨rfl, rfl, _, rfl, rfl, rfl⟩ := hp
  have e9 : sp_crash u = (zs_cnt u 6 6, (zs_cp u 6 0)) := (by unfold sp_crash; (repeat (first | refine (if_pos (by omega)).trans ?_ | refine (if_neg (by omega)).trans ?_)); rfl)
  exact zr_iret X hW dX10_crash_7 (Nat.le_refl _) (Nat.le_refl _) ⟨rfl, rfl, by rw [e9], by rw [e9]⟩
end
section
theorem zs_kple (u : zm_T) : ∀ k : Nat, (zs_kp u k).1 ≤ k
  | 0 => Nat.le_refl 0
  | k + 1 => by
    have ih := zs_kple u k
    unfold zs_kp
    split
    · exact Nat.succ_le_succ ih
    · exact Nat.le_succ_of_le ih
theorem zs_kpk (u : zm_T) : ∀ (k j : Nat), k ≤ j → (zs_kp u k).2 j = u 29 j
  | 0, j, _ => rfl
  | k + 1, j, h => by
    have ih := zs_kpk u k j (by omega)
    have hl := zs_kple u k
    unfold zs_kp
    split
    · show upd (zs_kp u k).2 (zs_kp u k).1 (u 29 k) j = u 29 j
      unfold upd
      rw [if_neg (by omega)]
      exact ih
    · exact ih
theorem zs_kpQ (u : zm_T) (P : Int32 → Prop) : ∀ k : Nat, (∀ j, j < k → P (u 29 j)) → ∀ j, j < (zs_kp u k).1 → P ((zs_kp u k).2 j)
  | 0, _, j, h => by exact absurd h (Nat.not_lt_zero j)
  | k + 1, hP, j, h => by
    have ih := zs_kpQ u P k (fun j hj => hP j (by omega))
    unfold zs_kp at h ⊢
    split at h
    · rename_i hc
      rw [if_pos hc]
      show P (upd (zs_kp u k).2 (zs_kp u k).1 (u 29 k) j)
      unfold upd
      have h : j < (zs_kp u k).1 + 1 := h
      by_cases hj : j = (zs_kp u k).1
      · rw [if_pos hj]; exact hP k (by omega)
      · rw [if_neg hj]; exact ih j (by omega)
    · rename_i hc
      rw [if_neg hc]
      exact ih j h
theorem zI_fo {u : zm_T} (h : zm_I u) : zm_I (zs_fo u) := by
  have hca := zI_ca h
  have hle := zs_kple u (zn (u 0 28))
  have hz := zi_n (u 0 28)
  have e28 : (zs_fo u 0 28).toInt = ((zs_kp u (zn (u 0 28))).1 : Int) := by
    show (zm_w _ 0 28 _ 0 28).toInt = _
    rw [zm_ws]
    exact nI_toInt (by omega)
  refine ⟨h.1, h.2.1, h.2.2.1, ?_, h.2.2.2.2.1, h.2.2.2.2.2.1, h.2.2.2.2.2.2.1, h.2.2.2.2.2.2.2.1, h.2.2.2.2.2.2.2.2.1, ?_, h.2.2.2.2.2.2.2.2.2.2⟩
  · rw [e28]; omega
  · intro i hi
    rw [e28] at hi
    exact zs_kpQ u (fun x => (0 ≤ x.toInt ∧ x.toInt < (u 0 8).toInt) ∧ (u 9 (zn x)).toInt = 4) (zn (u 0 28)) (fun j hj => zI_cq h j (by omega)) i (by omega)
theorem zs_kps {u : zm_T} {k : Nat} (h : (u 1 1 - u 0 0).toInt ≤ (u 13 (zn (u 29 k))).toInt) : zs_kp u (k + 1) = ((zs_kp u k).1 + 1, upd (zs_kp u k).2 (zs_kp u k).1 (u 29 k)) := if_pos h
theorem zs_kpn {u : zm_T} {k : Nat} (h : ¬ (u 1 1 - u 0 0).toInt ≤ (u 13 (zn (u 29 k))).toInt) : zs_kp u (k + 1) = zs_kp u k := if_neg h
theorem zs_upw (u : zm_T) (F : Nat → Int32) (n : Nat) (x : Int32) : zm_w (va_up u 29 F) 29 n x = va_up u 29 (upd F n x) := by
  unfold zm_w
  rw [bx_uu, va_up_self]

set_option maxHeartbeats 8000000 in
set_option maxRecDepth 100000 in
theorem lp_forgetOld {p : Program} {e : Env} {s : State} {m : MethodId} {below : List Frame} {meth : Method} {c : Code} (l : Launch) (Y : zw_Y) (N0 : Nat) (ad : Nat → Nat) (sh : Nat → Option zw_Sh) (u g0 : zm_T) (hM : zm_S sh) (hI : zm_I u) (X : zw_X p m meth c cX10_forgetOld 3 none s ([.ref (ad 0)] : List Value).toArray yX10_forgetOld.cls Y) (hnm : meth.name = yX10_forgetOld.name) :
    ∀ (n : Nat) (k : Nat) (w : zm_T) (H : Heap) (locs : List Loc) (ls : Array Slot), (k : Int) ≤ (u 0 28).toInt → (u 0 28).toInt - k < n → w = va_up u 29 (zs_kp u k).2 → zw_St Y N0 ad sh (zm_mix w g0) s H locs → lv_has ls 3 [(2, .int (nI k)), (1, .int (nI (zs_kp u k).1)), (0, .ref (ad 0))] → W p l e ({ frames := 0, cells := 0, slots := 0, locals := 0 } : Room) s m ([.ref (ad 0)] : List Value).toArray below meth c H locs 0 0 (MQ below (zw_Q Y N0 (zp_G ad sh (fun v g' => v = none ∧ g' = zm_mix (zs_fo u) g0))) ([.ref (ad 0)] : List Value).toArray s 0 0 (fun q => N0 ≤ q)) (F0 m 4 ls []) := by
  have hca := zI_ca hI
  have hse := zI_se hI
  intro n
  induction n with
  | zero => intro k w H locs ls h1 h2; omega
  | succ n ih =>
    intro k w H locs ls hk0 hn hw hW hl
    have hle := zs_kple u k
    refine lv_iload_n X.1 X.2.1 dX10_forgetOld_4 rfl (lv_at hl 0 rfl) ?_
    refine lv_aload_n X.1 X.2.1 dX10_forgetOld_5 rfl (lv_at hl 2 rfl) ?_
    refine zr_get (v := .int (u 0 28)) X hW fs_X10_147_9 dX10_forgetOld_6 (zm_s0 hM) rfl rfl (congrArg Value.int (show w 0 28 = u 0 28 from (by rw [hw]; rfl))) ?_
    refine zr_icmp_ge (a := ((k : Nat) : Int)) (b := (u 0 28).toInt) (tgt := 58) X dX10_forgetOld_9 (by decide) (nI_toInt (by omega)) rfl (fun c_1 => ?_) (fun c_1 => ?_)
    · refine lv_aload_n X.1 X.2.1 dX10_forgetOld_58 rfl (lv_at hl 2 rfl) ?_
      refine lv_iload_n X.1 X.2.1 dX10_forgetOld_59 rfl (lv_at hl 1 rfl) ?_
      refine zr_puti X hW fs_X10_147_9 dX10_forgetOld_60 (zm_s0 hM) rfl rfl rfl rfl (fun H locs hW => ?_)
      have hW : zw_St Y N0 ad sh (zm_mix (zm_w w 0 28 (nI ((zs_kp u k).1))) g0) s H locs := zm_st (by decide) hW
      obtain ⟨u_2, hu_2⟩ : ∃ z : zm_T, z = zm_w w 0 28 (nI ((zs_kp u k).1)) := ⟨_, rfl⟩
      rw [← hu_2] at hW
      have hk : k = zn (u 0 28) := by rw [zi_n]; omega
      have e9 : u_2 = zs_fo u := by rw [hu_2, hw, hk]; rfl
      exact zr_vret X hW dX10_forgetOld_63 (Nat.le_refl _) (Nat.le_refl _) ⟨rfl, rfl, rfl, by rw [e9]⟩
    · have hcq := zI_cq hI k (by omega)
      refine lv_aload_n X.1 X.2.1 dX10_forgetOld_12 rfl (lv_at hl 2 rfl) ?_
      refine zr_get (v := .ref (ad 13)) X hW fs_X10_41_9 dX10_forgetOld_13 (zm_s0 hM) rfl rfl rfl ?_
      refine lv_aload_n X.1 X.2.1 dX10_forgetOld_16 rfl (lv_at hl 2 rfl) ?_
      refine zr_get (v := .ref (ad 29)) X hW fs_X10_80_9 dX10_forgetOld_17 (zm_s0 hM) rfl rfl rfl ?_
      refine lv_iload_n X.1 X.2.1 dX10_forgetOld_20 rfl (lv_at hl 0 rfl) ?_
      have hx_3 := nI_clamp (n := k) (by omega)
      refine zr_iald (v := u 29 k) X hW dX10_forgetOld_21 (zm_s29 hM) rfl rfl (zi_vp (by rw [nI_toInt (by omega)]; omega)) ((show zm_mix w g0 29 (nI (k) : Int32).toNatClampNeg = w 29 k from (by rw [hx_3]; rfl)).trans (show w 29 k = u 29 k from (by rw [hw]; exact zs_kpk u k k (Nat.le_refl k)))) ?_
      refine zr_iald (v := u 13 (zn (u 29 k))) X hW dX10_forgetOld_22 (zm_s13 hM) rfl rfl (zi_vp (by omega)) ((show zm_mix w g0 13 (u 29 k : Int32).toNatClampNeg = w 13 (zn (u 29 k)) from rfl).trans (show w 13 (zn (u 29 k)) = u 13 (zn (u 29 k)) from (by rw [hw]; rfl))) ?_
      refine lv_aload_n X.1 X.2.1 dX10_forgetOld_23 rfl (lv_at hl 2 rfl) ?_
      refine zr_get (v := .ref (ad 1)) X hW fs_X10_7_9 dX10_forgetOld_24 (zm_s0 hM) rfl rfl rfl ?_
      refine lv_iconst (v := 1) X.1 X.2.1 dX10_forgetOld_27 (by decide) ?_
      refine zr_iald (v := u 1 1) X hW dX10_forgetOld_28 (zm_s1 hM) rfl rfl (zi_vp (by decide)) ((show zm_mix w g0 1 (1 : Int32).toNatClampNeg = w 1 1 from rfl).trans (show w 1 1 = u 1 1 from (by rw [hw]; rfl))) ?_
      refine lv_aload_n X.1 X.2.1 dX10_forgetOld_29 rfl (lv_at hl 2 rfl) ?_
      refine zr_get (v := .int (u 0 0)) X hW fs_X10_83_9 dX10_forgetOld_30 (zm_s0 hM) rfl rfl (congrArg Value.int (show w 0 0 = u 0 0 from (by rw [hw]; rfl))) ?_
      refine lv_isub X.1 X.2.1 dX10_forgetOld_33 ?_
      refine zr_icmp_lt (a := (u 13 (zn (u 29 k))).toInt) (b := ((u 1 1) - (u 0 0)).toInt) (tgt := 52) X dX10_forgetOld_34 (by decide) rfl rfl (fun c_4 => ?_) (fun c_4 => ?_)
      · refine lv_iinc (v := nI (k + 1)) (lv' := [(2, .int (nI (k + 1))), (1, .int (nI ((zs_kp u k).1))), (0, .ref (ad 0))]) X.1 X.2.1 dX10_forgetOld_52 hl (k := 0) rfl (nI_add k 1) (by decide) rfl (fun ls hl => ?_)
        refine lv_goto (tgt := 4) X.1 X.2.1 dX10_forgetOld_55 (by decide) ?_
        have ek := zs_kpn (u := u) (k := k) (by omega)
        refine ih (k + 1) _ _ _ _ (by omega) (by omega) (by rw [hw, ek]) hW ?_
        rw [ek]
        exact lv_sub hl [0, 1, 2] rfl
      · refine lv_aload_n X.1 X.2.1 dX10_forgetOld_37 rfl (lv_at hl 2 rfl) ?_
        refine zr_get (v := .ref (ad 29)) X hW fs_X10_80_9 dX10_forgetOld_38 (zm_s0 hM) rfl rfl rfl ?_
        refine lv_iload_n X.1 X.2.1 dX10_forgetOld_41 rfl (lv_at hl 1 rfl) ?_
        refine lv_aload_n X.1 X.2.1 dX10_forgetOld_42 rfl (lv_at hl 2 rfl) ?_
        refine zr_get (v := .ref (ad 29)) X hW fs_X10_80_9 dX10_forgetOld_43 (zm_s0 hM) rfl rfl rfl ?_
        refine lv_iload_n X.1 X.2.1 dX10_forgetOld_46 rfl (lv_at hl 0 rfl) ?_
        have hx_5 := nI_clamp (n := k) (by omega)
        refine zr_iald (v := u 29 k) X hW dX10_forgetOld_47 (zm_s29 hM) rfl rfl (zi_vp (by rw [nI_toInt (by omega)]; omega)) ((show zm_mix w g0 29 (nI (k) : Int32).toNatClampNeg = w 29 k from (by rw [hx_5]; rfl)).trans (show w 29 k = u 29 k from (by rw [hw]; exact zs_kpk u k k (Nat.le_refl k)))) ?_
        have hx_6 := nI_clamp (n := (zs_kp u k).1) (by omega)
        refine zr_iast X hW dX10_forgetOld_48 (zm_s29 hM) rfl rfl (zi_vp (by rw [nI_toInt (by omega)]; omega)) (fun H locs hW => ?_)
        rw [hx_6] at hW
        have hW : zw_St Y N0 ad sh (zm_mix (zm_w w 29 ((zs_kp u k).1) (u 29 k)) g0) s H locs := zm_st (by decide) hW
        obtain ⟨u_7, hu_7⟩ : ∃ z : zm_T, z = zm_w w 29 ((zs_kp u k).1) (u 29 k) := ⟨_, rfl⟩
        rw [← hu_7] at hW
        refine lv_iinc (v := nI (((zs_kp u k).1) + 1)) (lv' := [(1, .int (nI (((zs_kp u k).1) + 1))), (2, .int (nI (k))), (0, .ref (ad 0))]) X.1 X.2.1 dX10_forgetOld_49 hl (k := 1) rfl (nI_add ((zs_kp u k).1) 1) (by decide) rfl (fun ls hl => ?_)
        refine lv_iinc (v := nI (k + 1)) (lv' := [(2, .int (nI (k + 1))), (1, .int (nI (((zs_kp u k).1) + 1))), (0, .ref (ad 0))]) X.1 X.2.1 dX10_forgetOld_52 hl (k := 1) rfl (nI_add k 1) (by decide) rfl (fun ls hl => ?_)
        refine lv_goto (tgt := 4) X.1 X.2.1 dX10_forgetOld_55 (by decide) ?_
        have ek := zs_kps (u := u) (k := k) (by omega)
        refine ih (k + 1) _ _ _ _ (by omega) (by omega) (by rw [hu_7, hw, ek, zs_upw]) hW ?_
        rw [ek]
        exact lv_sub hl [0, 1, 2] rfl

set_option maxHeartbeats 4000000 in
set_option maxRecDepth 100000 in
theorem c_X10_forgetOld (l : Launch) (Y : zw_Y) (N0 : Nat) (ad : Nat → Nat) (sh : Nat → Option zw_Sh) (u g0 : zm_T) (hM : zm_S sh) (hI : zm_I u) : zw_Met l Y N0 yX10_forgetOld cX10_forgetOld 3 none 0 0 0 0 ad sh (zm_mix u g0) [.ref (ad 0)] (zp_G ad sh (fun v g' => v = none ∧ g' = zm_mix (zs_fo u) g0)) := by
  refine zw_meth (by decide) (Nat.le_of_ble_eq_true rfl) ?_
  intro p e s m below meth c ls X hnm hl hW
  have hl : lv_has ls 3 [(0, .ref (ad 0))] := hl
  refine lv_iconst (v := 0) X.1 X.2.1 dX10_forgetOld_0 (by decide) ?_
  refine lv_istore_n (lv' := [(1, .int 0), (0, .ref (ad 0))]) X.1 X.2.1 dX10_forgetOld_1 rfl hl (by decide) rfl (fun ls hl => ?_)
  refine lv_iconst (v := 0) X.1 X.2.1 dX10_forgetOld_2 (by decide) ?_
  refine lv_istore_n (lv' := [(2, .int 0), (1, .int 0), (0, .ref (ad 0))]) X.1 X.2.1 dX10_forgetOld_3 rfl hl (by decide) rfl (fun ls hl => ?_)
  have hca := zI_ca hI
  exact lp_forgetOld l Y N0 ad sh u g0 hM hI X hnm 13 0 u _ _ _ (by omega) (by omega) (zw_up_same rfl).symm hW (lv_sub hl [0, 1, 2] rfl)

set_option maxHeartbeats 8000000 in
set_option maxRecDepth 100000 in
theorem lp_serve {p : Program} {e : Env} {s : State} {m : MethodId} {below : List Frame} {meth : Method} {c : Code} (l : Launch) (Y : zw_Y) (N0 : Nat) (ad : Nat → Nat) (sh : Nat → Option zw_Sh) (v g0 : zm_T) (hM : zm_S sh) (k cl : Int32) (hI : zm_I v) (h1 : zs_op v (v 3 1) k 2) (h2 : zs_op v (v 12 (zn k)) cl 4) (h3 : (v 11 (zn cl)).toInt = (v 11 (zn k)).toInt) (h4 : ¬ (v 16 (zn cl)).toInt = 0) (h5 : zs_nr v (v 13 (zn cl)) (v 1 1)) (h6 : (v 1 1).toInt ≤ (v 14 (zn k)).toInt) (h7 : (v 13 (zn k)).toInt ≤ (v 1 1 + v 0 0).toInt) (X : zw_X p m meth c cX10_serve 7 (some .int) s ([.ref (ad 0), .int k, .int cl] : List Value).toArray yX10_serve.cls Y) (hnm : meth.name = yX10_serve.name) :
    ∀ (n : Nat) (j : Nat) (b : Int32) (H : Heap) (locs : List Loc) (ls : Array Slot), (j : Int) ≤ (v 0 28).toInt → (v 0 28).toInt - j < n → ((b = 1 ∧ zs_rep v (zn cl) j = true) ∨ (b = 0 ∧ zs_rep v (zn cl) j = false)) → zw_St Y N0 ad sh (zm_mix v g0) s H locs → lv_has ls 7 [(5, .int (nI j)), (4, .int b), (3, .int (v 11 (zn k))), (0, .ref (ad 0)), (1, .int k), (2, .int cl)] → W p l e ({ frames := 2, cells := 0, slots := 0, locals := 45 } : Room) s m ([.ref (ad 0), .int k, .int cl] : List Value).toArray below meth c H locs 0 0 (MQ below (zw_Q Y N0 (zp_S ad sh g0 (sp_serve1 k cl v))) ([.ref (ad 0), .int k, .int cl] : List Value).toArray s 0 0 (fun q => N0 ≤ q)) (F0 m 132 ls []) := by
  have hca := zI_ca hI
  have hse := zI_se hI
  have hscl := zI_sl hI (zn cl) (by rw [zi_n]; omega)
  intro n
  induction n with
  | zero => intro j b H locs ls g1 g2; omega
  | succ n ih =>
    intro j b H locs ls hj0 hn hb hW hl
    rcases hb with ⟨hb0, hb⟩ | ⟨hb0, hb⟩
    · subst hb0
      refine lv_iload X.1 X.2.1 dX10_serve_132 (lv_at hl 0 rfl) ?_
      refine lv_aload_n X.1 X.2.1 dX10_serve_134 rfl (lv_at hl 3 rfl) ?_
      refine zr_get (v := .int (v 0 28)) X hW fs_X10_147_9 dX10_serve_135 (zm_s0 hM) rfl rfl rfl ?_
      refine zr_icmp_ge (a := ((j : Nat) : Int)) (b := (v 0 28).toInt) (tgt := 174) X dX10_serve_138 (by decide) (nI_toInt (by omega)) rfl (fun c_1 => ?_) (fun c_1 => ?_)
      · have hj : j = zn (v 0 28) := by rw [zi_n]; omega
        subst hj
        refine lv_iload X.1 X.2.1 dX10_serve_174 (lv_at hl 1 rfl) ?_
        refine zr_if_eq (a := 1) (tgt := 182) X dX10_serve_176 (by decide) (by decide) (fun c9 => absurd c9 (by decide)) (fun _ => ?_)
        refine lv_bipush (v := (-5)) X.1 X.2.1 dX10_serve_179 (by decide) ?_
        have e9 : sp_serve1 k cl v = ((-5), v) := (by unfold sp_serve1; (repeat (first | refine (if_pos (by first | omega | exact hb)).trans ?_ | refine (if_neg (by first | omega | (rw [hb]; decide))).trans ?_)); rfl)
        exact zr_iret X hW dX10_serve_181 (Nat.le_refl _) (Nat.le_refl _) ⟨rfl, rfl, by rw [e9], by rw [e9]⟩
      · have hcq := zI_cq hI j (by omega)
        refine lv_iload X.1 X.2.1 dX10_serve_141 (lv_at hl 1 rfl) ?_
        refine zr_if_ne (a := 1) (tgt := 161) X dX10_serve_143 (by decide) (by decide) (fun _ => ?_) (fun c9 => absurd c9 (by decide))
        refine lv_iconst (v := 1) X.1 X.2.1 dX10_serve_161 (by decide) ?_
        refine lv_goto (tgt := 166) X.1 X.2.1 dX10_serve_162 (by decide) ?_
        refine lv_istore (lv' := [(4, .int 1), (5, .int (nI (j))), (3, .int (v 11 (zn k))), (0, .ref (ad 0)), (1, .int k), (2, .int cl)]) X.1 X.2.1 dX10_serve_166 hl (by decide) rfl (fun ls hl => ?_)
        refine lv_iinc (v := nI (j + 1)) (lv' := [(5, .int (nI (j + 1))), (4, .int 1), (3, .int (v 11 (zn k))), (0, .ref (ad 0)), (1, .int k), (2, .int cl)]) X.1 X.2.1 dX10_serve_168 hl (k := 1) rfl (nI_add j 1) (by decide) rfl (fun ls hl => ?_)
        refine lv_goto (tgt := 132) X.1 X.2.1 dX10_serve_171 (by decide) ?_
        exact ih (j + 1) 1 _ _ _ (by omega) (by omega) (Or.inl ⟨rfl, (by show (zs_rep v (zn cl) j || _) = true; rw [hb]; rfl)⟩) hW (lv_sub hl [0, 1, 2, 3, 4, 5] rfl)
    · subst hb0
      refine lv_iload X.1 X.2.1 dX10_serve_132 (lv_at hl 0 rfl) ?_
      refine lv_aload_n X.1 X.2.1 dX10_serve_134 rfl (lv_at hl 3 rfl) ?_
      refine zr_get (v := .int (v 0 28)) X hW fs_X10_147_9 dX10_serve_135 (zm_s0 hM) rfl rfl rfl ?_
      refine zr_icmp_ge (a := ((j : Nat) : Int)) (b := (v 0 28).toInt) (tgt := 174) X dX10_serve_138 (by decide) (nI_toInt (by omega)) rfl (fun c_2 => ?_) (fun c_2 => ?_)
      · have hj : j = zn (v 0 28) := by rw [zi_n]; omega
        subst hj
        refine lv_iload X.1 X.2.1 dX10_serve_174 (lv_at hl 1 rfl) ?_
        refine zr_if_eq (a := 0) (tgt := 182) X dX10_serve_176 (by decide) (by decide) (fun _ => ?_) (fun c9 => absurd c9 (by decide))
        refine lv_aload_n X.1 X.2.1 dX10_serve_182 rfl (lv_at hl 3 rfl) ?_
        refine zr_get (v := .ref (ad 17)) X hW fs_X10_53_9 dX10_serve_183 (zm_s0 hM) rfl rfl rfl ?_
        refine lv_iload_n X.1 X.2.1 dX10_serve_186 rfl (lv_at hl 5 rfl) ?_
        refine zr_iald (v := v 17 (zn cl)) X hW dX10_serve_187 (zm_s17 hM) rfl rfl (zi_vp (by omega)) rfl ?_
        refine lv_istore (lv' := [(5, .int (v 17 (zn cl))), (4, .int 0), (3, .int (v 11 (zn k))), (0, .ref (ad 0)), (1, .int k), (2, .int cl)]) X.1 X.2.1 dX10_serve_188 hl (by decide) rfl (fun ls hl => ?_)
        refine lv_aload_n X.1 X.2.1 dX10_serve_190 rfl (lv_at hl 3 rfl) ?_
        refine lv_iload_n X.1 X.2.1 dX10_serve_191 rfl (lv_at hl 2 rfl) ?_
        refine zr_callV (As := [.int (v 11 (zn k))]) (rest := []) X hW hl.1 md_X10_booked ms_X10_94 dX10_serve_192 (zm_s0 hM) rfl rfl rfl rfl (Nat.le_of_ble_eq_true rfl) ⟨Nat.le_of_ble_eq_true rfl, Nat.le_of_ble_eq_true rfl⟩ ⟨Nat.le_of_ble_eq_true rfl, Nat.le_of_ble_eq_true rfl⟩ (c_X10_booked l Y N0 ad sh v g0 hM (v 11 (zn k))) (fun v9 ad9 sh9 g9 H locs hp hW => ?_)
        rcases hp with ⟨rfl, rfl, rfl, ⟨h_3, h9⟩ | ⟨h_3, h9⟩⟩
        · subst h9
          have h_3 : zs_bk v (v 11 (zn k)) := h_3
          refine zr_if_eq (a := 1) (tgt := 212) X dX10_serve_195 (by decide) (by decide) (fun c9 => absurd c9 (by decide)) (fun _ => ?_)
          refine lv_aload_n X.1 X.2.1 dX10_serve_198 rfl (lv_at hl 3 rfl) ?_
          refine zr_get (v := .ref (ad 7)) X hW fs_X10_26_9 dX10_serve_199 (zm_s0 hM) rfl rfl rfl ?_
          refine lv_iconst (v := 3) X.1 X.2.1 dX10_serve_202 (by decide) ?_
          refine lv_iload_n X.1 X.2.1 dX10_serve_203 rfl (lv_at hl 2 rfl) ?_
          refine lv_imul X.1 X.2.1 dX10_serve_204 ?_
          refine lv_iload X.1 X.2.1 dX10_serve_205 (lv_at hl 0 rfl) ?_
          refine lv_iadd X.1 X.2.1 dX10_serve_207 ?_
          have hx_4 := zi_ix3 ((v 11 (zn k))) ((v 17 (zn cl))) (by omega) (by omega)
          obtain ⟨hx_4, hx_4n⟩ := hx_4
          refine zr_iald (v := v 7 (3 * zn ((v 11 (zn k))) + zn ((v 17 (zn cl))))) X hW dX10_serve_208 (zm_s7 hM) rfl rfl (zi_vp (by omega)) (by rw [hx_4n]; rfl) ?_
          refine lv_goto (tgt := 213) X.1 X.2.1 dX10_serve_209 (by decide) ?_
          refine lv_istore (lv' := [(6, .int (v 7 (3 * zn ((v 11 (zn k))) + zn ((v 17 (zn cl)))))), (5, .int (v 17 (zn cl))), (4, .int 0), (3, .int (v 11 (zn k))), (0, .ref (ad 0)), (1, .int k), (2, .int cl)]) X.1 X.2.1 dX10_serve_213 hl (by decide) rfl (fun ls hl => ?_)
          have hm : zs_may v (v 11 (zn k)) (zn (v 17 (zn cl))) = v 7 (3 * zn ((v 11 (zn k))) + zn ((v 17 (zn cl)))) := if_pos h_3
          refine lv_iload X.1 X.2.1 dX10_serve_215 (lv_at hl 0 rfl) ?_
          refine lv_aload_n X.1 X.2.1 dX10_serve_217 rfl (lv_at hl 4 rfl) ?_
          refine zr_get (v := .ref (ad 16)) X hW fs_X10_50_9 dX10_serve_218 (zm_s0 hM) rfl rfl rfl ?_
          refine lv_iload_n X.1 X.2.1 dX10_serve_221 rfl (lv_at hl 6 rfl) ?_
          refine zr_iald (v := v 16 (zn cl)) X hW dX10_serve_222 (zm_s16 hM) rfl rfl (zi_vp (by omega)) rfl ?_
          refine lv_iand X.1 X.2.1 dX10_serve_223 ?_
          refine lv_aload_n X.1 X.2.1 dX10_serve_224 rfl (lv_at hl 4 rfl) ?_
          refine zr_get (v := .ref (ad 16)) X hW fs_X10_50_9 dX10_serve_225 (zm_s0 hM) rfl rfl rfl ?_
          refine lv_iload_n X.1 X.2.1 dX10_serve_228 rfl (lv_at hl 6 rfl) ?_
          refine zr_iald (v := v 16 (zn cl)) X hW dX10_serve_229 (zm_s16 hM) rfl rfl (zi_vp (by omega)) rfl ?_
          refine zr_icmp_eq (a := ((v 7 (3 * zn ((v 11 (zn k))) + zn ((v 17 (zn cl))))) &&& (v 16 (zn cl))).toInt) (b := (v 16 (zn cl)).toInt) (tgt := 236) X dX10_serve_230 (by decide) rfl rfl (fun c_5 => ?_) (fun c_5 => ?_)
          · refine lv_aload_n X.1 X.2.1 dX10_serve_236 rfl (lv_at hl 4 rfl) ?_
            refine zr_get (v := .int (v 0 28)) X hW fs_X10_147_9 dX10_serve_237 (zm_s0 hM) rfl rfl rfl ?_
            refine lv_bipush (v := 12) X.1 X.2.1 dX10_serve_240 (by decide) ?_
            refine zr_icmp_ne (a := (v 0 28).toInt) (b := 12) (tgt := 248) X dX10_serve_242 (by decide) rfl (by decide) (fun c_6 => ?_) (fun c_6 => ?_)
            · refine lv_aload_n X.1 X.2.1 dX10_serve_248 rfl (lv_at hl 4 rfl) ?_
              refine zr_get (v := .ref (ad 29)) X hW fs_X10_80_9 dX10_serve_249 (zm_s0 hM) rfl rfl rfl ?_
              refine lv_aload_n X.1 X.2.1 dX10_serve_252 rfl (lv_at hl 4 rfl) ?_
              refine zr_get (v := .int (v 0 28)) X hW fs_X10_147_9 dX10_serve_253 (zm_s0 hM) rfl rfl rfl ?_
              refine lv_iload_n X.1 X.2.1 dX10_serve_256 rfl (lv_at hl 6 rfl) ?_
              refine zr_iast X hW dX10_serve_257 (zm_s29 hM) rfl rfl (zi_vp (by omega)) (fun H locs hW => ?_)
              have hW : zw_St Y N0 ad sh (zm_mix (zm_w v 29 (zn (v 0 28)) cl) g0) s H locs := zm_st (by decide) hW
              obtain ⟨u_7, hu_7⟩ : ∃ z : zm_T, z = zm_w v 29 (zn (v 0 28)) cl := ⟨_, rfl⟩
              rw [← hu_7] at hW
              refine lv_aload_n X.1 X.2.1 dX10_serve_258 rfl (lv_at hl 4 rfl) ?_
              refine lv_dup X.1 X.2.1 dX10_serve_259 rfl ?_
              refine zr_get (v := .int (v 0 28)) X hW fs_X10_147_9 dX10_serve_260 (zm_s0 hM) rfl rfl (congrArg Value.int (show u_7 0 28 = v 0 28 from (by rw [hu_7]; rfl))) ?_
              refine lv_iconst (v := 1) X.1 X.2.1 dX10_serve_263 (by decide) ?_
              refine lv_iadd X.1 X.2.1 dX10_serve_264 ?_
              refine zr_puti X hW fs_X10_147_9 dX10_serve_265 (zm_s0 hM) rfl rfl rfl rfl (fun H locs hW => ?_)
              have hW : zw_St Y N0 ad sh (zm_mix (zm_w u_7 0 28 ((v 0 28) + 1)) g0) s H locs := zm_st (by decide) hW
              obtain ⟨u_8, hu_8⟩ : ∃ z : zm_T, z = zm_w u_7 0 28 ((v 0 28) + 1) := ⟨_, rfl⟩
              rw [← hu_8] at hW
              refine lv_aload_n X.1 X.2.1 dX10_serve_268 rfl (lv_at hl 4 rfl) ?_
              refine zr_get (v := .ref (ad 26)) X hW fs_X10_77_9 dX10_serve_269 (zm_s0 hM) rfl rfl rfl ?_
              refine lv_iload X.1 X.2.1 dX10_serve_272 (lv_at hl 1 rfl) ?_
              refine lv_aload_n X.1 X.2.1 dX10_serve_274 rfl (lv_at hl 4 rfl) ?_
              refine zr_get (v := .ref (ad 16)) X hW fs_X10_50_9 dX10_serve_275 (zm_s0 hM) rfl rfl rfl ?_
              refine lv_iload_n X.1 X.2.1 dX10_serve_278 rfl (lv_at hl 6 rfl) ?_
              refine zr_iald (v := v 16 (zn cl)) X hW dX10_serve_279 (zm_s16 hM) rfl rfl (zi_vp (by omega)) ((show zm_mix u_8 g0 16 (cl : Int32).toNatClampNeg = u_8 16 (zn cl) from rfl).trans ((show u_8 16 (zn cl) = u_7 16 (zn cl) from (by rw [hu_8]; rfl)).trans (show u_7 16 (zn cl) = v 16 (zn cl) from (by rw [hu_7]; rfl)))) ?_
              refine lv_iconst (v := 2) X.1 X.2.1 dX10_serve_280 (by decide) ?_
              refine zr_icmp_ne (a := (v 16 (zn cl)).toInt) (b := 2) (tgt := 293) X dX10_serve_281 (by decide) rfl (by decide) (fun c_9 => ?_) (fun c_9 => ?_)
              · refine lv_aload_n X.1 X.2.1 dX10_serve_293 rfl (lv_at hl 4 rfl) ?_
                refine zr_get (v := .ref (ad 16)) X hW fs_X10_50_9 dX10_serve_294 (zm_s0 hM) rfl rfl rfl ?_
                refine lv_iload_n X.1 X.2.1 dX10_serve_297 rfl (lv_at hl 6 rfl) ?_
                refine zr_iald (v := v 16 (zn cl)) X hW dX10_serve_298 (zm_s16 hM) rfl rfl (zi_vp (by omega)) ((show zm_mix u_8 g0 16 (cl : Int32).toNatClampNeg = u_8 16 (zn cl) from rfl).trans ((show u_8 16 (zn cl) = u_7 16 (zn cl) from (by rw [hu_8]; rfl)).trans (show u_7 16 (zn cl) = v 16 (zn cl) from (by rw [hu_7]; rfl)))) ?_
                refine lv_iconst (v := 3) X.1 X.2.1 dX10_serve_299 (by decide) ?_
                refine zr_icmp_ne (a := (v 16 (zn cl)).toInt) (b := 3) (tgt := 320) X dX10_serve_300 (by decide) rfl (by decide) (fun c_10 => ?_) (fun c_10 => ?_)
                · refine lv_aload_n X.1 X.2.1 dX10_serve_320 rfl (lv_at hl 4 rfl) ?_
                  refine zr_get (v := .ref (ad 26)) X hW fs_X10_77_9 dX10_serve_321 (zm_s0 hM) rfl rfl rfl ?_
                  refine lv_iload X.1 X.2.1 dX10_serve_324 (lv_at hl 1 rfl) ?_
                  refine zr_iald (v := v 26 (zn (v 17 (zn cl)))) X hW dX10_serve_326 (zm_s26 hM) rfl rfl (zi_vp (by omega)) ((show zm_mix u_8 g0 26 (v 17 (zn cl) : Int32).toNatClampNeg = u_8 26 (zn (v 17 (zn cl))) from rfl).trans ((show u_8 26 (zn (v 17 (zn cl))) = u_7 26 (zn (v 17 (zn cl))) from (by rw [hu_8]; rfl)).trans (show u_7 26 (zn (v 17 (zn cl))) = v 26 (zn (v 17 (zn cl))) from (by rw [hu_7]; rfl)))) ?_
                  refine zr_iast X hW dX10_serve_327 (zm_s26 hM) rfl rfl (zi_vp (by omega)) (fun H locs hW => ?_)
                  have hW : zw_St Y N0 ad sh (zm_mix (zm_w u_8 26 (zn (v 17 (zn cl))) (v 26 (zn (v 17 (zn cl))))) g0) s H locs := zm_st (by decide) hW
                  obtain ⟨u_11, hu_11⟩ : ∃ z : zm_T, z = zm_w u_8 26 (zn (v 17 (zn cl))) (v 26 (zn (v 17 (zn cl)))) := ⟨_, rfl⟩
                  rw [← hu_11] at hW
                  refine lv_aload_n X.1 X.2.1 dX10_serve_328 rfl (lv_at hl 4 rfl) ?_
                  refine lv_aload_n X.1 X.2.1 dX10_serve_329 rfl (lv_at hl 4 rfl) ?_
                  refine zr_get (v := .ref (ad 26)) X hW fs_X10_77_9 dX10_serve_330 (zm_s0 hM) rfl rfl rfl ?_
                  refine lv_iload X.1 X.2.1 dX10_serve_333 (lv_at hl 1 rfl) ?_
                  refine zr_iald (v := v 26 (zn (v 17 (zn cl)))) X hW dX10_serve_335 (zm_s26 hM) rfl rfl (zi_vp (by omega)) ((show zm_mix u_11 g0 26 (v 17 (zn cl) : Int32).toNatClampNeg = u_11 26 (zn (v 17 (zn cl))) from rfl).trans (show u_11 26 (zn (v 17 (zn cl))) = v 26 (zn (v 17 (zn cl))) from (by rw [hu_11]; exact zm_ws _ _ _ _))) ?_
                  refine zr_puti X hW fs_X10_156_9 dX10_serve_336 (zm_s0 hM) rfl rfl rfl rfl (fun H locs hW => ?_)
                  have hW : zw_St Y N0 ad sh (zm_mix (zm_w u_11 0 27 (v 26 (zn (v 17 (zn cl))))) g0) s H locs := zm_st (by decide) hW
                  obtain ⟨u_12, hu_12⟩ : ∃ z : zm_T, z = zm_w u_11 0 27 (v 26 (zn (v 17 (zn cl)))) := ⟨_, rfl⟩
                  rw [← hu_12] at hW
                  refine lv_iconst (v := 0) X.1 X.2.1 dX10_serve_339 (by decide) ?_
                  have e9 : sp_serve1 k cl v = (0, u_12) := (by subst hu_12 hu_11 hu_8 hu_7; unfold sp_serve1; rw [hm]; (repeat (first | refine (if_pos (by first | omega | exact hb)).trans ?_ | refine (if_neg (by first | omega | (rw [hb]; decide))).trans ?_)); first | (rw [show zs_new v (zn cl) = v 18 (zn cl) from if_pos (by omega)] <;> rfl) | (rw [show zs_new v (zn cl) = v 26 (zn (v 17 (zn cl))) + v 18 (zn cl) from (if_neg (by omega)).trans (if_pos (by omega))] <;> rfl) | (rw [show zs_new v (zn cl) = v 26 (zn (v 17 (zn cl))) from (if_neg (by omega)).trans (if_neg (by omega))] <;> rfl))
                  exact zr_iret X hW dX10_serve_340 (Nat.le_refl _) (Nat.le_refl _) ⟨rfl, rfl, by rw [e9], by rw [e9]⟩
                · refine lv_aload_n X.1 X.2.1 dX10_serve_303 rfl (lv_at hl 4 rfl) ?_
                  refine zr_get (v := .ref (ad 26)) X hW fs_X10_77_9 dX10_serve_304 (zm_s0 hM) rfl rfl rfl ?_
                  refine lv_iload X.1 X.2.1 dX10_serve_307 (lv_at hl 1 rfl) ?_
                  refine zr_iald (v := v 26 (zn (v 17 (zn cl)))) X hW dX10_serve_309 (zm_s26 hM) rfl rfl (zi_vp (by omega)) ((show zm_mix u_8 g0 26 (v 17 (zn cl) : Int32).toNatClampNeg = u_8 26 (zn (v 17 (zn cl))) from rfl).trans ((show u_8 26 (zn (v 17 (zn cl))) = u_7 26 (zn (v 17 (zn cl))) from (by rw [hu_8]; rfl)).trans (show u_7 26 (zn (v 17 (zn cl))) = v 26 (zn (v 17 (zn cl))) from (by rw [hu_7]; rfl)))) ?_
                  refine lv_aload_n X.1 X.2.1 dX10_serve_310 rfl (lv_at hl 4 rfl) ?_
                  refine zr_get (v := .ref (ad 18)) X hW fs_X10_56_9 dX10_serve_311 (zm_s0 hM) rfl rfl rfl ?_
                  refine lv_iload_n X.1 X.2.1 dX10_serve_314 rfl (lv_at hl 6 rfl) ?_
                  refine zr_iald (v := v 18 (zn cl)) X hW dX10_serve_315 (zm_s18 hM) rfl rfl (zi_vp (by omega)) ((show zm_mix u_8 g0 18 (cl : Int32).toNatClampNeg = u_8 18 (zn cl) from rfl).trans ((show u_8 18 (zn cl) = u_7 18 (zn cl) from (by rw [hu_8]; rfl)).trans (show u_7 18 (zn cl) = v 18 (zn cl) from (by rw [hu_7]; rfl)))) ?_
                  refine lv_iadd X.1 X.2.1 dX10_serve_316 ?_
                  refine lv_goto (tgt := 327) X.1 X.2.1 dX10_serve_317 (by decide) ?_
                  refine zr_iast X hW dX10_serve_327 (zm_s26 hM) rfl rfl (zi_vp (by omega)) (fun H locs hW => ?_)
                  have hW : zw_St Y N0 ad sh (zm_mix (zm_w u_8 26 (zn (v 17 (zn cl))) ((v 26 (zn (v 17 (zn cl)))) + (v 18 (zn cl)))) g0) s H locs := zm_st (by decide) hW
                  obtain ⟨u_13, hu_13⟩ : ∃ z : zm_T, z = zm_w u_8 26 (zn (v 17 (zn cl))) ((v 26 (zn (v 17 (zn cl)))) + (v 18 (zn cl))) := ⟨_, rfl⟩
                  rw [← hu_13] at hW
                  refine lv_aload_n X.1 X.2.1 dX10_serve_328 rfl (lv_at hl 4 rfl) ?_
                  refine lv_aload_n X.1 X.2.1 dX10_serve_329 rfl (lv_at hl 4 rfl) ?_
                  refine zr_get (v := .ref (ad 26)) X hW fs_X10_77_9 dX10_serve_330 (zm_s0 hM) rfl rfl rfl ?_
                  refine lv_iload X.1 X.2.1 dX10_serve_333 (lv_at hl 1 rfl) ?_
                  refine zr_iald (v := (v 26 (zn (v 17 (zn cl)))) + (v 18 (zn cl))) X hW dX10_serve_335 (zm_s26 hM) rfl rfl (zi_vp (by omega)) ((show zm_mix u_13 g0 26 (v 17 (zn cl) : Int32).toNatClampNeg = u_13 26 (zn (v 17 (zn cl))) from rfl).trans (show u_13 26 (zn (v 17 (zn cl))) = (v 26 (zn (v 17 (zn cl)))) + (v 18 (zn cl)) from (by rw [hu_13]; exact zm_ws _ _ _ _))) ?_
                  refine zr_puti X hW fs_X10_156_9 dX10_serve_336 (zm_s0 hM) rfl rfl rfl rfl (fun H locs hW => ?_)
                  have hW : zw_St Y N0 ad sh (zm_mix (zm_w u_13 0 27 ((v 26 (zn (v 17 (zn cl)))) + (v 18 (zn cl)))) g0) s H locs := zm_st (by decide) hW
                  obtain ⟨u_14, hu_14⟩ : ∃ z : zm_T, z = zm_w u_13 0 27 ((v 26 (zn (v 17 (zn cl)))) + (v 18 (zn cl))) := ⟨_, rfl⟩
                  rw [← hu_14] at hW
                  refine lv_iconst (v := 0) X.1 X.2.1 dX10_serve_339 (by decide) ?_
                  have e9 : sp_serve1 k cl v = (0, u_14) := (by subst hu_14 hu_13 hu_8 hu_7; unfold sp_serve1; rw [hm]; (repeat (first | refine (if_pos (by first | omega | exact hb)).trans ?_ | refine (if_neg (by first | omega | (rw [hb]; decide))).trans ?_)); first | (rw [show zs_new v (zn cl) = v 18 (zn cl) from if_pos (by omega)] <;> rfl) | (rw [show zs_new v (zn cl) = v 26 (zn (v 17 (zn cl))) + v 18 (zn cl) from (if_neg (by omega)).trans (if_pos (by omega))] <;> rfl) | (rw [show zs_new v (zn cl) = v 26 (zn (v 17 (zn cl))) from (if_neg (by omega)).trans (if_neg (by omega))] <;> rfl))
                  exact zr_iret X hW dX10_serve_340 (Nat.le_refl _) (Nat.le_refl _) ⟨rfl, rfl, by rw [e9], by rw [e9]⟩
              · refine lv_aload_n X.1 X.2.1 dX10_serve_284 rfl (lv_at hl 4 rfl) ?_
                refine zr_get (v := .ref (ad 18)) X hW fs_X10_56_9 dX10_serve_285 (zm_s0 hM) rfl rfl rfl ?_
                refine lv_iload_n X.1 X.2.1 dX10_serve_288 rfl (lv_at hl 6 rfl) ?_
                refine zr_iald (v := v 18 (zn cl)) X hW dX10_serve_289 (zm_s18 hM) rfl rfl (zi_vp (by omega)) ((show zm_mix u_8 g0 18 (cl : Int32).toNatClampNeg = u_8 18 (zn cl) from rfl).trans ((show u_8 18 (zn cl) = u_7 18 (zn cl) from (by rw [hu_8]; rfl)).trans (show u_7 18 (zn cl) = v 18 (zn cl) from (by rw [hu_7]; rfl)))) ?_
                refine lv_goto (tgt := 327) X.1 X.2.1 dX10_serve_290 (by decide) ?_
                refine zr_iast X hW dX10_serve_327 (zm_s26 hM) rfl rfl (zi_vp (by omega)) (fun H locs hW => ?_)
                have hW : zw_St Y N0 ad sh (zm_mix (zm_w u_8 26 (zn (v 17 (zn cl))) (v 18 (zn cl))) g0) s H locs := zm_st (by decide) hW
                obtain ⟨u_15, hu_15⟩ : ∃ z : zm_T, z = zm_w u_8 26 (zn (v 17 (zn cl))) (v 18 (zn cl)) := ⟨_, rfl⟩
                rw [← hu_15] at hW
                refine lv_aload_n X.1 X.2.1 dX10_serve_328 rfl (lv_at hl 4 rfl) ?_
                refine lv_aload_n X.1 X.2.1 dX10_serve_329 rfl (lv_at hl 4 rfl) ?_
                refine zr_get (v := .ref (ad 26)) X hW fs_X10_77_9 dX10_serve_330 (zm_s0 hM) rfl rfl rfl ?_
                refine lv_iload X.1 X.2.1 dX10_serve_333 (lv_at hl 1 rfl) ?_
                refine zr_iald (v := v 18 (zn cl)) X hW dX10_serve_335 (zm_s26 hM) rfl rfl (zi_vp (by omega)) ((show zm_mix u_15 g0 26 (v 17 (zn cl) : Int32).toNatClampNeg = u_15 26 (zn (v 17 (zn cl))) from rfl).trans (show u_15 26 (zn (v 17 (zn cl))) = v 18 (zn cl) from (by rw [hu_15]; exact zm_ws _ _ _ _))) ?_
                refine zr_puti X hW fs_X10_156_9 dX10_serve_336 (zm_s0 hM) rfl rfl rfl rfl (fun H locs hW => ?_)
                have hW : zw_St Y N0 ad sh (zm_mix (zm_w u_15 0 27 (v 18 (zn cl))) g0) s H locs := zm_st (by decide) hW
                obtain ⟨u_16, hu_16⟩ : ∃ z : zm_T, z = zm_w u_15 0 27 (v 18 (zn cl)) := ⟨_, rfl⟩
                rw [← hu_16] at hW
                refine lv_iconst (v := 0) X.1 X.2.1 dX10_serve_339 (by decide) ?_
                have e9 : sp_serve1 k cl v = (0, u_16) := (by subst hu_16 hu_15 hu_8 hu_7; unfold sp_serve1; rw [hm]; (repeat (first | refine (if_pos (by first | omega | exact hb)).trans ?_ | refine (if_neg (by first | omega | (rw [hb]; decide))).trans ?_)); first | (rw [show zs_new v (zn cl) = v 18 (zn cl) from if_pos (by omega)] <;> rfl) | (rw [show zs_new v (zn cl) = v 26 (zn (v 17 (zn cl))) + v 18 (zn cl) from (if_neg (by omega)).trans (if_pos (by omega))] <;> rfl) | (rw [show zs_new v (zn cl) = v 26 (zn (v 17 (zn cl))) from (if_neg (by omega)).trans (if_neg (by omega))] <;> rfl))
                exact zr_iret X hW dX10_serve_340 (Nat.le_refl _) (Nat.le_refl _) ⟨rfl, rfl, by rw [e9], by rw [e9]⟩
            · refine lv_bipush (v := (-7)) X.1 X.2.1 dX10_serve_245 (by decide) ?_
              have e9 : sp_serve1 k cl v = ((-7), v) := (by unfold sp_serve1; rw [hm]; (repeat (first | refine (if_pos (by first | omega | exact hb)).trans ?_ | refine (if_neg (by first | omega | (rw [hb]; decide))).trans ?_)); rfl)
              exact zr_iret X hW dX10_serve_247 (Nat.le_refl _) (Nat.le_refl _) ⟨rfl, rfl, by rw [e9], by rw [e9]⟩
          · refine lv_bipush (v := (-6)) X.1 X.2.1 dX10_serve_233 (by decide) ?_
            have e9 : sp_serve1 k cl v = ((-6), v) := (by unfold sp_serve1; rw [hm]; (repeat (first | refine (if_pos (by first | omega | exact hb)).trans ?_ | refine (if_neg (by first | omega | (rw [hb]; decide))).trans ?_)); rfl)
            exact zr_iret X hW dX10_serve_235 (Nat.le_refl _) (Nat.le_refl _) ⟨rfl, rfl, by rw [e9], by rw [e9]⟩
        · subst h9
          have h_3 : ¬ (zs_bk v (v 11 (zn k))) := h_3
          refine zr_if_eq (a := 0) (tgt := 212) X dX10_serve_195 (by decide) (by decide) (fun _ => ?_) (fun c9 => absurd c9 (by decide))
          refine lv_iconst (v := 0) X.1 X.2.1 dX10_serve_212 (by decide) ?_
          refine lv_istore (lv' := [(6, .int 0), (5, .int (v 17 (zn cl))), (4, .int 0), (3, .int (v 11 (zn k))), (0, .ref (ad 0)), (1, .int k), (2, .int cl)]) X.1 X.2.1 dX10_serve_213 hl (by decide) rfl (fun ls hl => ?_)
          have hm : zs_may v (v 11 (zn k)) (zn (v 17 (zn cl))) = 0 := if_neg h_3
          refine lv_iload X.1 X.2.1 dX10_serve_215 (lv_at hl 0 rfl) ?_
          refine lv_aload_n X.1 X.2.1 dX10_serve_217 rfl (lv_at hl 4 rfl) ?_
          refine zr_get (v := .ref (ad 16)) X hW fs_X10_50_9 dX10_serve_218 (zm_s0 hM) rfl rfl rfl ?_
          refine lv_iload_n X.1 X.2.1 dX10_serve_221 rfl (lv_at hl 6 rfl) ?_
          refine zr_iald (v := v 16 (zn cl)) X hW dX10_serve_222 (zm_s16 hM) rfl rfl (zi_vp (by omega)) rfl ?_
          refine lv_iand X.1 X.2.1 dX10_serve_223 ?_
          refine lv_aload_n X.1 X.2.1 dX10_serve_224 rfl (lv_at hl 4 rfl) ?_
          refine zr_get (v := .ref (ad 16)) X hW fs_X10_50_9 dX10_serve_225 (zm_s0 hM) rfl rfl rfl ?_
          refine lv_iload_n X.1 X.2.1 dX10_serve_228 rfl (lv_at hl 6 rfl) ?_
          refine zr_iald (v := v 16 (zn cl)) X hW dX10_serve_229 (zm_s16 hM) rfl rfl (zi_vp (by omega)) rfl ?_
          refine zr_icmp_eq (a := (0 &&& (v 16 (zn cl))).toInt) (b := (v 16 (zn cl)).toInt) (tgt := 236) X dX10_serve_230 (by decide) rfl rfl (fun c_17 => ?_) (fun c_17 => ?_)
          · refine lv_aload_n X.1 X.2.1 dX10_serve_236 rfl (lv_at hl 4 rfl) ?_
            refine zr_get (v := .int (v 0 28)) X hW fs_X10_147_9 dX10_serve_237 (zm_s0 hM) rfl rfl rfl ?_
            refine lv_bipush (v := 12) X.1 X.2.1 dX10_serve_240 (by decide) ?_
            refine zr_icmp_ne (a := (v 0 28).toInt) (b := 12) (tgt := 248) X dX10_serve_242 (by decide) rfl (by decide) (fun c_18 => ?_) (fun c_18 => ?_)
            · refine lv_aload_n X.1 X.2.1 dX10_serve_248 rfl (lv_at hl 4 rfl) ?_
              refine zr_get (v := .ref (ad 29)) X hW fs_X10_80_9 dX10_serve_249 (zm_s0 hM) rfl rfl rfl ?_
              refine lv_aload_n X.1 X.2.1 dX10_serve_252 rfl (lv_at hl 4 rfl) ?_
              refine zr_get (v := .int (v 0 28)) X hW fs_X10_147_9 dX10_serve_253 (zm_s0 hM) rfl rfl rfl ?_
              refine lv_iload_n X.1 X.2.1 dX10_serve_256 rfl (lv_at hl 6 rfl) ?_
              refine zr_iast X hW dX10_serve_257 (zm_s29 hM) rfl rfl (zi_vp (by omega)) (fun H locs hW => ?_)
              have hW : zw_St Y N0 ad sh (zm_mix (zm_w v 29 (zn (v 0 28)) cl) g0) s H locs := zm_st (by decide) hW
              obtain ⟨u_19, hu_19⟩ : ∃ z : zm_T, z = zm_w v 29 (zn (v 0 28)) cl := ⟨_, rfl⟩
              rw [← hu_19] at hW
              refine lv_aload_n X.1 X.2.1 dX10_serve_258 rfl (lv_at hl 4 rfl) ?_
              refine lv_dup X.1 X.2.1 dX10_serve_259 rfl ?_
              refine zr_get (v := .int (v 0 28)) X hW fs_X10_147_9 dX10_serve_260 (zm_s0 hM) rfl rfl (congrArg Value.int (show u_19 0 28 = v 0 28 from (by rw [hu_19]; rfl))) ?_
              refine lv_iconst (v := 1) X.1 X.2.1 dX10_serve_263 (by decide) ?_
              refine lv_iadd X.1 X.2.1 dX10_serve_264 ?_
              refine zr_puti X hW fs_X10_147_9 dX10_serve_265 (zm_s0 hM) rfl rfl rfl rfl (fun H locs hW => ?_)
              have hW : zw_St Y N0 ad sh (zm_mix (zm_w u_19 0 28 ((v 0 28) + 1)) g0) s H locs := zm_st (by decide) hW
              obtain ⟨u_20, hu_20⟩ : ∃ z : zm_T, z = zm_w u_19 0 28 ((v 0 28) + 1) := ⟨_, rfl⟩
              rw [← hu_20] at hW
              refine lv_aload_n X.1 X.2.1 dX10_serve_268 rfl (lv_at hl 4 rfl) ?_
              refine zr_get (v := .ref (ad 26)) X hW fs_X10_77_9 dX10_serve_269 (zm_s0 hM) rfl rfl rfl ?_
              refine lv_iload X.1 X.2.1 dX10_serve_272 (lv_at hl 1 rfl) ?_
              refine lv_aload_n X.1 X.2.1 dX10_serve_274 rfl (lv_at hl 4 rfl) ?_
              refine zr_get (v := .ref (ad 16)) X hW fs_X10_50_9 dX10_serve_275 (zm_s0 hM) rfl rfl rfl ?_
              refine lv_iload_n X.1 X.2.1 dX10_serve_278 rfl (lv_at hl 6 rfl) ?_
              refine zr_iald (v := v 16 (zn cl)) X hW dX10_serve_279 (zm_s16 hM) rfl rfl (zi_vp (by omega)) ((show zm_mix u_20 g0 16 (cl : Int32).toNatClampNeg = u_20 16 (zn cl) from rfl).trans ((show u_20 16 (zn cl) = u_19 16 (zn cl) from (by rw [hu_20]; rfl)).trans (show u_19 16 (zn cl) = v 16 (zn cl) from (by rw [hu_19]; rfl)))) ?_
              refine lv_iconst (v := 2) X.1 X.2.1 dX10_serve_280 (by decide) ?_
              refine zr_icmp_ne (a := (v 16 (zn cl)).toInt) (b := 2) (tgt := 293) X dX10_serve_281 (by decide) rfl (by decide) (fun c_21 => ?_) (fun c_21 => ?_)
              · refine lv_aload_n X.1 X.2.1 dX10_serve_293 rfl (lv_at hl 4 rfl) ?_
                refine zr_get (v := .ref (ad 16)) X hW fs_X10_50_9 dX10_serve_294 (zm_s0 hM) rfl rfl rfl ?_
                refine lv_iload_n X.1 X.2.1 dX10_serve_297 rfl (lv_at hl 6 rfl) ?_
                refine zr_iald (v := v 16 (zn cl)) X hW dX10_serve_298 (zm_s16 hM) rfl rfl (zi_vp (by omega)) ((show zm_mix u_20 g0 16 (cl : Int32).toNatClampNeg = u_20 16 (zn cl) from rfl).trans ((show u_20 16 (zn cl) = u_19 16 (zn cl) from (by rw [hu_20]; rfl)).trans (show u_19 16 (zn cl) = v 16 (zn cl) from (by rw [hu_19]; rfl)))) ?_
                refine lv_iconst (v := 3) X.1 X.2.1 dX10_serve_299 (by decide) ?_
                refine zr_icmp_ne (a := (v 16 (zn cl)).toInt) (b := 3) (tgt := 320) X dX10_serve_300 (by decide) rfl (by decide) (fun c_22 => ?_) (fun c_22 => ?_)
                · refine lv_aload_n X.1 X.2.1 dX10_serve_320 rfl (lv_at hl 4 rfl) ?_
                  refine zr_get (v := .ref (ad 26)) X hW fs_X10_77_9 dX10_serve_321 (zm_s0 hM) rfl rfl rfl ?_
                  refine lv_iload X.1 X.2.1 dX10_serve_324 (lv_at hl 1 rfl) ?_
                  refine zr_iald (v := v 26 (zn (v 17 (zn cl)))) X hW dX10_serve_326 (zm_s26 hM) rfl rfl (zi_vp (by omega)) ((show zm_mix u_20 g0 26 (v 17 (zn cl) : Int32).toNatClampNeg = u_20 26 (zn (v 17 (zn cl))) from rfl).trans ((show u_20 26 (zn (v 17 (zn cl))) = u_19 26 (zn (v 17 (zn cl))) from (by rw [hu_20]; rfl)).trans (show u_19 26 (zn (v 17 (zn cl))) = v 26 (zn (v 17 (zn cl))) from (by rw [hu_19]; rfl)))) ?_
                  refine zr_iast X hW dX10_serve_327 (zm_s26 hM) rfl rfl (zi_vp (by omega)) (fun H locs hW => ?_)
                  have hW : zw_St Y N0 ad sh (zm_mix (zm_w u_20 26 (zn (v 17 (zn cl))) (v 26 (zn (v 17 (zn cl))))) g0) s H locs := zm_st (by decide) hW
                  obtain ⟨u_23, hu_23⟩ : ∃ z : zm_T, z = zm_w u_20 26 (zn (v 17 (zn cl))) (v 26 (zn (v 17 (zn cl)))) := ⟨_, rfl⟩
                  rw [← hu_23] at hW
                  refine lv_aload_n X.1 X.2.1 dX10_serve_328 rfl (lv_at hl 4 rfl) ?_
                  refine lv_aload_n X.1 X.2.1 dX10_serve_329 rfl (lv_at hl 4 rfl) ?_
                  refine zr_get (v := .ref (ad 26)) X hW fs_X10_77_9 dX10_serve_330 (zm_s0 hM) rfl rfl rfl ?_
                  refine lv_iload X.1 X.2.1 dX10_serve_333 (lv_at hl 1 rfl) ?_
                  refine zr_iald (v := v 26 (zn (v 17 (zn cl)))) X hW dX10_serve_335 (zm_s26 hM) rfl rfl (zi_vp (by omega)) ((show zm_mix u_23 g0 26 (v 17 (zn cl) : Int32).toNatClampNeg = u_23 26 (zn (v 17 (zn cl))) from rfl).trans (show u_23 26 (zn (v 17 (zn cl))) = v 26 (zn (v 17 (zn cl))) from (by rw [hu_23]; exact zm_ws _ _ _ _))) ?_
                  refine zr_puti X hW fs_X10_156_9 dX10_serve_336 (zm_s0 hM) rfl rfl rfl rfl (fun H locs hW => ?_)
                  have hW : zw_St Y N0 ad sh (zm_mix (zm_w u_23 0 27 (v 26 (zn (v 17 (zn cl))))) g0) s H locs := zm_st (by decide) hW
                  obtain ⟨u_24, hu_24⟩ : ∃ z : zm_T, z = zm_w u_23 0 27 (v 26 (zn (v 17 (zn cl)))) := ⟨_, rfl⟩
                  rw [← hu_24] at hW
                  refine lv_iconst (v := 0) X.1 X.2.1 dX10_serve_339 (by decide) ?_
                  have e9 : sp_serve1 k cl v = (0, u_24) := (by subst hu_24 hu_23 hu_20 hu_19; unfold sp_serve1; rw [hm]; (repeat (first | refine (if_pos (by first | omega | exact hb)).trans ?_ | refine (if_neg (by first | omega | (rw [hb]; decide))).trans ?_)); first | (rw [show zs_new v (zn cl) = v 18 (zn cl) from if_pos (by omega)] <;> rfl) | (rw [show zs_new v (zn cl) = v 26 (zn (v 17 (zn cl))) + v 18 (zn cl) from (if_neg (by omega)).trans (if_pos (by omega))] <;> rfl) | (rw [show zs_new v (zn cl) = v 26 (zn (v 17 (zn cl))) from (if_neg (by omega)).trans (if_neg (by omega))] <;> rfl))
                  exact zr_iret X hW dX10_serve_340 (Nat.le_refl _) (Nat.le_refl _) ⟨rfl, rfl, by rw [e9], by rw [e9]⟩
                · refine lv_aload_n X.1 X.2.1 dX10_serve_303 rfl (lv_at hl 4 rfl) ?_
                  refine zr_get (v := .ref (ad 26)) X hW fs_X10_77_9 dX10_serve_304 (zm_s0 hM) rfl rfl rfl ?_
                  refine lv_iload X.1 X.2.1 dX10_serve_307 (lv_at hl 1 rfl) ?_
                  refine zr_iald (v := v 26 (zn (v 17 (zn cl)))) X hW dX10_serve_309 (zm_s26 hM) rfl rfl (zi_vp (by omega)) ((show zm_mix u_20 g0 26 (v 17 (zn cl) : Int32).toNatClampNeg = u_20 26 (zn (v 17 (zn cl))) from rfl).trans ((show u_20 26 (zn (v 17 (zn cl))) = u_19 26 (zn (v 17 (zn cl))) from (by rw [hu_20]; rfl)).trans (show u_19 26 (zn (v 17 (zn cl))) = v 26 (zn (v 17 (zn cl))) from (by rw [hu_19]; rfl)))) ?_
                  refine lv_aload_n X.1 X.2.1 dX10_serve_310 rfl (lv_at hl 4 rfl) ?_
                  refine zr_get (v := .ref (ad 18)) X hW fs_X10_56_9 dX10_serve_311 (zm_s0 hM) rfl rfl rfl ?_
                  refine lv_iload_n X.1 X.2.1 dX10_serve_314 rfl (lv_at hl 6 rfl) ?_
                  refine zr_iald (v := v 18 (zn cl)) X hW dX10_serve_315 (zm_s18 hM) rfl rfl (zi_vp (by omega)) ((show zm_mix u_20 g0 18 (cl : Int32).toNatClampNeg = u_20 18 (zn cl) from rfl).trans ((show u_20 18 (zn cl) = u_19 18 (zn cl) from (by rw [hu_20]; rfl)).trans (show u_19 18 (zn cl) = v 18 (zn cl) from (by rw [hu_19]; rfl)))) ?_
                  refine lv_iadd X.1 X.2.1 dX10_serve_316 ?_
                  refine lv_goto (tgt := 327) X.1 X.2.1 dX10_serve_317 (by decide) ?_
                  refine zr_iast X hW dX10_serve_327 (zm_s26 hM) rfl rfl (zi_vp (by omega)) (fun H locs hW => ?_)
                  have hW : zw_St Y N0 ad sh (zm_mix (zm_w u_20 26 (zn (v 17 (zn cl))) ((v 26 (zn (v 17 (zn cl)))) + (v 18 (zn cl)))) g0) s H locs := zm_st (by decide) hW
                  obtain ⟨u_25, hu_25⟩ : ∃ z : zm_T, z = zm_w u_20 26 (zn (v 17 (zn cl))) ((v 26 (zn (v 17 (zn cl)))) + (v 18 (zn cl))) := ⟨_, rfl⟩
                  rw [← hu_25] at hW
                  refine lv_aload_n X.1 X.2.1 dX10_serve_328 rfl (lv_at hl 4 rfl) ?_
                  refine lv_aload_n X.1 X.2.1 dX10_serve_329 rfl (lv_at hl 4 rfl) ?_
                  refine zr_get (v := .ref (ad 26)) X hW fs_X10_77_9 dX10_serve_330 (zm_s0 hM) rfl rfl rfl ?_
                  refine lv_iload X.1 X.2.1 dX10_serve_333 (lv_at hl 1 rfl) ?_
                  refine zr_iald (v := (v 26 (zn (v 17 (zn cl)))) + (v 18 (zn cl))) X hW dX10_serve_335 (zm_s26 hM) rfl rfl (zi_vp (by omega)) ((show zm_mix u_25 g0 26 (v 17 (zn cl) : Int32).toNatClampNeg = u_25 26 (zn (v 17 (zn cl))) from rfl).trans (show u_25 26 (zn (v 17 (zn cl))) = (v 26 (zn (v 17 (zn cl)))) + (v 18 (zn cl)) from (by rw [hu_25]; exact zm_ws _ _ _ _))) ?_
                  refine zr_puti X hW fs_X10_156_9 dX10_serve_336 (zm_s0 hM) rfl rfl rfl rfl (fun H locs hW => ?_)
                  have hW : zw_St Y N0 ad sh (zm_mix (zm_w u_25 0 27 ((v 26 (zn (v 17 (zn cl)))) + (v 18 (zn cl)))) g0) s H locs := zm_st (by decide) hW
                  obtain ⟨u_26, hu_26⟩ : ∃ z : zm_T, z = zm_w u_25 0 27 ((v 26 (zn (v 17 (zn cl)))) + (v 18 (zn cl))) := ⟨_, rfl⟩
                  rw [← hu_26] at hW
                  refine lv_iconst (v := 0) X.1 X.2.1 dX10_serve_339 (by decide) ?_
                  have e9 : sp_serve1 k cl v = (0, u_26) := (by subst hu_26 hu_25 hu_20 hu_19; unfold sp_serve1; rw [hm]; (repeat (first | refine (if_pos (by first | omega | exact hb)).trans ?_ | refine (if_neg (by first | omega | (rw [hb]; decide))).trans ?_)); first | (rw [show zs_new v (zn cl) = v 18 (zn cl) from if_pos (by omega)] <;> rfl) | (rw [show zs_new v (zn cl) = v 26 (zn (v 17 (zn cl))) + v 18 (zn cl) from (if_neg (by omega)).trans (if_pos (by omega))] <;> rfl) | (rw [show zs_new v (zn cl) = v 26 (zn (v 17 (zn cl))) from (if_neg (by omega)).trans (if_neg (by omega))] <;> rfl))
                  exact zr_iret X hW dX10_serve_340 (Nat.le_refl _) (Nat.le_refl _) ⟨rfl, rfl, by rw [e9], by rw [e9]⟩
              · refine lv_aload_n X.1 X.2.1 dX10_serve_284 rfl (lv_at hl 4 rfl) ?_
                refine zr_get (v := .ref (ad 18)) X hW fs_X10_56_9 dX10_serve_285 (zm_s0 hM) rfl rfl rfl ?_
                refine lv_iload_n X.1 X.2.1 dX10_serve_288 rfl (lv_at hl 6 rfl) ?_
                refine zr_iald (v := v 18 (zn cl)) X hW dX10_serve_289 (zm_s18 hM) rfl rfl (zi_vp (by omega)) ((show zm_mix u_20 g0 18 (cl : Int32).toNatClampNeg = u_20 18 (zn cl) from rfl).trans ((show u_20 18 (zn cl) = u_19 18 (zn cl) from (by rw [hu_20]; rfl)).trans (show u_19 18 (zn cl) = v 18 (zn cl) from (by rw [hu_19]; rfl)))) ?_
                refine lv_goto (tgt := 327) X.1 X.2.1 dX10_serve_290 (by decide) ?_
                refine zr_iast X hW dX10_serve_327 (zm_s26 hM) rfl rfl (zi_vp (by omega)) (fun H locs hW => ?_)
                have hW : zw_St Y N0 ad sh (zm_mix (zm_w u_20 26 (zn (v 17 (zn cl))) (v 18 (zn cl))) g0) s H locs := zm_st (by decide) hW
                obtain ⟨u_27, hu_27⟩ : ∃ z : zm_T, z = zm_w u_20 26 (zn (v 17 (zn cl))) (v 18 (zn cl)) := ⟨_, rfl⟩
                rw [← hu_27] at hW
                refine lv_aload_n X.1 X.2.1 dX10_serve_328 rfl (lv_at hl 4 rfl) ?_
                refine lv_aload_n X.1 X.2.1 dX10_serve_329 rfl (lv_at hl 4 rfl) ?_
                refine zr_get (v := .ref (ad 26)) X hW fs_X10_77_9 dX10_serve_330 (zm_s0 hM) rfl rfl rfl ?_
                refine lv_iload X.1 X.2.1 dX10_serve_333 (lv_at hl 1 rfl) ?_
                refine zr_iald (v := v 18 (zn cl)) X hW dX10_serve_335 (zm_s26 hM) rfl rfl (zi_vp (by omega)) ((show zm_mix u_27 g0 26 (v 17 (zn cl) : Int32).toNatClampNeg = u_27 26 (zn (v 17 (zn cl))) from rfl).trans (show u_27 26 (zn (v 17 (zn cl))) = v 18 (zn cl) from (by rw [hu_27]; exact zm_ws _ _ _ _))) ?_
                refine zr_puti X hW fs_X10_156_9 dX10_serve_336 (zm_s0 hM) rfl rfl rfl rfl (fun H locs hW => ?_)
                have hW : zw_St Y N0 ad sh (zm_mix (zm_w u_27 0 27 (v 18 (zn cl))) g0) s H locs := zm_st (by decide) hW
                obtain ⟨u_28, hu_28⟩ : ∃ z : zm_T, z = zm_w u_27 0 27 (v 18 (zn cl)) := ⟨_, rfl⟩
                rw [← hu_28] at hW
                refine lv_iconst (v := 0) X.1 X.2.1 dX10_serve_339 (by decide) ?_
                have e9 : sp_serve1 k cl v = (0, u_28) := (by subst hu_28 hu_27 hu_20 hu_19; unfold sp_serve1; rw [hm]; (repeat (first | refine (if_pos (by first | omega | exact hb)).trans ?_ | refine (if_neg (by first | omega | (rw [hb]; decide))).trans ?_)); first | (rw [show zs_new v (zn cl) = v 18 (zn cl) from if_pos (by omega)] <;> rfl) | (rw [show zs_new v (zn cl) = v 26 (zn (v 17 (zn cl))) + v 18 (zn cl) from (if_neg (by omega)).trans (if_pos (by omega))] <;> rfl) | (rw [show zs_new v (zn cl) = v 26 (zn (v 17 (zn cl))) from (if_neg (by omega)).trans (if_neg (by omega))] <;> rfl))
                exact zr_iret X hW dX10_serve_340 (Nat.le_refl _) (Nat.le_refl _) ⟨rfl, rfl, by rw [e9], by rw [e9]⟩
            · refine lv_bipush (v := (-7)) X.1 X.2.1 dX10_serve_245 (by decide) ?_
              have e9 : sp_serve1 k cl v = ((-7), v) := (by unfold sp_serve1; rw [hm]; (repeat (first | refine (if_pos (by first | omega | exact hb)).trans ?_ | refine (if_neg (by first | omega | (rw [hb]; decide))).trans ?_)); rfl)
              exact zr_iret X hW dX10_serve_247 (Nat.le_refl _) (Nat.le_refl _) ⟨rfl, rfl, by rw [e9], by rw [e9]⟩
          · refine lv_bipush (v := (-6)) X.1 X.2.1 dX10_serve_233 (by decide) ?_
            have e9 : sp_serve1 k cl v = ((-6), v) := (by unfold sp_serve1; rw [hm]; (repeat (first | refine (if_pos (by first | omega | exact hb)).trans ?_ | refine (if_neg (by first | omega | (rw [hb]; decide))).trans ?_)); rfl)
            exact zr_iret X hW dX10_serve_235 (Nat.le_refl _) (Nat.le_refl _) ⟨rfl, rfl, by rw [e9], by rw [e9]⟩
      · have hcq := zI_cq hI j (by omega)
        refine lv_iload X.1 X.2.1 dX10_serve_141 (lv_at hl 1 rfl) ?_
        refine zr_if_ne (a := 0) (tgt := 161) X dX10_serve_143 (by decide) (by decide) (fun c9 => absurd c9 (by decide)) (fun _ => ?_)
        refine lv_aload_n X.1 X.2.1 dX10_serve_146 rfl (lv_at hl 3 rfl) ?_
        refine lv_aload_n X.1 X.2.1 dX10_serve_147 rfl (lv_at hl 3 rfl) ?_
        refine zr_get (v := .ref (ad 29)) X hW fs_X10_80_9 dX10_serve_148 (zm_s0 hM) rfl rfl rfl ?_
        refine lv_iload X.1 X.2.1 dX10_serve_151 (lv_at hl 0 rfl) ?_
        have hx_29 := nI_clamp (n := j) (by omega)
        refine zr_iald (v := v 29 j) X hW dX10_serve_153 (zm_s29 hM) rfl rfl (zi_vp (by rw [nI_toInt (by omega)]; omega)) (by rw [hx_29]; rfl) ?_
        refine lv_iload_n X.1 X.2.1 dX10_serve_154 rfl (lv_at hl 5 rfl) ?_
        refine zr_callV (As := [.int (v 29 j), .int cl]) (rest := []) X hW hl.1 md_X10_same ms_X10_153 dX10_serve_155 (zm_s0 hM) rfl rfl rfl rfl (Nat.le_of_ble_eq_true rfl) ⟨Nat.le_of_ble_eq_true rfl, Nat.le_of_ble_eq_true rfl⟩ ⟨Nat.le_of_ble_eq_true rfl, Nat.le_of_ble_eq_true rfl⟩ (c_X10_same l Y N0 ad sh v g0 hM (v 29 j) cl (by omega) (by omega)) (fun v9 ad9 sh9 g9 H locs hp hW => ?_)
        rcases hp with ⟨rfl, rfl, rfl, ⟨h_30, h9⟩ | ⟨h_30, h9⟩⟩
        · subst h9
          have h_30 : zs_same v (zn (v 29 j)) (zn cl) := h_30
          refine zr_if_eq (a := 1) (tgt := 165) X dX10_serve_158 (by decide) (by decide) (fun c9 => absurd c9 (by decide)) (fun _ => ?_)
          refine lv_iconst (v := 1) X.1 X.2.1 dX10_serve_161 (by decide) ?_
          refine lv_goto (tgt := 166) X.1 X.2.1 dX10_serve_162 (by decide) ?_
          refine lv_istore (lv' := [(4, .int 1), (5, .int (nI (j))), (3, .int (v 11 (zn k))), (0, .ref (ad 0)), (1, .int k), (2, .int cl)]) X.1 X.2.1 dX10_serve_166 hl (by decide) rfl (fun ls hl => ?_)
          refine lv_iinc (v := nI (j + 1)) (lv' := [(5, .int (nI (j + 1))), (4, .int 1), (3, .int (v 11 (zn k))), (0, .ref (ad 0)), (1, .int k), (2, .int cl)]) X.1 X.2.1 dX10_serve_168 hl (k := 1) rfl (nI_add j 1) (by decide) rfl (fun ls hl => ?_)
          refine lv_goto (tgt := 132) X.1 X.2.1 dX10_serve_171 (by decide) ?_
          exact ih (j + 1) 1 _ _ _ (by omega) (by omega) (Or.inl ⟨rfl, (by show (zs_rep v (zn cl) j || decide (zs_same v (zn (v 29 j)) (zn cl))) = true; rw [hb, decide_eq_true h_30]; rfl)⟩) hW (lv_sub hl [0, 1, 2, 3, 4, 5] rfl)
        · subst h9
          have h_30 : ¬ (zs_same v (zn (v 29 j)) (zn cl)) := h_30
          refine zr_if_eq (a := 0) (tgt := 165) X dX10_serve_158 (by decide) (by decide) (fun _ => ?_) (fun c9 => absurd c9 (by decide))
          refine lv_iconst (v := 0) X.1 X.2.1 dX10_serve_165 (by decide) ?_
          refine lv_istore (lv' := [(4, .int 0), (5, .int (nI (j))), (3, .int (v 11 (zn k))), (0, .ref (ad 0)), (1, .int k), (2, .int cl)]) X.1 X.2.1 dX10_serve_166 hl (by decide) rfl (fun ls hl => ?_)
          refine lv_iinc (v := nI (j + 1)) (lv' := [(5, .int (nI (j + 1))), (4, .int 0), (3, .int (v 11 (zn k))), (0, .ref (ad 0)), (1, .int k), (2, .int cl)]) X.1 X.2.1 dX10_serve_168 hl (k := 1) rfl (nI_add j 1) (by decide) rfl (fun ls hl => ?_)
          refine lv_goto (tgt := 132) X.1 X.2.1 dX10_serve_171 (by decide) ?_
          exact ih (j + 1) 0 _ _ _ (by omega) (by omega) (Or.inr ⟨rfl, (by show (zs_rep v (zn cl) j || decide (zs_same v (zn (v 29 j)) (zn cl))) = false; rw [hb, decide_eq_false h_30]; rfl)⟩) hW (lv_sub hl [0, 1, 2, 3, 4, 5] rfl)

set_option maxHeartbeats 4000000 in
set_option maxRecDepth 100000 in
theorem c_X10_serve (l : Launch) (Y : zw_Y) (N0 : Nat) (ad : Nat → Nat) (sh : Nat → Option zw_Sh) (u g0 : zm_T) (hM : zm_S sh) (k cl : Int32) (hI : zm_I u) : zw_Met l Y N0 yX10_serve cX10_serve 7 (some .int) 2 45 0 0 ad sh (zm_mix u g0) [.ref (ad 0), .int k, .int cl] (zp_S ad sh g0 (sp_serve k cl u)) := by
  refine zw_meth (by decide) (Nat.le_of_ble_eq_true rfl) ?_
  intro p e s m below meth c ls X hnm hl hW
  have hl : lv_has ls 7 [(0, .ref (ad 0)), (1, .int k), (2, .int cl)] := hl
  refine lv_aload_n X.1 X.2.1 dX10_serve_0 rfl (lv_at hl 0 rfl) ?_
  refine zr_callV (As := []) (rest := []) X hW hl.1 md_X10_forgetOld ms_X10_150 dX10_serve_1 (zm_s0 hM) rfl rfl rfl rfl (Nat.le_of_ble_eq_true rfl) ⟨Nat.le_of_ble_eq_true rfl, Nat.le_of_ble_eq_true rfl⟩ ⟨Nat.le_of_ble_eq_true rfl, Nat.le_of_ble_eq_true rfl⟩ (c_X10_forgetOld l Y N0 ad sh u g0 hM  hI) (fun v9 ad9 sh9 g9 H locs hp hW => ?_)
  obtain ⟨rfl, rfl, rfl, rfl⟩ := hp
  obtain ⟨u_2, hu_2⟩ : ∃ z : zm_T, z = zs_fo u := ⟨_, rfl⟩
  rw [← hu_2] at hW
  have hI1 : zm_I u_2 := by rw [hu_2]; exact zI_fo hI
  have hse := zI_se hI1
  refine lv_aload_n X.1 X.2.1 dX10_serve_4 rfl (lv_at hl 0 rfl) ?_
  refine lv_aload_n X.1 X.2.1 dX10_serve_5 rfl (lv_at hl 0 rfl) ?_
  refine zr_get (v := .ref (ad 3)) X hW fs_X10_13_9 dX10_serve_6 (zm_s0 hM) rfl rfl rfl ?_
  refine lv_iconst (v := 1) X.1 X.2.1 dX10_serve_9 (by decide) ?_
  refine zr_iald (v := u_2 3 1) X hW dX10_serve_10 (zm_s3 hM) rfl rfl (zi_vp (by decide)) rfl ?_
  refine lv_iload_n X.1 X.2.1 dX10_serve_11 rfl (lv_at hl 1 rfl) ?_
  refine lv_iconst (v := 2) X.1 X.2.1 dX10_serve_12 (by decide) ?_
  refine zr_callV (As := [.int (u_2 3 1), .int k, .int 2]) (rest := []) X hW hl.1 md_X10_opens ms_X10_126 dX10_serve_13 (zm_s0 hM) rfl rfl rfl rfl (Nat.le_of_ble_eq_true rfl) ⟨Nat.le_of_ble_eq_true rfl, Nat.le_of_ble_eq_true rfl⟩ ⟨Nat.le_of_ble_eq_true rfl, Nat.le_of_ble_eq_true rfl⟩ (c_X10_opens l Y N0 ad sh u_2 g0 hM (u_2 3 1) k 2 hI1) (fun v9 ad9 sh9 g9 H locs hp hW => ?_)
  rcases hp with ⟨rfl, rfl, rfl, ⟨h_4, h9⟩ | ⟨h_4, h9⟩⟩
  · subst h9
    have h_4 : zs_op u_2 (u_2 3 1) k 2 := h_4
    refine zr_if_ne (a := 1) (tgt := 22) X dX10_serve_16 (by decide) (by decide) (fun _ => ?_) (fun c9 => absurd c9 (by decide))
    refine lv_aload_n X.1 X.2.1 dX10_serve_22 rfl (lv_at hl 0 rfl) ?_
    refine lv_aload_n X.1 X.2.1 dX10_serve_23 rfl (lv_at hl 0 rfl) ?_
    refine zr_get (v := .ref (ad 12)) X hW fs_X10_38_9 dX10_serve_24 (zm_s0 hM) rfl rfl rfl ?_
    refine lv_iload_n X.1 X.2.1 dX10_serve_27 rfl (lv_at hl 1 rfl) ?_
    refine zr_iald (v := u_2 12 (zn k)) X hW dX10_serve_28 (zm_s12 hM) rfl rfl (zi_vp (by omega)) rfl ?_
    refine lv_iload_n X.1 X.2.1 dX10_serve_29 rfl (lv_at hl 2 rfl) ?_
    refine lv_iconst (v := 4) X.1 X.2.1 dX10_serve_30 (by decide) ?_
    refine zr_callV (As := [.int (u_2 12 (zn k)), .int cl, .int 4]) (rest := []) X hW hl.1 md_X10_opens ms_X10_126 dX10_serve_31 (zm_s0 hM) rfl rfl rfl rfl (Nat.le_of_ble_eq_true rfl) ⟨Nat.le_of_ble_eq_true rfl, Nat.le_of_ble_eq_true rfl⟩ ⟨Nat.le_of_ble_eq_true rfl, Nat.le_of_ble_eq_true rfl⟩ (c_X10_opens l Y N0 ad sh u_2 g0 hM (u_2 12 (zn k)) cl 4 hI1) (fun v9 ad9 sh9 g9 H locs hp hW => ?_)
    rcases hp with ⟨rfl, rfl, rfl, ⟨h_5, h9⟩ | ⟨h_5, h9⟩⟩
    · subst h9
      have h_5 : zs_op u_2 (u_2 12 (zn k)) cl 4 := h_5
      refine zr_if_ne (a := 1) (tgt := 40) X dX10_serve_34 (by decide) (by decide) (fun _ => ?_) (fun c9 => absurd c9 (by decide))
      refine lv_aload_n X.1 X.2.1 dX10_serve_40 rfl (lv_at hl 0 rfl) ?_
      refine zr_get (v := .ref (ad 11)) X hW fs_X10_35_9 dX10_serve_41 (zm_s0 hM) rfl rfl rfl ?_
      refine lv_iload_n X.1 X.2.1 dX10_serve_44 rfl (lv_at hl 1 rfl) ?_
      refine zr_iald (v := u_2 11 (zn k)) X hW dX10_serve_45 (zm_s11 hM) rfl rfl (zi_vp (by omega)) rfl ?_
      refine lv_istore_n (lv' := [(3, .int (u_2 11 (zn k))), (0, .ref (ad 0)), (1, .int k), (2, .int cl)]) X.1 X.2.1 dX10_serve_46 rfl hl (by decide) rfl (fun ls hl => ?_)
      refine lv_aload_n X.1 X.2.1 dX10_serve_47 rfl (lv_at hl 1 rfl) ?_
      refine zr_get (v := .ref (ad 11)) X hW fs_X10_35_9 dX10_serve_48 (zm_s0 hM) rfl rfl rfl ?_
      refine lv_iload_n X.1 X.2.1 dX10_serve_51 rfl (lv_at hl 3 rfl) ?_
      refine zr_iald (v := u_2 11 (zn cl)) X hW dX10_serve_52 (zm_s11 hM) rfl rfl (zi_vp (by omega)) rfl ?_
      refine lv_iload_n X.1 X.2.1 dX10_serve_53 rfl (lv_at hl 0 rfl) ?_
      refine zr_icmp_ne (a := (u_2 11 (zn cl)).toInt) (b := (u_2 11 (zn k)).toInt) (tgt := 66) X dX10_serve_54 (by decide) rfl rfl (fun c_6 => ?_) (fun c_6 => ?_)
      · refine lv_bipush (v := (-3)) X.1 X.2.1 dX10_serve_66 (by decide) ?_
        have e9 : sp_serve k cl u = ((-3), u_2) := (by show sp_serve1 k cl (zs_fo u) = _; rw [← hu_2]; unfold sp_serve1; (repeat (first | refine (if_pos (by omega)).trans ?_ | refine (if_neg (by omega)).trans ?_)); rfl)
        exact zr_iret X hW dX10_serve_68 (Nat.le_refl _) (Nat.le_refl _) ⟨rfl, rfl, by rw [e9], by rw [e9]⟩
      · refine lv_aload_n X.1 X.2.1 dX10_serve_57 rfl (lv_at hl 1 rfl) ?_
        refine zr_get (v := .ref (ad 16)) X hW fs_X10_50_9 dX10_serve_58 (zm_s0 hM) rfl rfl rfl ?_
        refine lv_iload_n X.1 X.2.1 dX10_serve_61 rfl (lv_at hl 3 rfl) ?_
        refine zr_iald (v := u_2 16 (zn cl)) X hW dX10_serve_62 (zm_s16 hM) rfl rfl (zi_vp (by omega)) rfl ?_
        refine zr_if_ne (a := (u_2 16 (zn cl)).toInt) (tgt := 69) X dX10_serve_63 (by decide) rfl (fun c_7 => ?_) (fun c_7 => ?_)
        · refine lv_aload_n X.1 X.2.1 dX10_serve_69 rfl (lv_at hl 1 rfl) ?_
          refine lv_aload_n X.1 X.2.1 dX10_serve_70 rfl (lv_at hl 1 rfl) ?_
          refine zr_get (v := .ref (ad 13)) X hW fs_X10_41_9 dX10_serve_71 (zm_s0 hM) rfl rfl rfl ?_
          refine lv_iload_n X.1 X.2.1 dX10_serve_74 rfl (lv_at hl 3 rfl) ?_
          refine zr_iald (v := u_2 13 (zn cl)) X hW dX10_serve_75 (zm_s13 hM) rfl rfl (zi_vp (by omega)) rfl ?_
          refine lv_aload_n X.1 X.2.1 dX10_serve_76 rfl (lv_at hl 1 rfl) ?_
          refine zr_get (v := .ref (ad 1)) X hW fs_X10_7_9 dX10_serve_77 (zm_s0 hM) rfl rfl rfl ?_
          refine lv_iconst (v := 1) X.1 X.2.1 dX10_serve_80 (by decide) ?_
          refine zr_iald (v := u_2 1 1) X hW dX10_serve_81 (zm_s1 hM) rfl rfl (zi_vp (by decide)) rfl ?_
          refine zr_callV (As := [.int (u_2 13 (zn cl)), .int (u_2 1 1)]) (rest := []) X hW hl.1 md_X10_near ms_X10_137 dX10_serve_82 (zm_s0 hM) rfl rfl rfl rfl (Nat.le_of_ble_eq_true rfl) ⟨Nat.le_of_ble_eq_true rfl, Nat.le_of_ble_eq_true rfl⟩ ⟨Nat.le_of_ble_eq_true rfl, Nat.le_of_ble_eq_true rfl⟩ (c_X10_near l Y N0 ad sh u_2 g0 hM (u_2 13 (zn cl)) (u_2 1 1) hI1) (fun v9 ad9 sh9 g9 H locs hp hW => ?_)
          rcases hp with ⟨rfl, rfl, rfl, ⟨h_8, h9⟩ | ⟨h_8, h9⟩⟩
          · subst h9
            have h_8 : zs_nr u_2 (u_2 13 (zn cl)) (u_2 1 1) := h_8
            refine zr_if_eq (a := 1) (tgt := 123) X dX10_serve_85 (by decide) (by decide) (fun c9 => absurd c9 (by decide)) (fun _ => ?_)
            refine lv_aload_n X.1 X.2.1 dX10_serve_88 rfl (lv_at hl 1 rfl) ?_
            refine zr_get (v := .ref (ad 1)) X hW fs_X10_7_9 dX10_serve_89 (zm_s0 hM) rfl rfl rfl ?_
            refine lv_iconst (v := 1) X.1 X.2.1 dX10_serve_92 (by decide) ?_
            refine zr_iald (v := u_2 1 1) X hW dX10_serve_93 (zm_s1 hM) rfl rfl (zi_vp (by decide)) rfl ?_
            refine lv_aload_n X.1 X.2.1 dX10_serve_94 rfl (lv_at hl 1 rfl) ?_
            refine zr_get (v := .ref (ad 14)) X hW fs_X10_44_9 dX10_serve_95 (zm_s0 hM) rfl rfl rfl ?_
            refine lv_iload_n X.1 X.2.1 dX10_serve_98 rfl (lv_at hl 2 rfl) ?_
            refine zr_iald (v := u_2 14 (zn k)) X hW dX10_serve_99 (zm_s14 hM) rfl rfl (zi_vp (by omega)) rfl ?_
            refine zr_icmp_gt (a := (u_2 1 1).toInt) (b := (u_2 14 (zn k)).toInt) (tgt := 123) X dX10_serve_100 (by decide) rfl rfl (fun c_9 => ?_) (fun c_9 => ?_)
            · refine lv_bipush (v := (-4)) X.1 X.2.1 dX10_serve_123 (by decide) ?_
              have e9 : sp_serve k cl u = ((-4), u_2) := (by show sp_serve1 k cl (zs_fo u) = _; rw [← hu_2]; unfold sp_serve1; (repeat (first | refine (if_pos (by omega)).trans ?_ | refine (if_neg (by omega)).trans ?_)); rfl)
              exact zr_iret X hW dX10_serve_125 (Nat.le_refl _) (Nat.le_refl _) ⟨rfl, rfl, by rw [e9], by rw [e9]⟩
            · refine lv_aload_n X.1 X.2.1 dX10_serve_103 rfl (lv_at hl 1 rfl) ?_
              refine zr_get (v := .ref (ad 13)) X hW fs_X10_41_9 dX10_serve_104 (zm_s0 hM) rfl rfl rfl ?_
              refine lv_iload_n X.1 X.2.1 dX10_serve_107 rfl (lv_at hl 2 rfl) ?_
              refine zr_iald (v := u_2 13 (zn k)) X hW dX10_serve_108 (zm_s13 hM) rfl rfl (zi_vp (by omega)) rfl ?_
              refine lv_aload_n X.1 X.2.1 dX10_serve_109 rfl (lv_at hl 1 rfl) ?_
              refine zr_get (v := .ref (ad 1)) X hW fs_X10_7_9 dX10_serve_110 (zm_s0 hM) rfl rfl rfl ?_
              refine lv_iconst (v := 1) X.1 X.2.1 dX10_serve_113 (by decide) ?_
              refine zr_iald (v := u_2 1 1) X hW dX10_serve_114 (zm_s1 hM) rfl rfl (zi_vp (by decide)) rfl ?_
              refine lv_aload_n X.1 X.2.1 dX10_serve_115 rfl (lv_at hl 1 rfl) ?_
              refine zr_get (v := .int (u_2 0 0)) X hW fs_X10_83_9 dX10_serve_116 (zm_s0 hM) rfl rfl rfl ?_
              refine lv_iadd X.1 X.2.1 dX10_serve_119 ?_
              refine zr_icmp_le (a := (u_2 13 (zn k)).toInt) (b := ((u_2 1 1) + (u_2 0 0)).toInt) (tgt := 126) X dX10_serve_120 (by decide) rfl rfl (fun c_10 => ?_) (fun c_10 => ?_)
              · refine lv_iconst (v := 0) X.1 X.2.1 dX10_serve_126 (by decide) ?_
                refine lv_istore (lv' := [(4, .int 0), (3, .int (u_2 11 (zn k))), (0, .ref (ad 0)), (1, .int k), (2, .int cl)]) X.1 X.2.1 dX10_serve_127 hl (by decide) rfl (fun ls hl => ?_)
                refine lv_iconst (v := 0) X.1 X.2.1 dX10_serve_129 (by decide) ?_
                refine lv_istore (lv' := [(5, .int 0), (4, .int 0), (3, .int (u_2 11 (zn k))), (0, .ref (ad 0)), (1, .int k), (2, .int cl)]) X.1 X.2.1 dX10_serve_130 hl (by decide) rfl (fun ls hl => ?_)
                have hca := zI_ca hI1
                have e9 : sp_serve k cl u = sp_serve1 k cl u_2 := by rw [hu_2]; rfl
                rw [e9]
                exact lp_serve l Y N0 ad sh u_2 g0 hM k cl hI1 h_4 h_5 (by omega) (by omega) h_8 (by omega) (by omega) X hnm 13 0 0 _ _ _ (by omega) (by omega) (Or.inr ⟨rfl, rfl⟩) hW (lv_sub hl [0, 1, 2, 3, 4, 5] rfl)
              · refine lv_bipush (v := (-4)) X.1 X.2.1 dX10_serve_123 (by decide) ?_
                have e9 : sp_serve k cl u = ((-4), u_2) := (by show sp_serve1 k cl (zs_fo u) = _; rw [← hu_2]; unfold sp_serve1; (repeat (first | refine (if_pos (by omega)).trans ?_ | refine (if_neg (by omega)).trans ?_)); rfl)
                exact zr_iret X hW dX10_serve_125 (Nat.le_refl _) (Nat.le_refl _) ⟨rfl, rfl, by rw [e9], by rw [e9]⟩
          · subst h9
            have h_8 : ¬ (zs_nr u_2 (u_2 13 (zn cl)) (u_2 1 1)) := h_8
            refine zr_if_eq (a := 0) (tgt := 123) X dX10_serve_85 (by decide) (by decide) (fun _ => ?_) (fun c9 => absurd c9 (by decide))
            refine lv_bipush (v := (-4)) X.1 X.2.1 dX10_serve_123 (by decide) ?_
            have e9 : sp_serve k cl u = ((-4), u_2) := (by show sp_serve1 k cl (zs_fo u) = _; rw [← hu_2]; unfold sp_serve1; (repeat (first | refine (if_pos (by omega)).trans ?_ | refine (if_neg (by omega)).trans ?_)); rfl)
            exact zr_iret X hW dX10_serve_125 (Nat.le_refl _) (Nat.le_refl _) ⟨rfl, rfl, by rw [e9], by rw [e9]⟩
        · refine lv_bipush (v := (-3)) X.1 X.2.1 dX10_serve_66 (by decide) ?_
          have e9 : sp_serve k cl u = ((-3), u_2) := (by show sp_serve1 k cl (zs_fo u) = _; rw [← hu_2]; unfold sp_serve1; (repeat (first | refine (if_pos (by omega)).trans ?_ | refine (if_neg (by omega)).trans ?_)); rfl)
          exact zr_iret X hW dX10_serve_68 (Nat.le_refl _) (Nat.le_refl _) ⟨rfl, rfl, by rw [e9], by rw [e9]⟩
    · subst h9
      have h_5 : ¬ (zs_op u_2 (u_2 12 (zn k)) cl 4) := h_5
      refine zr_if_ne (a := 0) (tgt := 40) X dX10_serve_34 (by decide) (by decide) (fun c9 => absurd c9 (by decide)) (fun _ => ?_)
      refine lv_bipush (v := (-2)) X.1 X.2.1 dX10_serve_37 (by decide) ?_
      have e9 : sp_serve k cl u = ((-2), u_2) := (by show sp_serve1 k cl (zs_fo u) = _; rw [← hu_2]; unfold sp_serve1; (repeat (first | refine (if_pos (by omega)).trans ?_ | refine (if_neg (by omega)).trans ?_)); rfl)
      exact zr_iret X hW dX10_serve_39 (Nat.le_refl _) (Nat.le_refl _) ⟨rfl, rfl, by rw [e9], by rw [e9]⟩
  · subst h9
    have h_4 : ¬ (zs_op u_2 (u_2 3 1) k 2) := h_4
    refine zr_if_ne (a := 0) (tgt := 22) X dX10_serve_16 (by decide) (by decide) (fun c9 => absurd c9 (by decide)) (fun _ => ?_)
    refine lv_bipush (v := (-2)) X.1 X.2.1 dX10_serve_19 (by decide) ?_
    have e9 : sp_serve k cl u = ((-2), u_2) := (by show sp_serve1 k cl (zs_fo u) = _; rw [← hu_2]; unfold sp_serve1; (repeat (first | refine (if_pos (by omega)).trans ?_ | refine (if_neg (by omega)).trans ?_)); rfl)
    exact zr_iret X hW dX10_serve_21 (Nat.le_refl _) (Nat.le_refl _) ⟨rfl, rfl, by rw [e9], by rw [e9]⟩
end
section
/-! the class: its cells by roles. 100 the realm, 101 clocks, 102 ownKeys, 103 book (109 keys, 110 limits, 111 rights, 121 .. 126 its rows), 104 savedBook (112, 113, 114, 127 .. 132), 105 users (115 .. 118, tickets 133, 135 .., sessionKeys 134, 136 ..), 106 service (119 files, 120 cache), 107 seals, 108 stolen; 200 + 2 i the seal i, 201 + 2 i its order -/
def zc_shl : List (Nat × zw_Sh) := [(100, .inl (8, [none, some (some 101), some (some 102), some (some 103), some (some 104), some (some 105), some (some 106), some (some 107), none, some (some 108), none, none])), (101, .inr (0, 6, none)), (102, .inr (0, 6, none)), (103, .inl (0, [some (some 109), some (some 110), some (some 111)])), (104, .inl (0, [some (some 112), some (some 113), some (some 114)])), (105, .inr (4, 4, some (fun i => if i < 4 then some (115 + i) else none))), (106, .inl (2, [some (some 119), some (some 120), none, none])), (108, .inr (1, 200, none)), (109, .inr (0, 6, none)), (110, .inr (0, 6, none)), (111, .inr (5, 6, some (fun i => if i < 6 then some (121 + i) else none))), (112, .inr (0, 6, none)), (113, .inr (0, 6, none)), (114, .inr (5, 6, some (fun i => if i < 6 then some (127 + i) else none))), (115, .inl (7, [none, none, none, none, some (some 133), some (some 134)])), (116, .inl (7, [none, none, none, none, some (some 135), some (some 136)])), (117, .inl (7, [none, none, none, none, some (some 137), some (some 138)])), (118, .inl (7, [none, none, none, none, some (some 139), some (some 140)])), (119, .inr (0, 3, none)), (121, .inr (0, 3, none)), (122, .inr (0, 3, none)), (123, .inr (0, 3, none)), (124, .inr (0, 3, none)), (125, .inr (0, 3, none)), (126, .inr (0, 3, none)), (127, .inr (0, 3, none)), (128, .inr (0, 3, none)), (129, .inr (0, 3, none)), (130, .inr (0, 3, none)), (131, .inr (0, 3, none)), (132, .inr (0, 3, none)), (133, .inr (0, 2, none)), (134, .inr (0, 2, none)), (135, .inr (0, 2, none)), (136, .inr (0, 2, none)), (137, .inr (0, 2, none)), (138, .inr (0, 2, none)), (139, .inr (0, 2, none)), (140, .inr (0, 2, none))]
def zc_S (sh : Nat → Option zw_Sh) : Prop := ∀ q ∈ zc_shl, sh q.1 = some q.2
theorem zc_s100 {sh : Nat → Option zw_Sh} (h : zc_S sh) : sh 100 = some (.inl (8, [none, some (some 101), some (some 102), some (some 103), some (some 104), some (some 105), some (some 106), some (some 107), none, some (some 108), none, none])) := h _ (List.mem_of_getElem? (i := 0) rfl)
theorem zc_s101 {sh : Nat → Option zw_Sh} (h : zc_S sh) : sh 101 = some (.inr (0, 6, none)) := h _ (List.mem_of_getElem? (i := 1) rfl)
theorem zc_s102 {sh : Nat → Option zw_Sh} (h : zc_S sh) : sh 102 = some (.inr (0, 6, none)) := h _ (List.mem_of_getElem? (i := 2) rfl)
theorem zc_s103 {sh : Nat → Option zw_Sh} (h : zc_S sh) : sh 103 = some (.inl (0, [some (some 109), some (some 110), some (some 111)])) := h _ (List.mem_of_getElem? (i := 3) rfl)
theorem zc_s104 {sh : Nat → Option zw_Sh} (h : zc_S sh) : sh 104 = some (.inl (0, [some (some 112), some (some 113), some (some 114)])) := h _ (List.mem_of_getElem? (i := 4) rfl)
theorem zc_s105 {sh : Nat → Option zw_Sh} (h : zc_S sh) : sh 105 = some (.inr (4, 4, some (fun i => if i < 4 then some (115 + i) else none))) := h _ (List.mem_of_getElem? (i := 5) rfl)
theorem zc_s106 {sh : Nat → Option zw_Sh} (h : zc_S sh) : sh 106 = some (.inl (2, [some (some 119), some (some 120), none, none])) := h _ (List.mem_of_getElem? (i := 6) rfl)
theorem zc_s108 {sh : Nat → Option zw_Sh} (h : zc_S sh) : sh 108 = some (.inr (1, 200, none)) := h _ (List.mem_of_getElem? (i := 7) rfl)
theorem zc_s109 {sh : Nat → Option zw_Sh} (h : zc_S sh) : sh 109 = some (.inr (0, 6, none)) := h _ (List.mem_of_getElem? (i := 8) rfl)
theorem zc_s110 {sh : Nat → Option zw_Sh} (h : zc_S sh) : sh 110 = some (.inr (0, 6, none)) := h _ (List.mem_of_getElem? (i := 9) rfl)
theorem zc_s111 {sh : Nat → Option zw_Sh} (h : zc_S sh) : sh 111 = some (.inr (5, 6, some (fun i => if i < 6 then some (121 + i) else none))) := h _ (List.mem_of_getElem? (i := 10) rfl)
theorem zc_s112 {sh : Nat → Option zw_Sh} (h : zc_S sh) : sh 112 = some (.inr (0, 6, none)) := h _ (List.mem_of_getElem? (i := 11) rfl)
theorem zc_s113 {sh : Nat → Option zw_Sh} (h : zc_S sh) : sh 113 = some (.inr (0, 6, none)) := h _ (List.mem_of_getElem? (i := 12) rfl)
theorem zc_s114 {sh : Nat → Option zw_Sh} (h : zc_S sh) : sh 114 = some (.inr (5, 6, some (fun i => if i < 6 then some (127 + i) else none))) := h _ (List.mem_of_getElem? (i := 13) rfl)
theorem zc_s115 {sh : Nat → Option zw_Sh} (h : zc_S sh) : sh 115 = some (.inl (7, [none, none, none, none, some (some 133), some (some 134)])) := h _ (List.mem_of_getElem? (i := 14) rfl)
theorem zc_s116 {sh : Nat → Option zw_Sh} (h : zc_S sh) : sh 116 = some (.inl (7, [none, none, none, none, some (some 135), some (some 136)])) := h _ (List.mem_of_getElem? (i := 15) rfl)
theorem zc_s117 {sh : Nat → Option zw_Sh} (h : zc_S sh) : sh 117 = some (.inl (7, [none, none, none, none, some (some 137), some (some 138)])) := h _ (List.mem_of_getElem? (i := 16) rfl)
theorem zc_s118 {sh : Nat → Option zw_Sh} (h : zc_S sh) : sh 118 = some (.inl (7, [none, none, none, none, some (some 139), some (some 140)])) := h _ (List.mem_of_getElem? (i := 17) rfl)
theorem zc_s119 {sh : Nat → Option zw_Sh} (h : zc_S sh) : sh 119 = some (.inr (0, 3, none)) := h _ (List.mem_of_getElem? (i := 18) rfl)
theorem zc_s121 {sh : Nat → Option zw_Sh} (h : zc_S sh) : sh 121 = some (.inr (0, 3, none)) := h _ (List.mem_of_getElem? (i := 19) rfl)
theorem zc_s122 {sh : Nat → Option zw_Sh} (h : zc_S sh) : sh 122 = some (.inr (0, 3, none)) := h _ (List.mem_of_getElem? (i := 20) rfl)
theorem zc_s123 {sh : Nat → Option zw_Sh} (h : zc_S sh) : sh 123 = some (.inr (0, 3, none)) := h _ (List.mem_of_getElem? (i := 21) rfl)
theorem zc_s124 {sh : Nat → Option zw_Sh} (h : zc_S sh) : sh 124 = some (.inr (0, 3, none)) := h _ (List.mem_of_getElem? (i := 22) rfl)
theorem zc_s125 {sh : Nat → Option zw_Sh} (h : zc_S sh) : sh 125 = some (.inr (0, 3, none)) := h _ (List.mem_of_getElem? (i := 23) rfl)
theorem zc_s126 {sh : Nat → Option zw_Sh} (h : zc_S sh) : sh 126 = some (.inr (0, 3, none)) := h _ (List.mem_of_getElem? (i := 24) rfl)
theorem zc_s127 {sh : Nat → Option zw_Sh} (h : zc_S sh) : sh 127 = some (.inr (0, 3, none)) := h _ (List.mem_of_getElem? (i := 25) rfl)
theorem zc_s128 {sh : Nat → Option zw_Sh} (h : zc_S sh) : sh 128 = some (.inr (0, 3, none)) := h _ (List.mem_of_getElem? (i := 26) rfl)
theorem zc_s129 {sh : Nat → Option zw_Sh} (h : zc_S sh) : sh 129 = some (.inr (0, 3, none)) := h _ (List.mem_of_getElem? (i := 27) rfl)
theorem zc_s130 {sh : Nat → Option zw_Sh} (h : zc_S sh) : sh 130 = some (.inr (0, 3, none)) := h _ (List.mem_of_getElem? (i := 28) rfl)
theorem zc_s131 {sh : Nat → Option zw_Sh} (h : zc_S sh) : sh 131 = some (.inr (0, 3, none)) := h _ (List.mem_of_getElem? (i := 29) rfl)
theorem zc_s132 {sh : Nat → Option zw_Sh} (h : zc_S sh) : sh 132 = some (.inr (0, 3, none)) := h _ (List.mem_of_getElem? (i := 30) rfl)
theorem zc_s133 {sh : Nat → Option zw_Sh} (h : zc_S sh) : sh 133 = some (.inr (0, 2, none)) := h _ (List.mem_of_getElem? (i := 31) rfl)
theorem zc_s134 {sh : Nat → Option zw_Sh} (h : zc_S sh) : sh 134 = some (.inr (0, 2, none)) := h _ (List.mem_of_getElem? (i := 32) rfl)
theorem zc_s135 {sh : Nat → Option zw_Sh} (h : zc_S sh) : sh 135 = some (.inr (0, 2, none)) := h _ (List.mem_of_getElem? (i := 33) rfl)
theorem zc_s136 {sh : Nat → Option zw_Sh} (h : zc_S sh) : sh 136 = some (.inr (0, 2, none)) := h _ (List.mem_of_getElem? (i := 34) rfl)
theorem zc_s137 {sh : Nat → Option zw_Sh} (h : zc_S sh) : sh 137 = some (.inr (0, 2, none)) := h _ (List.mem_of_getElem? (i := 35) rfl)
theorem zc_s138 {sh : Nat → Option zw_Sh} (h : zc_S sh) : sh 138 = some (.inr (0, 2, none)) := h _ (List.mem_of_getElem? (i := 36) rfl)
theorem zc_s139 {sh : Nat → Option zw_Sh} (h : zc_S sh) : sh 139 = some (.inr (0, 2, none)) := h _ (List.mem_of_getElem? (i := 37) rfl)
theorem zc_s140 {sh : Nat → Option zw_Sh} (h : zc_S sh) : sh 140 = some (.inr (0, 2, none)) := h _ (List.mem_of_getElem? (i := 38) rfl)
/-- where the reference keeps the number i of the cell r -/
def zc_lm (r i : Nat) : Option (Nat × Nat) := if r = 100 ∧ i = 0 then some (0, 0) else if r = 100 ∧ i = 8 then some (0, 8) else if r = 100 ∧ i = 10 then some (0, 2) else if r = 100 ∧ i = 11 then some (0, 19) else if r = 101 ∧ i < 6 then some (1, i) else if r = 102 ∧ i < 6 then some (3, i) else if r = 108 ∧ i < 200 then some (4, i) else if r = 109 ∧ i < 6 then some (5, i) else if r = 110 ∧ i < 6 then some (6, i) else if r = 112 ∧ i < 6 then some (5, (6 + i)) else if r = 113 ∧ i < 6 then some (6, (6 + i)) else if 121 ≤ r ∧ r < 127 ∧ i < 3 then some (7, (3 * (r - 121) + i)) else if 127 ≤ r ∧ r < 133 ∧ i < 3 then some (7, (3 * (r - 121) + i)) else if r = 106 ∧ i = 2 then some (0, 28) else if r = 106 ∧ i = 3 then some (0, 27) else if r = 119 ∧ i < 3 then some (26, i) else if 115 ≤ r ∧ r < 119 ∧ i = 0 then some (20, (r - 113)) else if 115 ≤ r ∧ r < 119 ∧ i = 1 then some (21, (r - 113)) else if 115 ≤ r ∧ r < 119 ∧ i = 3 then some (25, (r - 113)) else if (r = 133 ∨ r = 135 ∨ r = 137 ∨ r = 139) ∧ i < 2 then some (23, (r - 129 + i)) else none
def zc_ml (m k : Nat) : Nat × Nat := if m = 0 then (if k = 0 then (100, 0) else if k = 8 then (100, 8) else if k = 2 then (100, 10) else if k = 19 then (100, 11) else if k = 28 then (106, 2) else (106, 3)) else if m = 1 then (101, k) else if m = 3 then (102, k) else if m = 4 then (108, k) else if m = 5 then (if k < 6 then (109, k) else (112, k - 6)) else if m = 6 then (if k < 6 then (110, k) else (113, k - 6)) else if m = 7 then (121 + k / 3, k % 3) else if m = 26 then (119, k) else if m = 20 then (k + 113, 0) else if m = 21 then (k + 113, 1) else if m = 25 then (k + 113, 3) else (133 + 2 * ((k - 4) / 2), k % 2)
theorem zc_inv {r i m k : Nat} (h : zc_lm r i = some (m, k)) : zc_ml m k = (r, i) := by
  unfold zc_lm at h
  by_cases c0 : r = 100 ∧ i = 0
  · rw [if_pos c0] at h; cases h; simp [zc_ml]; first | omega | (split <;> first | omega | (simp; omega))
  rw [if_neg c0] at h
  by_cases c1 : r = 100 ∧ i = 8
  · rw [if_pos c1] at h; cases h; simp [zc_ml]; first | omega | (split <;> first | omega | (simp; omega))
  rw [if_neg c1] at h
  by_cases c2 : r = 100 ∧ i = 10
  · rw [if_pos c2] at h; cases h; simp [zc_ml]; first | omega | (split <;> first | omega | (simp; omega))
  rw [if_neg c2] at h
  by_cases c3 : r = 100 ∧ i = 11
  · rw [if_pos c3] at h; cases h; simp [zc_ml]; first | omega | (split <;> first | omega | (simp; omega))
  rw [if_neg c3] at h
  by_cases c4 : r = 101 ∧ i < 6
  · rw [if_pos c4] at h; cases h; simp [zc_ml]; first | omega | (split <;> first | omega | (simp; omega))
  rw [if_neg c4] at h
  by_cases c5 : r = 102 ∧ i < 6
  · rw [if_pos c5] at h; cases h; simp [zc_ml]; first | omega | (split <;> first | omega | (simp; omega))
  rw [if_neg c5] at h
  by_cases c6 : r = 108 ∧ i < 200
  · rw [if_pos c6] at h; cases h; simp [zc_ml]; first | omega | (split <;> first | omega | (simp; omega))
  rw [if_neg c6] at h
  by_cases c7 : r = 109 ∧ i < 6
  · rw [if_pos c7] at h; cases h; simp [zc_ml]; first | omega | (split <;> first | omega | (simp; omega))
  rw [if_neg c7] at h
  by_cases c8 : r = 110 ∧ i < 6
  · rw [if_pos c8] at h; cases h; simp [zc_ml]; first | omega | (split <;> first | omega | (simp; omega))
  rw [if_neg c8] at h
  by_cases c9 : r = 112 ∧ i < 6
  · rw [if_pos c9] at h; cases h; simp [zc_ml]; first | omega | (split <;> first | omega | (simp; omega))
  rw [if_neg c9] at h
  by_cases c10 : r = 113 ∧ i < 6
  · rw [if_pos c10] at h; cases h; simp [zc_ml]; first | omega | (split <;> first | omega | (simp; omega))
  rw [if_neg c10] at h
  by_cases c11 : 121 ≤ r ∧ r < 127 ∧ i < 3
  · rw [if_pos c11] at h; cases h; simp [zc_ml]; first | omega | (split <;> first | omega | (simp; omega))
  rw [if_neg c11] at h
  by_cases c12 : 127 ≤ r ∧ r < 133 ∧ i < 3
  · rw [if_pos c12] at h; cases h; simp [zc_ml]; first | omega | (split <;> first | omega | (simp; omega))
  rw [if_neg c12] at h
  by_cases c13 : r = 106 ∧ i = 2
  · rw [if_pos c13] at h; cases h; simp [zc_ml]; first | omega | (split <;> first | omega | (simp; omega))
  rw [if_neg c13] at h
  by_cases c14 : r = 106 ∧ i = 3
  · rw [if_pos c14] at h; cases h; simp [zc_ml]; first | omega | (split <;> first | omega | (simp; omega))
  rw [if_neg c14] at h
  by_cases c15 : r = 119 ∧ i < 3
  · rw [if_pos c15] at h; cases h; simp [zc_ml]; first | omega | (split <;> first | omega | (simp; omega))
  rw [if_neg c15] at h
  by_cases c16 : 115 ≤ r ∧ r < 119 ∧ i = 0
  · rw [if_pos c16] at h; cases h; simp [zc_ml]; first | omega | (split <;> first | omega | (simp; omega))
  rw [if_neg c16] at h
  by_cases c17 : 115 ≤ r ∧ r < 119 ∧ i = 1
  · rw [if_pos c17] at h; cases h; simp [zc_ml]; first | omega | (split <;> first | omega | (simp; omega))
  rw [if_neg c17] at h
  by_cases c18 : 115 ≤ r ∧ r < 119 ∧ i = 3
  · rw [if_pos c18] at h; cases h; simp [zc_ml]; first | omega | (split <;> first | omega | (simp; omega))
  rw [if_neg c18] at h
  by_cases c19 : (r = 133 ∨ r = 135 ∨ r = 137 ∨ r = 139) ∧ i < 2
  · rw [if_pos c19] at h; cases h; simp [zc_ml]; first | omega | (split <;> first | omega | (simp; omega))
  rw [if_neg c19] at h
  cases h
/-- the numbers agree -/
def zc_N (g u : zm_T) : Prop := ∀ r i m k, zc_lm r i = some (m, k) → g r i = u m k
theorem zc_Nw {g u : zm_T} (h : zc_N g u) {r i m k : Nat} (hl : zc_lm r i = some (m, k)) (x : Int32) : zc_N (zm_w g r i x) (zm_w u m k x) := by
  intro r' i' m' k' hl'
  by_cases hq : m' = m ∧ k' = k
  · obtain ⟨rfl, rfl⟩ := hq
    have e := (zc_inv hl).symm.trans (zc_inv hl')
    cases e
    rw [zm_ws, zm_ws]
  · have hne : r' ≠ r ∨ i' ≠ i := by
      by_cases h1 : r' = r
      · right
        intro h2
        subst h1; subst h2
        rw [hl] at hl'
        cases hl'
        exact hq ⟨rfl, rfl⟩
      · exact Or.inl h1
    rw [zm_wn _ _ hne, zm_wn _ _ (by by_cases h1 : m' = m; exact Or.inr (fun h2 => hq ⟨h1, h2⟩); exact Or.inl h1)]
    exact h r' i' m' k' hl'
theorem zc_Nc {g u : zm_T} (h : zc_N g u) {r i : Nat} (hl : zc_lm r i = none) (x : Int32) : zc_N (zm_w g r i x) u := by
  intro r' i' m' k' hl'
  have hne : r' ≠ r ∨ i' ≠ i := by
    by_cases h1 : r' = r
    · right
      intro h2
      subst h1; subst h2
      rw [hl] at hl'
      cases hl'
    · exact Or.inl h1
  rw [zm_wn _ _ hne]
  exact h r' i' m' k' hl'
theorem zc_Nm {g u : zm_T} (h : zc_N g u) {m k : Nat} (hl : ∀ r i, zc_lm r i ≠ some (m, k)) (x : Int32) : zc_N g (zm_w u m k x) := by
  intro r' i' m' k' hl'
  rw [zm_wn _ _ (by by_cases h1 : m' = m; (subst h1; exact Or.inr (fun h2 => by subst h2; exact hl _ _ hl')); exact Or.inl h1)]
  exact h r' i' m' k' hl'
/-- the seal i: its cell, its numbers -/
def zc_sl (sh : Nat → Option zw_Sh) (g u : zm_T) (i : Nat) : Prop :=
  ((u 9 i).toInt = 1 → sh (200 + 2 * i) = some (.inl (5, [none, none, none])) ∧ g (200 + 2 * i) 0 = u 10 i ∧ g (200 + 2 * i) 1 = u 11 i ∧ g (200 + 2 * i) 2 = u 13 i) ∧
  ((u 9 i).toInt = 2 → sh (200 + 2 * i) = some (.inl (6, [none, none, none, none, none, none])) ∧ g (200 + 2 * i) 0 = u 10 i ∧ g (200 + 2 * i) 1 = u 11 i ∧ g (200 + 2 * i) 2 = u 12 i ∧ g (200 + 2 * i) 3 = u 13 i ∧ g (200 + 2 * i) 4 = u 14 i ∧ g (200 + 2 * i) 5 = u 15 i) ∧
  ((u 9 i).toInt = 3 → sh (200 + 2 * i) = some (.inl (4, [none, none, none, none, none])) ∧ g (200 + 2 * i) 0 = u 10 i ∧ g (200 + 2 * i) 1 = u 12 i ∧ g (200 + 2 * i) 2 = u 13 i ∧ g (200 + 2 * i) 3 = u 14 i ∧ g (200 + 2 * i) 4 = u 15 i) ∧
  ((u 9 i).toInt = 4 → sh (200 + 2 * i) = some (.inl (1, [none, none, none, none, some (some (201 + 2 * i))])) ∧ sh (201 + 2 * i) = some (.inl (3, [none, none, none])) ∧ g (200 + 2 * i) 0 = u 10 i ∧ g (200 + 2 * i) 1 = u 11 i ∧ g (200 + 2 * i) 2 = u 13 i ∧ g (200 + 2 * i) 3 = u 14 i ∧ g (201 + 2 * i) 0 = u 16 i ∧ g (201 + 2 * i) 1 = u 17 i ∧ g (201 + 2 * i) 2 = u 18 i)
def zc_sf (n : Nat) : Nat → Option Nat := fun i => if i < n then some (200 + 2 * i) else none
/-- the class's cells and numbers are those of the reference's memory u -/
def zc_R (sh : Nat → Option zw_Sh) (g u : zm_T) : Prop := zc_S sh ∧ zc_N g u ∧
  (∀ j : Nat, j < 4 → ¬ (u 20 (j + 2)).toInt = 0 → g (115 + j) 2 = u 22 (j + 2)) ∧ (∀ j t : Nat, j < 4 → t < 2 → ¬ (u 23 (2 * j + 4 + t)).toInt = -1 → g (134 + 2 * j) t = u 24 (2 * j + 4 + t)) ∧
  sh 107 = some (.inr (3, 150, some (zc_sf (zn (u 0 8))))) ∧ (∀ i : Nat, i < zn (u 0 8) → zc_sl sh g u i) ∧ (∀ r : Nat, 200 + 2 * zn (u 0 8) ≤ r → sh r = none) ∧
  ∃ cf : Nat → Option Nat, sh 120 = some (.inr (2, 12, some cf)) ∧ ∀ j : Nat, j < zn (u 0 28) → cf j = some (200 + 2 * zn (u 29 j))
theorem zr_S {sh : Nat → Option zw_Sh} {g u : zm_T} (h : zc_R sh g u) : zc_S sh := h.1
theorem zr_N {sh : Nat → Option zw_Sh} {g u : zm_T} (h : zc_R sh g u) {r i m k : Nat} (hl : zc_lm r i = some (m, k)) : g r i = u m k := h.2.1 r i m k hl
end
