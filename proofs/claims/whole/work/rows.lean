section
-- ===== PART A: goes FIRST, ahead of the names: the tables' words, and 'selects' of the private methods out of them =====
/-- a private method of a class that the tables say can be made, by its rows of tables_1 -/
def lw_okq (q : MethodName × Nat) : Prop := (q.1.cls ≠ "java/lang/invoke/MethodHandle" ∧ q.1.cls ≠ "java/lang/invoke/VarHandle") ∧ Cond.instantiable q.1.cls q.2 ∈ tables_1 ∧ Cond.privateMethod q.1 ∈ tables_1 ∧ Cond.instanceMethod q.1 ∈ tables_1
theorem lw_p0 : lw_okq (⟨"ChannelledLink", "stationAt", "(I)LChannelledLink$Station;"⟩, 1) := ⟨⟨by decide +kernel, by decide +kernel⟩, List.mem_of_getElem? (i := 18) (by decide +kernel), List.mem_of_getElem? (i := 141) (by decide +kernel), List.mem_of_getElem? (i := 142) (by decide +kernel)⟩
theorem lw_p1 : lw_okq (⟨"java/lang/Throwable", "fillInStackTrace", "(I)Ljava/lang/Throwable;"⟩, 6) := ⟨⟨by decide +kernel, by decide +kernel⟩, List.mem_of_getElem? (i := 184) (by decide +kernel), List.mem_of_getElem? (i := 182) (by decide +kernel), List.mem_of_getElem? (i := 183) (by decide +kernel)⟩
theorem lw_p2 : lw_okq (⟨"ChannelledLink$Station", "cleanAs", "(I)V"⟩, 10) := ⟨⟨by decide +kernel, by decide +kernel⟩, List.mem_of_getElem? (i := 44) (by decide +kernel), List.mem_of_getElem? (i := 218) (by decide +kernel), List.mem_of_getElem? (i := 219) (by decide +kernel)⟩
theorem lw_p3 : lw_okq (⟨"ChannelledLink$Station", "sendUnnumbered", "(I)V"⟩, 10) := ⟨⟨by decide +kernel, by decide +kernel⟩, List.mem_of_getElem? (i := 44) (by decide +kernel), List.mem_of_getElem? (i := 226) (by decide +kernel), List.mem_of_getElem? (i := 227) (by decide +kernel)⟩
theorem lw_p4 : lw_okq (⟨"ChannelledLink$Station", "unconfirmed", "()I"⟩, 10) := ⟨⟨by decide +kernel, by decide +kernel⟩, List.mem_of_getElem? (i := 44) (by decide +kernel), List.mem_of_getElem? (i := 249) (by decide +kernel), List.mem_of_getElem? (i := 250) (by decide +kernel)⟩
theorem lw_p5 : lw_okq (⟨"ChannelledLink$Station", "giveUp", "()V"⟩, 10) := ⟨⟨by decide +kernel, by decide +kernel⟩, List.mem_of_getElem? (i := 44) (by decide +kernel), List.mem_of_getElem? (i := 276) (by decide +kernel), List.mem_of_getElem? (i := 277) (by decide +kernel)⟩
theorem lw_p6 : lw_okq (⟨"ChannelledLink$Station", "sendUnconfirmed", "()V"⟩, 10) := ⟨⟨by decide +kernel, by decide +kernel⟩, List.mem_of_getElem? (i := 44) (by decide +kernel), List.mem_of_getElem? (i := 281) (by decide +kernel), List.mem_of_getElem? (i := 282) (by decide +kernel)⟩
theorem lw_p7 : lw_okq (⟨"ChannelledLink$Station", "hearSetup", "()V"⟩, 10) := ⟨⟨by decide +kernel, by decide +kernel⟩, List.mem_of_getElem? (i := 44) (by decide +kernel), List.mem_of_getElem? (i := 337) (by decide +kernel), List.mem_of_getElem? (i := 338) (by decide +kernel)⟩
theorem lw_p8 : lw_okq (⟨"ChannelledLink$Station", "hearAgreed", "()V"⟩, 10) := ⟨⟨by decide +kernel, by decide +kernel⟩, List.mem_of_getElem? (i := 44) (by decide +kernel), List.mem_of_getElem? (i := 341) (by decide +kernel), List.mem_of_getElem? (i := 342) (by decide +kernel)⟩
theorem lw_p9 : lw_okq (⟨"ChannelledLink$Station", "confirm", "(I)V"⟩, 10) := ⟨⟨by decide +kernel, by decide +kernel⟩, List.mem_of_getElem? (i := 44) (by decide +kernel), List.mem_of_getElem? (i := 348) (by decide +kernel), List.mem_of_getElem? (i := 349) (by decide +kernel)⟩
theorem lw_p10 : lw_okq (⟨"ChannelledLink$Station", "hearCarrier", "(I)V"⟩, 10) := ⟨⟨by decide +kernel, by decide +kernel⟩, List.mem_of_getElem? (i := 44) (by decide +kernel), List.mem_of_getElem? (i := 356) (by decide +kernel), List.mem_of_getElem? (i := 357) (by decide +kernel)⟩
theorem lw_p11 : lw_okq (⟨"ChannelledLink$Station", "rejectOnce", "()V"⟩, 10) := ⟨⟨by decide +kernel, by decide +kernel⟩, List.mem_of_getElem? (i := 44) (by decide +kernel), List.mem_of_getElem? (i := 363) (by decide +kernel), List.mem_of_getElem? (i := 364) (by decide +kernel)⟩
theorem lw_p12 : lw_okq (⟨"ChannelledLink$Station", "sendAcknowledging", "(I)V"⟩, 10) := ⟨⟨by decide +kernel, by decide +kernel⟩, List.mem_of_getElem? (i := 44) (by decide +kernel), List.mem_of_getElem? (i := 367) (by decide +kernel), List.mem_of_getElem? (i := 368) (by decide +kernel)⟩
theorem lw_p13 : lw_okq (⟨"ChannelledLink$Channel", "answerToCall", "()I"⟩, 7) := ⟨⟨by decide +kernel, by decide +kernel⟩, List.mem_of_getElem? (i := 53) (by decide +kernel), List.mem_of_getElem? (i := 392) (by decide +kernel), List.mem_of_getElem? (i := 393) (by decide +kernel)⟩
theorem lw_p14 : lw_okq (⟨"ChannelledLink$Channel", "renewFrom", "(II)I"⟩, 7) := ⟨⟨by decide +kernel, by decide +kernel⟩, List.mem_of_getElem? (i := 53) (by decide +kernel), List.mem_of_getElem? (i := 397) (by decide +kernel), List.mem_of_getElem? (i := 398) (by decide +kernel)⟩
theorem lw_p15 : lw_okq (⟨"ChannelledLink$Channel", "answerToClear", "()I"⟩, 7) := ⟨⟨by decide +kernel, by decide +kernel⟩, List.mem_of_getElem? (i := 53) (by decide +kernel), List.mem_of_getElem? (i := 401) (by decide +kernel), List.mem_of_getElem? (i := 402) (by decide +kernel)⟩
def lw_privs_1 : List (MethodName × Nat) := [(⟨"ChannelledLink", "stationAt", "(I)LChannelledLink$Station;"⟩, 1), (⟨"java/lang/Throwable", "fillInStackTrace", "(I)Ljava/lang/Throwable;"⟩, 6), (⟨"ChannelledLink$Station", "cleanAs", "(I)V"⟩, 10), (⟨"ChannelledLink$Station", "sendUnnumbered", "(I)V"⟩, 10), (⟨"ChannelledLink$Station", "unconfirmed", "()I"⟩, 10), (⟨"ChannelledLink$Station", "giveUp", "()V"⟩, 10), (⟨"ChannelledLink$Station", "sendUnconfirmed", "()V"⟩, 10), (⟨"ChannelledLink$Station", "hearSetup", "()V"⟩, 10), (⟨"ChannelledLink$Station", "hearAgreed", "()V"⟩, 10), (⟨"ChannelledLink$Station", "confirm", "(I)V"⟩, 10), (⟨"ChannelledLink$Station", "hearCarrier", "(I)V"⟩, 10), (⟨"ChannelledLink$Station", "rejectOnce", "()V"⟩, 10), (⟨"ChannelledLink$Station", "sendAcknowledging", "(I)V"⟩, 10), (⟨"ChannelledLink$Channel", "answerToCall", "()I"⟩, 7), (⟨"ChannelledLink$Channel", "renewFrom", "(II)I"⟩, 7), (⟨"ChannelledLink$Channel", "answerToClear", "()I"⟩, 7)]
theorem lw_r1 : ∀ q ∈ lw_privs_1, lw_okq q := List.forall_mem_cons.mpr ⟨lw_p0, List.forall_mem_cons.mpr ⟨lw_p1, List.forall_mem_cons.mpr ⟨lw_p2, List.forall_mem_cons.mpr ⟨lw_p3, List.forall_mem_cons.mpr ⟨lw_p4, List.forall_mem_cons.mpr ⟨lw_p5, List.forall_mem_cons.mpr ⟨lw_p6, List.forall_mem_cons.mpr ⟨lw_p7, List.forall_mem_cons.mpr ⟨lw_p8, List.forall_mem_cons.mpr ⟨lw_p9, List.forall_mem_cons.mpr ⟨lw_p10, List.forall_mem_cons.mpr ⟨lw_p11, List.forall_mem_cons.mpr ⟨lw_p12, List.forall_mem_cons.mpr ⟨lw_p13, List.forall_mem_cons.mpr ⟨lw_p14, List.forall_mem_cons.mpr ⟨lw_p15, fun _ h => absurd h List.not_mem_nil⟩⟩⟩⟩⟩⟩⟩⟩⟩⟩⟩⟩⟩⟩⟩⟩
theorem lw_p16 : lw_okq (⟨"ChannelledLink$Channel", "answerToFlow", "(I)I"⟩, 7) := ⟨⟨by decide +kernel, by decide +kernel⟩, List.mem_of_getElem? (i := 53) (by decide +kernel), List.mem_of_getElem? (i := 405) (by decide +kernel), List.mem_of_getElem? (i := 406) (by decide +kernel)⟩
theorem lw_p17 : lw_okq (⟨"ChannelledLink$Channel", "answerToReset", "()I"⟩, 7) := ⟨⟨by decide +kernel, by decide +kernel⟩, List.mem_of_getElem? (i := 53) (by decide +kernel), List.mem_of_getElem? (i := 421) (by decide +kernel), List.mem_of_getElem? (i := 422) (by decide +kernel)⟩
theorem lw_p18 : lw_okq (⟨"ChannelledLink$Station", "pump", "()V"⟩, 10) := ⟨⟨by decide +kernel, by decide +kernel⟩, List.mem_of_getElem? (i := 44) (by decide +kernel), List.mem_of_getElem? (i := 435) (by decide +kernel), List.mem_of_getElem? (i := 436) (by decide +kernel)⟩
theorem lw_p19 : lw_okq (⟨"ChannelledLinkModel", "takeFrame", "(I)I"⟩, 29) := ⟨⟨by decide +kernel, by decide +kernel⟩, List.mem_of_getElem? (i := 583) (by decide +kernel), List.mem_of_getElem? (i := 689) (by decide +kernel), List.mem_of_getElem? (i := 690) (by decide +kernel)⟩
theorem lw_p20 : lw_okq (⟨"ChannelledLinkModel", "hearLink", "(II)V"⟩, 29) := ⟨⟨by decide +kernel, by decide +kernel⟩, List.mem_of_getElem? (i := 583) (by decide +kernel), List.mem_of_getElem? (i := 693) (by decide +kernel), List.mem_of_getElem? (i := 694) (by decide +kernel)⟩
theorem lw_p21 : lw_okq (⟨"ChannelledLinkModel", "clean", "(I)V"⟩, 29) := ⟨⟨by decide +kernel, by decide +kernel⟩, List.mem_of_getElem? (i := 583) (by decide +kernel), List.mem_of_getElem? (i := 697) (by decide +kernel), List.mem_of_getElem? (i := 698) (by decide +kernel)⟩
theorem lw_p22 : lw_okq (⟨"ChannelledLinkModel", "renew", "(I)V"⟩, 29) := ⟨⟨by decide +kernel, by decide +kernel⟩, List.mem_of_getElem? (i := 583) (by decide +kernel), List.mem_of_getElem? (i := 701) (by decide +kernel), List.mem_of_getElem? (i := 702) (by decide +kernel)⟩
theorem lw_p23 : lw_okq (⟨"ChannelledLinkModel", "transmit", "(IIIII)V"⟩, 29) := ⟨⟨by decide +kernel, by decide +kernel⟩, List.mem_of_getElem? (i := 583) (by decide +kernel), List.mem_of_getElem? (i := 705) (by decide +kernel), List.mem_of_getElem? (i := 706) (by decide +kernel)⟩
theorem lw_p24 : lw_okq (⟨"ChannelledLinkModel", "setUp", "(I)V"⟩, 29) := ⟨⟨by decide +kernel, by decide +kernel⟩, List.mem_of_getElem? (i := 583) (by decide +kernel), List.mem_of_getElem? (i := 709) (by decide +kernel), List.mem_of_getElem? (i := 710) (by decide +kernel)⟩
theorem lw_p25 : lw_okq (⟨"ChannelledLinkModel", "confirm", "(II)V"⟩, 29) := ⟨⟨by decide +kernel, by decide +kernel⟩, List.mem_of_getElem? (i := 583) (by decide +kernel), List.mem_of_getElem? (i := 713) (by decide +kernel), List.mem_of_getElem? (i := 714) (by decide +kernel)⟩
theorem lw_p26 : lw_okq (⟨"ChannelledLinkModel", "unconfirmed", "(I)I"⟩, 29) := ⟨⟨by decide +kernel, by decide +kernel⟩, List.mem_of_getElem? (i := 583) (by decide +kernel), List.mem_of_getElem? (i := 720) (by decide +kernel), List.mem_of_getElem? (i := 721) (by decide +kernel)⟩
theorem lw_p27 : lw_okq (⟨"ChannelledLinkModel", "again", "(I)V"⟩, 29) := ⟨⟨by decide +kernel, by decide +kernel⟩, List.mem_of_getElem? (i := 583) (by decide +kernel), List.mem_of_getElem? (i := 724) (by decide +kernel), List.mem_of_getElem? (i := 725) (by decide +kernel)⟩
theorem lw_p28 : lw_okq (⟨"ChannelledLinkModel", "carry", "(II)V"⟩, 29) := ⟨⟨by decide +kernel, by decide +kernel⟩, List.mem_of_getElem? (i := 583) (by decide +kernel), List.mem_of_getElem? (i := 728) (by decide +kernel), List.mem_of_getElem? (i := 729) (by decide +kernel)⟩
theorem lw_p29 : lw_okq (⟨"ChannelledLinkModel", "hearCarrier", "(IIIIIII)V"⟩, 29) := ⟨⟨by decide +kernel, by decide +kernel⟩, List.mem_of_getElem? (i := 583) (by decide +kernel), List.mem_of_getElem? (i := 732) (by decide +kernel), List.mem_of_getElem? (i := 733) (by decide +kernel)⟩
theorem lw_p30 : lw_okq (⟨"ChannelledLinkModel", "hear", "(IIIIII)V"⟩, 29) := ⟨⟨by decide +kernel, by decide +kernel⟩, List.mem_of_getElem? (i := 583) (by decide +kernel), List.mem_of_getElem? (i := 739) (by decide +kernel), List.mem_of_getElem? (i := 740) (by decide +kernel)⟩
theorem lw_p31 : lw_okq (⟨"ChannelledLinkModel", "idle", "(I)V"⟩, 29) := ⟨⟨by decide +kernel, by decide +kernel⟩, List.mem_of_getElem? (i := 583) (by decide +kernel), List.mem_of_getElem? (i := 743) (by decide +kernel), List.mem_of_getElem? (i := 744) (by decide +kernel)⟩
def lw_privs_2 : List (MethodName × Nat) := [(⟨"ChannelledLink$Channel", "answerToFlow", "(I)I"⟩, 7), (⟨"ChannelledLink$Channel", "answerToReset", "()I"⟩, 7), (⟨"ChannelledLink$Station", "pump", "()V"⟩, 10), (⟨"ChannelledLinkModel", "takeFrame", "(I)I"⟩, 29), (⟨"ChannelledLinkModel", "hearLink", "(II)V"⟩, 29), (⟨"ChannelledLinkModel", "clean", "(I)V"⟩, 29), (⟨"ChannelledLinkModel", "renew", "(I)V"⟩, 29), (⟨"ChannelledLinkModel", "transmit", "(IIIII)V"⟩, 29), (⟨"ChannelledLinkModel", "setUp", "(I)V"⟩, 29), (⟨"ChannelledLinkModel", "confirm", "(II)V"⟩, 29), (⟨"ChannelledLinkModel", "unconfirmed", "(I)I"⟩, 29), (⟨"ChannelledLinkModel", "again", "(I)V"⟩, 29), (⟨"ChannelledLinkModel", "carry", "(II)V"⟩, 29), (⟨"ChannelledLinkModel", "hearCarrier", "(IIIIIII)V"⟩, 29), (⟨"ChannelledLinkModel", "hear", "(IIIIII)V"⟩, 29), (⟨"ChannelledLinkModel", "idle", "(I)V"⟩, 29)]
theorem lw_r2 : ∀ q ∈ lw_privs_2, lw_okq q := List.forall_mem_cons.mpr ⟨lw_p16, List.forall_mem_cons.mpr ⟨lw_p17, List.forall_mem_cons.mpr ⟨lw_p18, List.forall_mem_cons.mpr ⟨lw_p19, List.forall_mem_cons.mpr ⟨lw_p20, List.forall_mem_cons.mpr ⟨lw_p21, List.forall_mem_cons.mpr ⟨lw_p22, List.forall_mem_cons.mpr ⟨lw_p23, List.forall_mem_cons.mpr ⟨lw_p24, List.forall_mem_cons.mpr ⟨lw_p25, List.forall_mem_cons.mpr ⟨lw_p26, List.forall_mem_cons.mpr ⟨lw_p27, List.forall_mem_cons.mpr ⟨lw_p28, List.forall_mem_cons.mpr ⟨lw_p29, List.forall_mem_cons.mpr ⟨lw_p30, List.forall_mem_cons.mpr ⟨lw_p31, fun _ h => absurd h List.not_mem_nil⟩⟩⟩⟩⟩⟩⟩⟩⟩⟩⟩⟩⟩⟩⟩⟩
theorem lw_p32 : lw_okq (⟨"ChannelledLinkModel", "post", "(IIIIII)V"⟩, 29) := ⟨⟨by decide +kernel, by decide +kernel⟩, List.mem_of_getElem? (i := 583) (by decide +kernel), List.mem_of_getElem? (i := 747) (by decide +kernel), List.mem_of_getElem? (i := 748) (by decide +kernel)⟩
theorem lw_p33 : lw_okq (⟨"ChannelledLinkModel", "pump", "(I)V"⟩, 29) := ⟨⟨by decide +kernel, by decide +kernel⟩, List.mem_of_getElem? (i := 583) (by decide +kernel), List.mem_of_getElem? (i := 751) (by decide +kernel), List.mem_of_getElem? (i := 752) (by decide +kernel)⟩
theorem lw_p34 : lw_okq (⟨"ChannelledLinkModel", "move", "(IIIIII)V"⟩, 29) := ⟨⟨by decide +kernel, by decide +kernel⟩, List.mem_of_getElem? (i := 583) (by decide +kernel), List.mem_of_getElem? (i := 755) (by decide +kernel), List.mem_of_getElem? (i := 756) (by decide +kernel)⟩
theorem lw_p35 : lw_okq (⟨"ChannelledLinkModel", "bars", "(III)I"⟩, 29) := ⟨⟨by decide +kernel, by decide +kernel⟩, List.mem_of_getElem? (i := 583) (by decide +kernel), List.mem_of_getElem? (i := 782) (by decide +kernel), List.mem_of_getElem? (i := 783) (by decide +kernel)⟩
theorem lw_p36 : lw_okq (⟨"ChannelledLinkModel", "become", "(IIII)V"⟩, 29) := ⟨⟨by decide +kernel, by decide +kernel⟩, List.mem_of_getElem? (i := 583) (by decide +kernel), List.mem_of_getElem? (i := 786) (by decide +kernel), List.mem_of_getElem? (i := 787) (by decide +kernel)⟩
def lw_privs_3 : List (MethodName × Nat) := [(⟨"ChannelledLinkModel", "post", "(IIIIII)V"⟩, 29), (⟨"ChannelledLinkModel", "pump", "(I)V"⟩, 29), (⟨"ChannelledLinkModel", "move", "(IIIIII)V"⟩, 29), (⟨"ChannelledLinkModel", "bars", "(III)I"⟩, 29), (⟨"ChannelledLinkModel", "become", "(IIII)V"⟩, 29)]
theorem lw_r3 : ∀ q ∈ lw_privs_3, lw_okq q := List.forall_mem_cons.mpr ⟨lw_p32, List.forall_mem_cons.mpr ⟨lw_p33, List.forall_mem_cons.mpr ⟨lw_p34, List.forall_mem_cons.mpr ⟨lw_p35, List.forall_mem_cons.mpr ⟨lw_p36, fun _ h => absurd h List.not_mem_nil⟩⟩⟩⟩⟩
def lw_privs : List (MethodName × Nat) := lw_privs_1 ++ (lw_privs_2 ++ (lw_privs_3))
def lw_tbl : List Cond := k2_sels lw_privs ++ tables_1
theorem lw_privs_ok : ∀ q ∈ lw_privs, lw_okq q := by
  show ∀ q ∈ lw_privs_1 ++ (lw_privs_2 ++ (lw_privs_3)), lw_okq q
  exact List.forall_mem_append.mpr ⟨lw_r1, List.forall_mem_append.mpr ⟨lw_r2, lw_r3⟩⟩
end
section
/-! the methods' names -/
abbrev yCl_init : MethodName := ⟨"ChannelledLink", "<init>", "()V"⟩
abbrev yOb_init : MethodName := ⟨"java/lang/Object", "<init>", "()V"⟩
abbrev yRw_init : MethodName := ⟨"ChannelledLink$Row", "<init>", "(I)V"⟩
abbrev ySt_init : MethodName := ⟨"ChannelledLink$Station", "<init>", "(ZLChannelledLink$Row;LChannelledLink$Row;)V"⟩
abbrev yCh_init : MethodName := ⟨"ChannelledLink$Channel", "<init>", "(Z)V"⟩
abbrev yLw_open : MethodName := ⟨"ChannelledLinkLaw", "open", "(LChannelledLink;I)I"⟩
abbrev yCl_open : MethodName := ⟨"ChannelledLink", "open", "(I)V"⟩
abbrev yCl_stationAt : MethodName := ⟨"ChannelledLink", "stationAt", "(I)LChannelledLink$Station;"⟩
abbrev yRt_init : MethodName := ⟨"java/lang/RuntimeException", "<init>", "()V"⟩
abbrev yRt_init2 : MethodName := ⟨"java/lang/RuntimeException", "<init>", "(Ljava/lang/String;)V"⟩
abbrev yEx_init : MethodName := ⟨"java/lang/Exception", "<init>", "()V"⟩
abbrev yEx_init2 : MethodName := ⟨"java/lang/Exception", "<init>", "(Ljava/lang/String;)V"⟩
abbrev yTh_init : MethodName := ⟨"java/lang/Throwable", "<init>", "()V"⟩
abbrev yTh_init2 : MethodName := ⟨"java/lang/Throwable", "<init>", "(Ljava/lang/String;)V"⟩
abbrev yTh_fillInStackTrace : MethodName := ⟨"java/lang/Throwable", "fillInStackTrace", "(I)Ljava/lang/Throwable;"⟩
abbrev yTh_fillInStackTrace2 : MethodName := ⟨"java/lang/Throwable", "fillInStackTrace", "()Ljava/lang/Throwable;"⟩
abbrev yIo_init : MethodName := ⟨"java/lang/IndexOutOfBoundsException", "<init>", "(Ljava/lang/String;)V"⟩
abbrev ySt_setUp : MethodName := ⟨"ChannelledLink$Station", "setUp", "()V"⟩
abbrev ySt_cleanAs : MethodName := ⟨"ChannelledLink$Station", "cleanAs", "(I)V"⟩
abbrev yCh_renewAs : MethodName := ⟨"ChannelledLink$Channel", "renewAs", "(I)V"⟩
abbrev ySt_sendUnnumbered : MethodName := ⟨"ChannelledLink$Station", "sendUnnumbered", "(I)V"⟩
abbrev yFr_of : MethodName := ⟨"ChannelledLink$Frame", "of", "(IIII)I"⟩
abbrev yRw_add : MethodName := ⟨"ChannelledLink$Row", "add", "(I)V"⟩
abbrev yLw_expire : MethodName := ⟨"ChannelledLinkLaw", "expire", "(LChannelledLink;I[J)I"⟩
abbrev yCl_expire : MethodName := ⟨"ChannelledLink", "expire", "(I)I"⟩
abbrev ySt_waitsForAnswer : MethodName := ⟨"ChannelledLink$Station", "waitsForAnswer", "()Z"⟩
abbrev ySt_unconfirmed : MethodName := ⟨"ChannelledLink$Station", "unconfirmed", "()I"⟩
abbrev yCl_requireState : MethodName := ⟨"ChannelledLink", "requireState", "(Z)V"⟩
abbrev yIs_init : MethodName := ⟨"java/lang/IllegalStateException", "<init>", "(Ljava/lang/String;)V"⟩
abbrev ySt_tryAgain : MethodName := ⟨"ChannelledLink$Station", "tryAgain", "()I"⟩
abbrev ySt_giveUp : MethodName := ⟨"ChannelledLink$Station", "giveUp", "()V"⟩
abbrev ySt_sendUnconfirmed : MethodName := ⟨"ChannelledLink$Station", "sendUnconfirmed", "()V"⟩
abbrev yRw_at : MethodName := ⟨"ChannelledLink$Row", "at", "(I)I"⟩
abbrev yCl_after : MethodName := ⟨"ChannelledLink", "after", "(I)I"⟩
abbrev yLw_deliver : MethodName := ⟨"ChannelledLinkLaw", "deliver", "(LChannelledLink;I[J)I"⟩
abbrev yCl_deliver : MethodName := ⟨"ChannelledLink", "deliver", "(I)I"⟩
abbrev yCl_takeFrame : MethodName := ⟨"ChannelledLink", "takeFrame", "(LChannelledLink$Row;)I"⟩
abbrev yCl_requireElement : MethodName := ⟨"ChannelledLink", "requireElement", "(LChannelledLink$Row;)V"⟩
abbrev yNs_init : MethodName := ⟨"java/util/NoSuchElementException", "<init>", "(Ljava/lang/String;)V"⟩
abbrev yRw_drop : MethodName := ⟨"ChannelledLink$Row", "drop", "(I)V"⟩
abbrev ySy_arraycopy : MethodName := ⟨"java/lang/System", "arraycopy", "(Ljava/lang/Object;ILjava/lang/Object;II)V"⟩
abbrev ySt_hearFrame : MethodName := ⟨"ChannelledLink$Station", "hearFrame", "(I)V"⟩
abbrev yFr_kindOf : MethodName := ⟨"ChannelledLink$Frame", "kindOf", "(I)I"⟩
abbrev ySt_hearSetup : MethodName := ⟨"ChannelledLink$Station", "hearSetup", "()V"⟩
abbrev ySt_hearAgreed : MethodName := ⟨"ChannelledLink$Station", "hearAgreed", "()V"⟩
abbrev yFr_acknowledgementOf : MethodName := ⟨"ChannelledLink$Frame", "acknowledgementOf", "(I)I"⟩
abbrev ySt_confirm : MethodName := ⟨"ChannelledLink$Station", "confirm", "(I)V"⟩
abbrev yCl_distance : MethodName := ⟨"ChannelledLink", "distance", "(II)I"⟩
abbrev ySt_hearCarrier : MethodName := ⟨"ChannelledLink$Station", "hearCarrier", "(I)V"⟩
abbrev yFr_numberOf : MethodName := ⟨"ChannelledLink$Frame", "numberOf", "(I)I"⟩
abbrev ySt_rejectOnce : MethodName := ⟨"ChannelledLink$Station", "rejectOnce", "()V"⟩
abbrev ySt_sendAcknowledging : MethodName := ⟨"ChannelledLink$Station", "sendAcknowledging", "(I)V"⟩
abbrev yFr_packetOf : MethodName := ⟨"ChannelledLink$Frame", "packetOf", "(I)I"⟩
abbrev ySt_hearPacket : MethodName := ⟨"ChannelledLink$Station", "hearPacket", "(I)V"⟩
abbrev yPk_channelOf : MethodName := ⟨"ChannelledLink$Packet", "channelOf", "(I)I"⟩
abbrev yCl_isChannel : MethodName := ⟨"ChannelledLink", "isChannel", "(I)Z"⟩
abbrev yCh_answerTo : MethodName := ⟨"ChannelledLink$Channel", "answerTo", "(I)I"⟩
abbrev yPk_kindOf : MethodName := ⟨"ChannelledLink$Packet", "kindOf", "(I)I"⟩
abbrev yCh_answerToCall : MethodName := ⟨"ChannelledLink$Channel", "answerToCall", "()I"⟩
abbrev yCh_renewFrom : MethodName := ⟨"ChannelledLink$Channel", "renewFrom", "(II)I"⟩
abbrev yCh_answerToClear : MethodName := ⟨"ChannelledLink$Channel", "answerToClear", "()I"⟩
abbrev yCh_answerToFlow : MethodName := ⟨"ChannelledLink$Channel", "answerToFlow", "(I)I"⟩
abbrev yPk_acknowledgementOf : MethodName := ⟨"ChannelledLink$Packet", "acknowledgementOf", "(I)I"⟩
abbrev yPk_numberOf : MethodName := ⟨"ChannelledLink$Packet", "numberOf", "(I)I"⟩
abbrev yPk_dataOf : MethodName := ⟨"ChannelledLink$Packet", "dataOf", "(I)I"⟩
abbrev yCh_answerToReset : MethodName := ⟨"ChannelledLink$Channel", "answerToReset", "()I"⟩
abbrev yPk_bare : MethodName := ⟨"ChannelledLink$Packet", "bare", "(II)I"⟩
abbrev yPk_of : MethodName := ⟨"ChannelledLink$Packet", "of", "(IIIII)I"⟩
abbrev ySt_sendPacket : MethodName := ⟨"ChannelledLink$Station", "sendPacket", "(I)V"⟩
abbrev ySt_pump : MethodName := ⟨"ChannelledLink$Station", "pump", "()V"⟩
abbrev yMa_min : MethodName := ⟨"java/lang/Math", "min", "(II)I"⟩
abbrev yLw_lose : MethodName := ⟨"ChannelledLinkLaw", "lose", "(LChannelledLink;I[J)I"⟩
abbrev yCl_lose : MethodName := ⟨"ChannelledLink", "lose", "(I)I"⟩
abbrev yLw_hand : MethodName := ⟨"ChannelledLinkLaw", "hand", "(LChannelledLink;IIIII[J)I"⟩
abbrev yCl_hand : MethodName := ⟨"ChannelledLink", "hand", "(IIIII)Z"⟩
abbrev yCl_requireChannel : MethodName := ⟨"ChannelledLink", "requireChannel", "(I)V"⟩
abbrev yCl_isNumber : MethodName := ⟨"ChannelledLink", "isNumber", "(I)Z"⟩
abbrev yLw_call : MethodName := ⟨"ChannelledLinkLaw", "call", "(LChannelledLink;II)I"⟩
abbrev yCl_call : MethodName := ⟨"ChannelledLink", "call", "(II)V"⟩
abbrev yCl_channelAt : MethodName := ⟨"ChannelledLink", "channelAt", "(LChannelledLink$Station;I)LChannelledLink$Channel;"⟩
abbrev ySt_takesCalls : MethodName := ⟨"ChannelledLink$Station", "takesCalls", "()Z"⟩
abbrev yLw_accept : MethodName := ⟨"ChannelledLinkLaw", "accept", "(LChannelledLink;II)I"⟩
abbrev yCl_accept : MethodName := ⟨"ChannelledLink", "accept", "(II)V"⟩
abbrev yLw_clear : MethodName := ⟨"ChannelledLinkLaw", "clear", "(LChannelledLink;II)I"⟩
abbrev yCl_clear : MethodName := ⟨"ChannelledLink", "clear", "(II)V"⟩
abbrev yLw_reset : MethodName := ⟨"ChannelledLinkLaw", "reset", "(LChannelledLink;II)I"⟩
abbrev yCl_reset : MethodName := ⟨"ChannelledLink", "reset", "(II)V"⟩
abbrev yLw_send : MethodName := ⟨"ChannelledLinkLaw", "send", "(LChannelledLink;IIIZ[J)I"⟩
abbrev yCl_send : MethodName := ⟨"ChannelledLink", "send", "(IIIZ)Z"⟩
abbrev yCl_requireValue : MethodName := ⟨"ChannelledLink", "requireValue", "(I)V"⟩
abbrev yIa_init : MethodName := ⟨"java/lang/IllegalArgumentException", "<init>", "(Ljava/lang/String;)V"⟩
abbrev yLw_receive : MethodName := ⟨"ChannelledLinkLaw", "receive", "(LChannelledLink;II[J)I"⟩
abbrev yCl_receive : MethodName := ⟨"ChannelledLink", "receive", "(II)I"⟩
abbrev yCh_takeData : MethodName := ⟨"ChannelledLink$Channel", "takeData", "()I"⟩
abbrev yLw_link : MethodName := ⟨"ChannelledLinkLaw", "link", "(LChannelledLink;II[J)I"⟩
abbrev yCl_link : MethodName := ⟨"ChannelledLink", "link", "(II)I"⟩
abbrev yLw_channel : MethodName := ⟨"ChannelledLinkLaw", "channel", "(LChannelledLink;III[J)I"⟩
abbrev yCl_channel : MethodName := ⟨"ChannelledLink", "channel", "(III)I"⟩
abbrev yLw_frame : MethodName := ⟨"ChannelledLinkLaw", "frame", "(LChannelledLink;III[J)I"⟩
abbrev yCl_frame : MethodName := ⟨"ChannelledLink", "frame", "(III)I"⟩
abbrev yLw_peek : MethodName := ⟨"ChannelledLinkLaw", "peek", "(LChannelledLink;II[J)I"⟩
abbrev yCl_peek : MethodName := ⟨"ChannelledLink", "peek", "(II)I"⟩
abbrev yMo_init : MethodName := ⟨"ChannelledLinkModel", "<init>", "()V"⟩
abbrev yMo_thrown : MethodName := ⟨"ChannelledLinkModel", "thrown", "()I"⟩
abbrev yMo_deliver : MethodName := ⟨"ChannelledLinkModel", "deliver", "(I)I"⟩
abbrev yMo_station : MethodName := ⟨"ChannelledLinkModel", "station", "(I)Z"⟩
abbrev yMo_takeFrame : MethodName := ⟨"ChannelledLinkModel", "takeFrame", "(I)I"⟩
abbrev yMo_hearLink : MethodName := ⟨"ChannelledLinkModel", "hearLink", "(II)V"⟩
abbrev yMo_clean : MethodName := ⟨"ChannelledLinkModel", "clean", "(I)V"⟩
abbrev yMo_renew : MethodName := ⟨"ChannelledLinkModel", "renew", "(I)V"⟩
abbrev yMo_transmit : MethodName := ⟨"ChannelledLinkModel", "transmit", "(IIIII)V"⟩
abbrev yMo_setUp : MethodName := ⟨"ChannelledLinkModel", "setUp", "(I)V"⟩
abbrev yMo_confirm : MethodName := ⟨"ChannelledLinkModel", "confirm", "(II)V"⟩
abbrev yMo_less : MethodName := ⟨"ChannelledLinkModel", "less", "(II)I"⟩
abbrev yMo_unconfirmed : MethodName := ⟨"ChannelledLinkModel", "unconfirmed", "(I)I"⟩
abbrev yMo_again : MethodName := ⟨"ChannelledLinkModel", "again", "(I)V"⟩
abbrev yMo_carry : MethodName := ⟨"ChannelledLinkModel", "carry", "(II)V"⟩
abbrev yMo_hearCarrier : MethodName := ⟨"ChannelledLinkModel", "hearCarrier", "(IIIIIII)V"⟩
abbrev yMo_grown : MethodName := ⟨"ChannelledLinkModel", "grown", "(I)I"⟩
abbrev yMo_hear : MethodName := ⟨"ChannelledLinkModel", "hear", "(IIIIII)V"⟩
abbrev yMo_idle : MethodName := ⟨"ChannelledLinkModel", "idle", "(I)V"⟩
abbrev yMo_post : MethodName := ⟨"ChannelledLinkModel", "post", "(IIIIII)V"⟩
abbrev yMo_pump : MethodName := ⟨"ChannelledLinkModel", "pump", "(I)V"⟩
abbrev yMo_move : MethodName := ⟨"ChannelledLinkModel", "move", "(IIIIII)V"⟩
abbrev yMo_lose : MethodName := ⟨"ChannelledLinkModel", "lose", "(I)I"⟩
abbrev yMo_hand : MethodName := ⟨"ChannelledLinkModel", "hand", "(IIIII)Z"⟩
abbrev yMo_channelOf : MethodName := ⟨"ChannelledLinkModel", "channelOf", "(II)Z"⟩
abbrev yMo_open : MethodName := ⟨"ChannelledLinkModel", "open", "(I)V"⟩
abbrev yMo_expire : MethodName := ⟨"ChannelledLinkModel", "expire", "(I)I"⟩
abbrev yMo_call : MethodName := ⟨"ChannelledLinkModel", "call", "(II)V"⟩
abbrev yMo_bars : MethodName := ⟨"ChannelledLinkModel", "bars", "(III)I"⟩
abbrev yMo_become : MethodName := ⟨"ChannelledLinkModel", "become", "(IIII)V"⟩
abbrev yMo_accept : MethodName := ⟨"ChannelledLinkModel", "accept", "(II)V"⟩
abbrev yMo_clear : MethodName := ⟨"ChannelledLinkModel", "clear", "(II)V"⟩
abbrev yMo_reset : MethodName := ⟨"ChannelledLinkModel", "reset", "(II)V"⟩
abbrev yMo_send : MethodName := ⟨"ChannelledLinkModel", "send", "(IIIZ)Z"⟩
abbrev yMo_receive : MethodName := ⟨"ChannelledLinkModel", "receive", "(II)I"⟩
abbrev yMo_link : MethodName := ⟨"ChannelledLinkModel", "link", "(II)I"⟩
abbrev yMo_channel : MethodName := ⟨"ChannelledLinkModel", "channel", "(III)I"⟩
abbrev yMo_frame : MethodName := ⟨"ChannelledLinkModel", "frame", "(III)I"⟩
abbrev yMo_peek : MethodName := ⟨"ChannelledLinkModel", "peek", "(II)I"⟩
end
section
/-- the good words of the tables: every method's words are these, behind its own code -/
def tb_ : List Cond := lw_tbl.filter goodWord
theorem tb_in {w : Cond} (h : w ∈ lw_tbl) (g : goodWord w = true) : w ∈ tb_ := List.mem_filter.mpr ⟨h, g⟩
theorem tb_good {w : Cond} (h : w ∈ tb_) : goodWord w = true := (List.mem_filter.mp h).2
theorem tb_sub {w : Cond} (h : w ∈ tb_) : w ∈ lw_tbl := (List.mem_filter.mp h).1
theorem tb_gi {c c' : Cond} (h : c' ∈ tb_) : GoodIn (c :: tb_) (c' :: tb_) := fun w hw => (List.mem_cons.mp hw).elim (fun e => e ▸ ⟨List.mem_cons_of_mem _ h, good_of_word (tb_good h)⟩) (fun hw => ⟨List.mem_cons_of_mem _ hw, good_of_word (tb_good hw)⟩)
theorem tb_gi1 {c : Cond} {ws : List Cond} (h : ∀ w ∈ ws, w ∈ tb_) : GoodIn (c :: tb_) ws := fun w hw => ⟨List.mem_cons_of_mem _ (h w hw), good_of_word (tb_good (h w hw))⟩
theorem tb_giA {big a b : List Cond} (ha : GoodIn big a) (hb : GoodIn big b) : GoodIn big (a ++ b) := fun w h => (List.mem_append.mp h).elim (ha w) (hb w)
theorem tw_0 : Cond.initialized "ChannelledLinkLaw" ∈ tb_ := tb_in (List.mem_append_right _ (List.mem_append_left _ (List.mem_of_getElem? (l := tables_1_1) (i := 0) (by decide +kernel)))) (by decide +kernel)
theorem tw_1 : Cond.initialized "ChannelledLink" ∈ tb_ := tb_in (List.mem_append_right _ (List.mem_append_left _ (List.mem_of_getElem? (l := tables_1_1) (i := 1) (by decide +kernel)))) (by decide +kernel)
theorem tw_2 : Cond.initialized "ChannelledLink$Row" ∈ tb_ := tb_in (List.mem_append_right _ (List.mem_append_left _ (List.mem_of_getElem? (l := tables_1_1) (i := 2) (by decide +kernel)))) (by decide +kernel)
theorem tw_3 : Cond.initialized "ChannelledLink$Station" ∈ tb_ := tb_in (List.mem_append_right _ (List.mem_append_left _ (List.mem_of_getElem? (l := tables_1_1) (i := 3) (by decide +kernel)))) (by decide +kernel)
theorem tw_4 : Cond.initialized "ChannelledLink$Channel" ∈ tb_ := tb_in (List.mem_append_right _ (List.mem_append_left _ (List.mem_of_getElem? (l := tables_1_1) (i := 4) (by decide +kernel)))) (by decide +kernel)
theorem tw_5 : Cond.initialized "ChannelledLinkModel" ∈ tb_ := tb_in (List.mem_append_right _ (List.mem_append_left _ (List.mem_of_getElem? (l := tables_1_1) (i := 5) (by decide +kernel)))) (by decide +kernel)
theorem tw_6 : Cond.initialized "java/lang/Throwable" ∈ tb_ := tb_in (List.mem_append_right _ (List.mem_append_left _ (List.mem_of_getElem? (l := tables_1_1) (i := 6) (by decide +kernel)))) (by decide +kernel)
theorem tw_7 : Cond.initialized "java/lang/Exception" ∈ tb_ := tb_in (List.mem_append_right _ (List.mem_append_left _ (List.mem_of_getElem? (l := tables_1_1) (i := 7) (by decide +kernel)))) (by decide +kernel)
theorem tw_8 : Cond.initialized "java/lang/RuntimeException" ∈ tb_ := tb_in (List.mem_append_right _ (List.mem_append_left _ (List.mem_of_getElem? (l := tables_1_1) (i := 8) (by decide +kernel)))) (by decide +kernel)
theorem tw_9 : Cond.initialized "java/lang/IndexOutOfBoundsException" ∈ tb_ := tb_in (List.mem_append_right _ (List.mem_append_left _ (List.mem_of_getElem? (l := tables_1_1) (i := 9) (by decide +kernel)))) (by decide +kernel)
theorem tw_10 : Cond.initialized "ChannelledLink$Frame" ∈ tb_ := tb_in (List.mem_append_right _ (List.mem_append_left _ (List.mem_of_getElem? (l := tables_1_1) (i := 10) (by decide +kernel)))) (by decide +kernel)
theorem tw_11 : Cond.initialized "java/lang/IllegalStateException" ∈ tb_ := tb_in (List.mem_append_right _ (List.mem_append_left _ (List.mem_of_getElem? (l := tables_1_1) (i := 11) (by decide +kernel)))) (by decide +kernel)
theorem tw_12 : Cond.initialized "java/util/NoSuchElementException" ∈ tb_ := tb_in (List.mem_append_right _ (List.mem_append_left _ (List.mem_of_getElem? (l := tables_1_1) (i := 12) (by decide +kernel)))) (by decide +kernel)
theorem tw_13 : Cond.initialized "java/lang/System" ∈ tb_ := tb_in (List.mem_append_right _ (List.mem_append_left _ (List.mem_of_getElem? (l := tables_1_1) (i := 13) (by decide +kernel)))) (by decide +kernel)
theorem tw_14 : Cond.initialized "ChannelledLink$Packet" ∈ tb_ := tb_in (List.mem_append_right _ (List.mem_append_left _ (List.mem_of_getElem? (l := tables_1_1) (i := 14) (by decide +kernel)))) (by decide +kernel)
theorem tw_15 : Cond.initialized "java/lang/Math" ∈ tb_ := tb_in (List.mem_append_right _ (List.mem_append_left _ (List.mem_of_getElem? (l := tables_1_1) (i := 15) (by decide +kernel)))) (by decide +kernel)
theorem tw_16 : Cond.initialized "java/lang/IllegalArgumentException" ∈ tb_ := tb_in (List.mem_append_right _ (List.mem_append_left _ (List.mem_of_getElem? (l := tables_1_1) (i := 16) (by decide +kernel)))) (by decide +kernel)
theorem tw_17 : Cond.classLink "ChannelledLinkLaw" 8 "ChannelledLink" ∈ tb_ := tb_in (List.mem_append_right _ (List.mem_append_left _ (List.mem_of_getElem? (l := tables_1_1) (i := 17) (by decide +kernel)))) (by decide +kernel)
theorem tw_18 : Cond.instantiable "ChannelledLink" 1 ∈ tb_ := tb_in (List.mem_append_right _ (List.mem_append_left _ (List.mem_of_getElem? (l := tables_1_1) (i := 18) (by decide +kernel)))) (by decide +kernel)
theorem tw_19 : Cond.methodLink "ChannelledLinkLaw" 69 yCl_init ∈ tb_ := tb_in (List.mem_append_right _ (List.mem_append_left _ (List.mem_of_getElem? (l := tables_1_1) (i := 19) (by decide +kernel)))) (by decide +kernel)
theorem tw_20 : Cond.instanceMethod yCl_init ∈ tb_ := tb_in (List.mem_append_right _ (List.mem_append_left _ (List.mem_of_getElem? (l := tables_1_1) (i := 20) (by decide +kernel)))) (by decide +kernel)
theorem tw_21 : Cond.code yCl_init prog_1_method_1_code 3 none ∈ tb_ := tb_in (List.mem_append_right _ (List.mem_append_left _ (List.mem_of_getElem? (l := tables_1_1) (i := 21) (by decide +kernel)))) (by decide +kernel)
theorem tw_22 : Cond.methodLink "ChannelledLink" 1 yOb_init ∈ tb_ := tb_in (List.mem_append_right _ (List.mem_append_left _ (List.mem_of_getElem? (l := tables_1_1) (i := 22) (by decide +kernel)))) (by decide +kernel)
theorem tw_23 : Cond.instanceMethod yOb_init ∈ tb_ := tb_in (List.mem_append_right _ (List.mem_append_left _ (List.mem_of_getElem? (l := tables_1_1) (i := 23) (by decide +kernel)))) (by decide +kernel)
theorem tw_24 : Cond.code yOb_init object_method_1_code 1 none ∈ tb_ := tb_in (List.mem_append_right _ (List.mem_append_left _ (List.mem_of_getElem? (l := tables_1_1) (i := 24) (by decide +kernel)))) (by decide +kernel)
theorem tw_25 : Cond.classLink "ChannelledLink" 7 "ChannelledLink$Row" ∈ tb_ := tb_in (List.mem_append_right _ (List.mem_append_left _ (List.mem_of_getElem? (l := tables_1_1) (i := 25) (by decide +kernel)))) (by decide +kernel)
theorem tw_26 : Cond.instantiable "ChannelledLink$Row" 2 ∈ tb_ := tb_in (List.mem_append_right _ (List.mem_append_left _ (List.mem_of_getElem? (l := tables_1_1) (i := 26) (by decide +kernel)))) (by decide +kernel)
theorem tw_27 : Cond.methodLink "ChannelledLink" 11 yRw_init ∈ tb_ := tb_in (List.mem_append_right _ (List.mem_append_left _ (List.mem_of_getElem? (l := tables_1_1) (i := 27) (by decide +kernel)))) (by decide +kernel)
theorem tw_28 : Cond.instanceMethod yRw_init ∈ tb_ := tb_in (List.mem_append_right _ (List.mem_append_left _ (List.mem_of_getElem? (l := tables_1_1) (i := 28) (by decide +kernel)))) (by decide +kernel)
theorem tw_29 : Cond.code yRw_init prog_5_method_1_code 2 none ∈ tb_ := tb_in (List.mem_append_right _ (List.mem_append_left _ (List.mem_of_getElem? (l := tables_1_1) (i := 29) (by decide +kernel)))) (by decide +kernel)
theorem tw_30 : Cond.methodLink "ChannelledLink$Row" 1 yOb_init ∈ tb_ := tb_in (List.mem_append_right _ (List.mem_append_left _ (List.mem_of_getElem? (l := tables_1_1) (i := 30) (by decide +kernel)))) (by decide +kernel)
theorem tw_31 : Cond.fieldLink "ChannelledLink$Row" 7 "ChannelledLink$Row" "places" "[I" ∈ tb_ := tb_in (List.mem_append_right _ (List.mem_append_left _ (List.mem_of_getElem? (l := tables_1_1) (i := 31) (by decide +kernel)))) (by decide +kernel)
theorem tw_32 : Cond.fieldLink "ChannelledLink$Row" 13 "ChannelledLink$Row" "count" "I" ∈ tb_ := tb_in (List.mem_append_right _ (List.mem_append_left _ (List.mem_of_getElem? (l := tables_1_1) (i := 32) (by decide +kernel)))) (by decide +kernel)
theorem tw_33 : Cond.fieldLinkNest "ChannelledLink$Channel" 40 "ChannelledLink$Row" "count" "I" "ChannelledLink" ∈ lw_tbl := List.mem_append_right _ (List.mem_append_left _ (List.mem_of_getElem? (l := tables_1_1) (i := 33) (by decide +kernel)))
theorem tw_34 : Cond.fieldLinkNest "ChannelledLink$Station" 51 "ChannelledLink$Row" "count" "I" "ChannelledLink" ∈ lw_tbl := List.mem_append_right _ (List.mem_append_left _ (List.mem_of_getElem? (l := tables_1_1) (i := 34) (by decide +kernel)))
theorem tw_35 : Cond.fieldLinkNest "ChannelledLink" 148 "ChannelledLink$Row" "count" "I" "ChannelledLink" ∈ lw_tbl := List.mem_append_right _ (List.mem_append_left _ (List.mem_of_getElem? (l := tables_1_1) (i := 35) (by decide +kernel)))
theorem tw_36 : Cond.laysFinal "ChannelledLink$Row" "ChannelledLink$Row" "places" "[I" ∈ tb_ := tb_in (List.mem_append_right _ (List.mem_append_left _ (List.mem_of_getElem? (l := tables_1_1) (i := 36) (by decide +kernel)))) (by decide +kernel)
theorem tw_37 : Cond.soleField "ChannelledLink$Row" "places" ∈ tb_ := tb_in (List.mem_append_right _ (List.mem_append_left _ (List.mem_of_getElem? (l := tables_1_1) (i := 37) (by decide +kernel)))) (by decide +kernel)
theorem tw_38 : Cond.lays "ChannelledLink$Row" "ChannelledLink$Row" "count" "I" ∈ tb_ := tb_in (List.mem_append_right _ (List.mem_append_left _ (List.mem_of_getElem? (l := tables_1_1) (i := 38) (by decide +kernel)))) (by decide +kernel)
theorem tw_39 : Cond.soleField "ChannelledLink$Row" "count" ∈ tb_ := tb_in (List.mem_append_right _ (List.mem_append_left _ (List.mem_of_getElem? (l := tables_1_1) (i := 39) (by decide +kernel)))) (by decide +kernel)
theorem tw_40 : Cond.superclass "ChannelledLink$Row" "java/lang/Object" ∈ tb_ := tb_in (List.mem_append_right _ (List.mem_append_left _ (List.mem_of_getElem? (l := tables_1_1) (i := 40) (by decide +kernel)))) (by decide +kernel)
theorem tw_41 : Cond.arrayClass FieldType.int ∈ tb_ := tb_in (List.mem_append_right _ (List.mem_append_left _ (List.mem_of_getElem? (l := tables_1_1) (i := 41) (by decide +kernel)))) (by decide +kernel)
theorem tw_42 : Cond.classLink "ChannelledLink" 14 "ChannelledLink$Station" ∈ tb_ := tb_in (List.mem_append_right _ (List.mem_append_left _ (List.mem_of_getElem? (l := tables_1_1) (i := 42) (by decide +kernel)))) (by decide +kernel)
theorem tw_43 : Cond.arrayOver (FieldType.object "ChannelledLink$Station") ∈ lw_tbl := List.mem_append_right _ (List.mem_append_left _ (List.mem_of_getElem? (l := tables_1_1) (i := 43) (by decide +kernel)))
theorem tw_44 : Cond.instantiable "ChannelledLink$Station" 10 ∈ tb_ := tb_in (List.mem_append_right _ (List.mem_append_left _ (List.mem_of_getElem? (l := tables_1_1) (i := 44) (by decide +kernel)))) (by decide +kernel)
theorem tw_45 : Cond.methodLink "ChannelledLink" 20 ySt_init ∈ tb_ := tb_in (List.mem_append_right _ (List.mem_append_left _ (List.mem_of_getElem? (l := tables_1_1) (i := 45) (by decide +kernel)))) (by decide +kernel)
theorem tw_46 : Cond.instanceMethod ySt_init ∈ tb_ := tb_in (List.mem_append_right _ (List.mem_append_left _ (List.mem_of_getElem? (l := tables_1_1) (i := 46) (by decide +kernel)))) (by decide +kernel)
theorem tw_47 : Cond.code ySt_init prog_6_method_1_code 5 none ∈ tb_ := tb_in (List.mem_append_right _ (List.mem_append_left _ (List.mem_of_getElem? (l := tables_1_1) (i := 47) (by decide +kernel)))) (by decide +kernel)
theorem tw_48 : Cond.methodLink "ChannelledLink$Station" 3 yOb_init ∈ tb_ := tb_in (List.mem_append_right _ (List.mem_append_left _ (List.mem_of_getElem? (l := tables_1_1) (i := 48) (by decide +kernel)))) (by decide +kernel)
theorem tw_49 : Cond.classLink "ChannelledLink$Station" 18 "ChannelledLink$Row" ∈ tb_ := tb_in (List.mem_append_right _ (List.mem_append_left _ (List.mem_of_getElem? (l := tables_1_1) (i := 49) (by decide +kernel)))) (by decide +kernel)
theorem tw_50 : Cond.methodLink "ChannelledLink$Station" 20 yRw_init ∈ tb_ := tb_in (List.mem_append_right _ (List.mem_append_left _ (List.mem_of_getElem? (l := tables_1_1) (i := 50) (by decide +kernel)))) (by decide +kernel)
theorem tw_51 : Cond.classLink "ChannelledLink$Station" 26 "ChannelledLink$Channel" ∈ tb_ := tb_in (List.mem_append_right _ (List.mem_append_left _ (List.mem_of_getElem? (l := tables_1_1) (i := 51) (by decide +kernel)))) (by decide +kernel)
theorem tw_52 : Cond.arrayOver (FieldType.object "ChannelledLink$Channel") ∈ lw_tbl := List.mem_append_right _ (List.mem_append_left _ (List.mem_of_getElem? (l := tables_1_1) (i := 52) (by decide +kernel)))
theorem tw_53 : Cond.instantiable "ChannelledLink$Channel" 7 ∈ tb_ := tb_in (List.mem_append_right _ (List.mem_append_left _ (List.mem_of_getElem? (l := tables_1_1) (i := 53) (by decide +kernel)))) (by decide +kernel)
theorem tw_54 : Cond.methodLink "ChannelledLink$Station" 32 yCh_init ∈ tb_ := tb_in (List.mem_append_right _ (List.mem_append_left _ (List.mem_of_getElem? (l := tables_1_1) (i := 54) (by decide +kernel)))) (by decide +kernel)
theorem tw_55 : Cond.instanceMethod yCh_init ∈ tb_ := tb_in (List.mem_append_right _ (List.mem_append_left _ (List.mem_of_getElem? (l := tables_1_1) (i := 55) (by decide +kernel)))) (by decide +kernel)
theorem tw_56 : Cond.code yCh_init prog_2_method_1_code 2 none ∈ tb_ := tb_in (List.mem_append_right _ (List.mem_append_left _ (List.mem_of_getElem? (l := tables_1_1) (i := 56) (by decide +kernel)))) (by decide +kernel)
theorem tw_57 : Cond.methodLink "ChannelledLink$Channel" 3 yOb_init ∈ tb_ := tb_in (List.mem_append_right _ (List.mem_append_left _ (List.mem_of_getElem? (l := tables_1_1) (i := 57) (by decide +kernel)))) (by decide +kernel)
theorem tw_58 : Cond.classLink "ChannelledLink$Channel" 15 "ChannelledLink$Row" ∈ tb_ := tb_in (List.mem_append_right _ (List.mem_append_left _ (List.mem_of_getElem? (l := tables_1_1) (i := 58) (by decide +kernel)))) (by decide +kernel)
theorem tw_59 : Cond.methodLink "ChannelledLink$Channel" 17 yRw_init ∈ tb_ := tb_in (List.mem_append_right _ (List.mem_append_left _ (List.mem_of_getElem? (l := tables_1_1) (i := 59) (by decide +kernel)))) (by decide +kernel)
theorem tw_60 : Cond.fieldLink "ChannelledLink$Channel" 9 "ChannelledLink$Channel" "yields" "Z" ∈ tb_ := tb_in (List.mem_append_right _ (List.mem_append_left _ (List.mem_of_getElem? (l := tables_1_1) (i := 60) (by decide +kernel)))) (by decide +kernel)
theorem tw_61 : Cond.fieldLink "ChannelledLink$Channel" 20 "ChannelledLink$Channel" "data" "LChannelledLink$Row;" ∈ tb_ := tb_in (List.mem_append_right _ (List.mem_append_left _ (List.mem_of_getElem? (l := tables_1_1) (i := 61) (by decide +kernel)))) (by decide +kernel)
theorem tw_62 : Cond.fieldLinkNest "ChannelledLink" 116 "ChannelledLink$Channel" "data" "LChannelledLink$Row;" "ChannelledLink" ∈ lw_tbl := List.mem_append_right _ (List.mem_append_left _ (List.mem_of_getElem? (l := tables_1_1) (i := 62) (by decide +kernel)))
theorem tw_63 : Cond.fieldLink "ChannelledLink$Channel" 24 "ChannelledLink$Channel" "state" "I" ∈ tb_ := tb_in (List.mem_append_right _ (List.mem_append_left _ (List.mem_of_getElem? (l := tables_1_1) (i := 63) (by decide +kernel)))) (by decide +kernel)
theorem tw_64 : Cond.fieldLinkNest "ChannelledLink" 82 "ChannelledLink$Channel" "state" "I" "ChannelledLink" ∈ lw_tbl := List.mem_append_right _ (List.mem_append_left _ (List.mem_of_getElem? (l := tables_1_1) (i := 64) (by decide +kernel)))
theorem tw_65 : Cond.fieldLink "ChannelledLink$Channel" 28 "ChannelledLink$Channel" "next" "I" ∈ tb_ := tb_in (List.mem_append_right _ (List.mem_append_left _ (List.mem_of_getElem? (l := tables_1_1) (i := 65) (by decide +kernel)))) (by decide +kernel)
theorem tw_66 : Cond.fieldLinkNest "ChannelledLink" 104 "ChannelledLink$Channel" "next" "I" "ChannelledLink" ∈ lw_tbl := List.mem_append_right _ (List.mem_append_left _ (List.mem_of_getElem? (l := tables_1_1) (i := 66) (by decide +kernel)))
theorem tw_67 : Cond.fieldLink "ChannelledLink$Channel" 31 "ChannelledLink$Channel" "passed" "I" ∈ tb_ := tb_in (List.mem_append_right _ (List.mem_append_left _ (List.mem_of_getElem? (l := tables_1_1) (i := 67) (by decide +kernel)))) (by decide +kernel)
theorem tw_68 : Cond.fieldLinkNest "ChannelledLink" 101 "ChannelledLink$Channel" "passed" "I" "ChannelledLink" ∈ lw_tbl := List.mem_append_right _ (List.mem_append_left _ (List.mem_of_getElem? (l := tables_1_1) (i := 68) (by decide +kernel)))
theorem tw_69 : Cond.fieldLink "ChannelledLink$Channel" 34 "ChannelledLink$Channel" "due" "I" ∈ tb_ := tb_in (List.mem_append_right _ (List.mem_append_left _ (List.mem_of_getElem? (l := tables_1_1) (i := 69) (by decide +kernel)))) (by decide +kernel)
theorem tw_70 : Cond.fieldLinkNest "ChannelledLink" 151 "ChannelledLink$Channel" "due" "I" "ChannelledLink" ∈ lw_tbl := List.mem_append_right _ (List.mem_append_left _ (List.mem_of_getElem? (l := tables_1_1) (i := 70) (by decide +kernel)))
theorem tw_71 : Cond.fieldLink "ChannelledLink$Channel" 37 "ChannelledLink$Channel" "taken" "I" ∈ tb_ := tb_in (List.mem_append_right _ (List.mem_append_left _ (List.mem_of_getElem? (l := tables_1_1) (i := 71) (by decide +kernel)))) (by decide +kernel)
theorem tw_72 : Cond.fieldLinkNest "ChannelledLink" 110 "ChannelledLink$Channel" "taken" "I" "ChannelledLink" ∈ lw_tbl := List.mem_append_right _ (List.mem_append_left _ (List.mem_of_getElem? (l := tables_1_1) (i := 72) (by decide +kernel)))
theorem tw_73 : Cond.laysFinal "ChannelledLink$Channel" "ChannelledLink$Channel" "yields" "Z" ∈ tb_ := tb_in (List.mem_append_right _ (List.mem_append_left _ (List.mem_of_getElem? (l := tables_1_1) (i := 73) (by decide +kernel)))) (by decide +kernel)
theorem tw_74 : Cond.soleField "ChannelledLink$Channel" "yields" ∈ tb_ := tb_in (List.mem_append_right _ (List.mem_append_left _ (List.mem_of_getElem? (l := tables_1_1) (i := 74) (by decide +kernel)))) (by decide +kernel)
theorem tw_75 : Cond.laysFinal "ChannelledLink$Channel" "ChannelledLink$Channel" "data" "LChannelledLink$Row;" ∈ tb_ := tb_in (List.mem_append_right _ (List.mem_append_left _ (List.mem_of_getElem? (l := tables_1_1) (i := 75) (by decide +kernel)))) (by decide +kernel)
theorem tw_76 : Cond.soleField "ChannelledLink$Channel" "data" ∈ tb_ := tb_in (List.mem_append_right _ (List.mem_append_left _ (List.mem_of_getElem? (l := tables_1_1) (i := 76) (by decide +kernel)))) (by decide +kernel)
theorem tw_77 : Cond.lays "ChannelledLink$Channel" "ChannelledLink$Channel" "state" "I" ∈ tb_ := tb_in (List.mem_append_right _ (List.mem_append_left _ (List.mem_of_getElem? (l := tables_1_1) (i := 77) (by decide +kernel)))) (by decide +kernel)
theorem tw_78 : Cond.soleField "ChannelledLink$Channel" "state" ∈ tb_ := tb_in (List.mem_append_right _ (List.mem_append_left _ (List.mem_of_getElem? (l := tables_1_1) (i := 78) (by decide +kernel)))) (by decide +kernel)
theorem tw_79 : Cond.lays "ChannelledLink$Channel" "ChannelledLink$Channel" "next" "I" ∈ tb_ := tb_in (List.mem_append_right _ (List.mem_append_left _ (List.mem_of_getElem? (l := tables_1_1) (i := 79) (by decide +kernel)))) (by decide +kernel)
theorem tw_80 : Cond.soleField "ChannelledLink$Channel" "next" ∈ tb_ := tb_in (List.mem_append_right _ (List.mem_append_left _ (List.mem_of_getElem? (l := tables_1_1) (i := 80) (by decide +kernel)))) (by decide +kernel)
theorem tw_81 : Cond.lays "ChannelledLink$Channel" "ChannelledLink$Channel" "passed" "I" ∈ tb_ := tb_in (List.mem_append_right _ (List.mem_append_left _ (List.mem_of_getElem? (l := tables_1_1) (i := 81) (by decide +kernel)))) (by decide +kernel)
theorem tw_82 : Cond.soleField "ChannelledLink$Channel" "passed" ∈ tb_ := tb_in (List.mem_append_right _ (List.mem_append_left _ (List.mem_of_getElem? (l := tables_1_1) (i := 82) (by decide +kernel)))) (by decide +kernel)
theorem tw_83 : Cond.lays "ChannelledLink$Channel" "ChannelledLink$Channel" "due" "I" ∈ tb_ := tb_in (List.mem_append_right _ (List.mem_append_left _ (List.mem_of_getElem? (l := tables_1_1) (i := 83) (by decide +kernel)))) (by decide +kernel)
theorem tw_84 : Cond.soleField "ChannelledLink$Channel" "due" ∈ tb_ := tb_in (List.mem_append_right _ (List.mem_append_left _ (List.mem_of_getElem? (l := tables_1_1) (i := 84) (by decide +kernel)))) (by decide +kernel)
theorem tw_85 : Cond.lays "ChannelledLink$Channel" "ChannelledLink$Channel" "taken" "I" ∈ tb_ := tb_in (List.mem_append_right _ (List.mem_append_left _ (List.mem_of_getElem? (l := tables_1_1) (i := 85) (by decide +kernel)))) (by decide +kernel)
theorem tw_86 : Cond.soleField "ChannelledLink$Channel" "taken" ∈ tb_ := tb_in (List.mem_append_right _ (List.mem_append_left _ (List.mem_of_getElem? (l := tables_1_1) (i := 86) (by decide +kernel)))) (by decide +kernel)
theorem tw_87 : Cond.superclass "ChannelledLink$Channel" "java/lang/Object" ∈ tb_ := tb_in (List.mem_append_right _ (List.mem_append_left _ (List.mem_of_getElem? (l := tables_1_1) (i := 87) (by decide +kernel)))) (by decide +kernel)
theorem tw_88 : Cond.fieldLink "ChannelledLink$Station" 9 "ChannelledLink$Station" "line" "LChannelledLink$Row;" ∈ tb_ := tb_in (List.mem_append_right _ (List.mem_append_left _ (List.mem_of_getElem? (l := tables_1_1) (i := 88) (by decide +kernel)))) (by decide +kernel)
theorem tw_89 : Cond.fieldLinkNest "ChannelledLink" 42 "ChannelledLink$Station" "line" "LChannelledLink$Row;" "ChannelledLink" ∈ lw_tbl := List.mem_append_right _ (List.mem_append_left _ (List.mem_of_getElem? (l := tables_1_1) (i := 89) (by decide +kernel)))
theorem tw_90 : Cond.fieldLink "ChannelledLink$Station" 15 "ChannelledLink$Station" "lineOfPeer" "LChannelledLink$Row;" ∈ tb_ := tb_in (List.mem_append_right _ (List.mem_append_left _ (List.mem_of_getElem? (l := tables_1_1) (i := 90) (by decide +kernel)))) (by decide +kernel)
theorem tw_91 : Cond.fieldLink "ChannelledLink$Station" 23 "ChannelledLink$Station" "out" "LChannelledLink$Row;" ∈ tb_ := tb_in (List.mem_append_right _ (List.mem_append_left _ (List.mem_of_getElem? (l := tables_1_1) (i := 91) (by decide +kernel)))) (by decide +kernel)
theorem tw_92 : Cond.fieldLinkNest "ChannelledLink" 145 "ChannelledLink$Station" "out" "LChannelledLink$Row;" "ChannelledLink" ∈ lw_tbl := List.mem_append_right _ (List.mem_append_left _ (List.mem_of_getElem? (l := tables_1_1) (i := 92) (by decide +kernel)))
theorem tw_93 : Cond.fieldLink "ChannelledLink$Station" 28 "ChannelledLink$Station" "channels" "[LChannelledLink$Channel;" ∈ tb_ := tb_in (List.mem_append_right _ (List.mem_append_left _ (List.mem_of_getElem? (l := tables_1_1) (i := 93) (by decide +kernel)))) (by decide +kernel)
theorem tw_94 : Cond.fieldLinkNest "ChannelledLink" 182 "ChannelledLink$Station" "channels" "[LChannelledLink$Channel;" "ChannelledLink" ∈ lw_tbl := List.mem_append_right _ (List.mem_append_left _ (List.mem_of_getElem? (l := tables_1_1) (i := 94) (by decide +kernel)))
theorem tw_95 : Cond.fieldLink "ChannelledLink$Station" 35 "ChannelledLink$Station" "link" "I" ∈ tb_ := tb_in (List.mem_append_right _ (List.mem_append_left _ (List.mem_of_getElem? (l := tables_1_1) (i := 95) (by decide +kernel)))) (by decide +kernel)
theorem tw_96 : Cond.fieldLinkNest "ChannelledLink" 126 "ChannelledLink$Station" "link" "I" "ChannelledLink" ∈ lw_tbl := List.mem_append_right _ (List.mem_append_left _ (List.mem_of_getElem? (l := tables_1_1) (i := 96) (by decide +kernel)))
theorem tw_97 : Cond.fieldLink "ChannelledLink$Station" 114 "ChannelledLink$Station" "sent" "I" ∈ tb_ := tb_in (List.mem_append_right _ (List.mem_append_left _ (List.mem_of_getElem? (l := tables_1_1) (i := 97) (by decide +kernel)))) (by decide +kernel)
theorem tw_98 : Cond.fieldLinkNest "ChannelledLink" 129 "ChannelledLink$Station" "sent" "I" "ChannelledLink" ∈ lw_tbl := List.mem_append_right _ (List.mem_append_left _ (List.mem_of_getElem? (l := tables_1_1) (i := 98) (by decide +kernel)))
theorem tw_99 : Cond.fieldLink "ChannelledLink$Station" 88 "ChannelledLink$Station" "acknowledged" "I" ∈ tb_ := tb_in (List.mem_append_right _ (List.mem_append_left _ (List.mem_of_getElem? (l := tables_1_1) (i := 99) (by decide +kernel)))) (by decide +kernel)
theorem tw_100 : Cond.fieldLinkNest "ChannelledLink" 132 "ChannelledLink$Station" "acknowledged" "I" "ChannelledLink" ∈ lw_tbl := List.mem_append_right _ (List.mem_append_left _ (List.mem_of_getElem? (l := tables_1_1) (i := 100) (by decide +kernel)))
theorem tw_101 : Cond.fieldLink "ChannelledLink$Station" 101 "ChannelledLink$Station" "expected" "I" ∈ tb_ := tb_in (List.mem_append_right _ (List.mem_append_left _ (List.mem_of_getElem? (l := tables_1_1) (i := 101) (by decide +kernel)))) (by decide +kernel)
theorem tw_102 : Cond.fieldLinkNest "ChannelledLink" 135 "ChannelledLink$Station" "expected" "I" "ChannelledLink" ∈ lw_tbl := List.mem_append_right _ (List.mem_append_left _ (List.mem_of_getElem? (l := tables_1_1) (i := 102) (by decide +kernel)))
theorem tw_103 : Cond.fieldLink "ChannelledLink$Station" 54 "ChannelledLink$Station" "tries" "I" ∈ tb_ := tb_in (List.mem_append_right _ (List.mem_append_left _ (List.mem_of_getElem? (l := tables_1_1) (i := 103) (by decide +kernel)))) (by decide +kernel)
theorem tw_104 : Cond.fieldLinkNest "ChannelledLink" 138 "ChannelledLink$Station" "tries" "I" "ChannelledLink" ∈ lw_tbl := List.mem_append_right _ (List.mem_append_left _ (List.mem_of_getElem? (l := tables_1_1) (i := 104) (by decide +kernel)))
theorem tw_105 : Cond.fieldLink "ChannelledLink$Station" 110 "ChannelledLink$Station" "rejected" "Z" ∈ tb_ := tb_in (List.mem_append_right _ (List.mem_append_left _ (List.mem_of_getElem? (l := tables_1_1) (i := 105) (by decide +kernel)))) (by decide +kernel)
theorem tw_106 : Cond.fieldLinkNest "ChannelledLink" 141 "ChannelledLink$Station" "rejected" "Z" "ChannelledLink" ∈ lw_tbl := List.mem_append_right _ (List.mem_append_left _ (List.mem_of_getElem? (l := tables_1_1) (i := 106) (by decide +kernel)))
theorem tw_107 : Cond.laysFinal "ChannelledLink$Station" "ChannelledLink$Station" "line" "LChannelledLink$Row;" ∈ tb_ := tb_in (List.mem_append_right _ (List.mem_append_left _ (List.mem_of_getElem? (l := tables_1_1) (i := 107) (by decide +kernel)))) (by decide +kernel)
theorem tw_108 : Cond.soleField "ChannelledLink$Station" "line" ∈ tb_ := tb_in (List.mem_append_right _ (List.mem_append_left _ (List.mem_of_getElem? (l := tables_1_1) (i := 108) (by decide +kernel)))) (by decide +kernel)
theorem tw_109 : Cond.laysFinal "ChannelledLink$Station" "ChannelledLink$Station" "lineOfPeer" "LChannelledLink$Row;" ∈ tb_ := tb_in (List.mem_append_right _ (List.mem_append_left _ (List.mem_of_getElem? (l := tables_1_1) (i := 109) (by decide +kernel)))) (by decide +kernel)
theorem tw_110 : Cond.soleField "ChannelledLink$Station" "lineOfPeer" ∈ tb_ := tb_in (List.mem_append_right _ (List.mem_append_left _ (List.mem_of_getElem? (l := tables_1_1) (i := 110) (by decide +kernel)))) (by decide +kernel)
theorem tw_111 : Cond.laysFinal "ChannelledLink$Station" "ChannelledLink$Station" "out" "LChannelledLink$Row;" ∈ tb_ := tb_in (List.mem_append_right _ (List.mem_append_left _ (List.mem_of_getElem? (l := tables_1_1) (i := 111) (by decide +kernel)))) (by decide +kernel)
theorem tw_112 : Cond.soleField "ChannelledLink$Station" "out" ∈ tb_ := tb_in (List.mem_append_right _ (List.mem_append_left _ (List.mem_of_getElem? (l := tables_1_1) (i := 112) (by decide +kernel)))) (by decide +kernel)
theorem tw_113 : Cond.laysFinal "ChannelledLink$Station" "ChannelledLink$Station" "channels" "[LChannelledLink$Channel;" ∈ tb_ := tb_in (List.mem_append_right _ (List.mem_append_left _ (List.mem_of_getElem? (l := tables_1_1) (i := 113) (by decide +kernel)))) (by decide +kernel)
theorem tw_114 : Cond.soleField "ChannelledLink$Station" "channels" ∈ tb_ := tb_in (List.mem_append_right _ (List.mem_append_left _ (List.mem_of_getElem? (l := tables_1_1) (i := 114) (by decide +kernel)))) (by decide +kernel)
theorem tw_115 : Cond.lays "ChannelledLink$Station" "ChannelledLink$Station" "link" "I" ∈ tb_ := tb_in (List.mem_append_right _ (List.mem_append_left _ (List.mem_of_getElem? (l := tables_1_1) (i := 115) (by decide +kernel)))) (by decide +kernel)
theorem tw_116 : Cond.soleField "ChannelledLink$Station" "link" ∈ tb_ := tb_in (List.mem_append_right _ (List.mem_append_left _ (List.mem_of_getElem? (l := tables_1_1) (i := 116) (by decide +kernel)))) (by decide +kernel)
theorem tw_117 : Cond.lays "ChannelledLink$Station" "ChannelledLink$Station" "sent" "I" ∈ tb_ := tb_in (List.mem_append_right _ (List.mem_append_left _ (List.mem_of_getElem? (l := tables_1_1) (i := 117) (by decide +kernel)))) (by decide +kernel)
theorem tw_118 : Cond.soleField "ChannelledLink$Station" "sent" ∈ tb_ := tb_in (List.mem_append_right _ (List.mem_append_left _ (List.mem_of_getElem? (l := tables_1_1) (i := 118) (by decide +kernel)))) (by decide +kernel)
theorem tw_119 : Cond.lays "ChannelledLink$Station" "ChannelledLink$Station" "acknowledged" "I" ∈ tb_ := tb_in (List.mem_append_right _ (List.mem_append_left _ (List.mem_of_getElem? (l := tables_1_1) (i := 119) (by decide +kernel)))) (by decide +kernel)
theorem tw_120 : Cond.soleField "ChannelledLink$Station" "acknowledged" ∈ tb_ := tb_in (List.mem_append_right _ (List.mem_append_left _ (List.mem_of_getElem? (l := tables_1_1) (i := 120) (by decide +kernel)))) (by decide +kernel)
theorem tw_121 : Cond.lays "ChannelledLink$Station" "ChannelledLink$Station" "expected" "I" ∈ tb_ := tb_in (List.mem_append_right _ (List.mem_append_left _ (List.mem_of_getElem? (l := tables_1_1) (i := 121) (by decide +kernel)))) (by decide +kernel)
theorem tw_122 : Cond.soleField "ChannelledLink$Station" "expected" ∈ tb_ := tb_in (List.mem_append_right _ (List.mem_append_left _ (List.mem_of_getElem? (l := tables_1_1) (i := 122) (by decide +kernel)))) (by decide +kernel)
theorem tw_123 : Cond.lays "ChannelledLink$Station" "ChannelledLink$Station" "tries" "I" ∈ tb_ := tb_in (List.mem_append_right _ (List.mem_append_left _ (List.mem_of_getElem? (l := tables_1_1) (i := 123) (by decide +kernel)))) (by decide +kernel)
theorem tw_124 : Cond.soleField "ChannelledLink$Station" "tries" ∈ tb_ := tb_in (List.mem_append_right _ (List.mem_append_left _ (List.mem_of_getElem? (l := tables_1_1) (i := 124) (by decide +kernel)))) (by decide +kernel)
theorem tw_125 : Cond.lays "ChannelledLink$Station" "ChannelledLink$Station" "rejected" "Z" ∈ tb_ := tb_in (List.mem_append_right _ (List.mem_append_left _ (List.mem_of_getElem? (l := tables_1_1) (i := 125) (by decide +kernel)))) (by decide +kernel)
theorem tw_126 : Cond.soleField "ChannelledLink$Station" "rejected" ∈ tb_ := tb_in (List.mem_append_right _ (List.mem_append_left _ (List.mem_of_getElem? (l := tables_1_1) (i := 126) (by decide +kernel)))) (by decide +kernel)
theorem tw_127 : Cond.superclass "ChannelledLink$Station" "java/lang/Object" ∈ tb_ := tb_in (List.mem_append_right _ (List.mem_append_left _ (List.mem_of_getElem? (l := tables_1_1) (i := 127) (by decide +kernel)))) (by decide +kernel)
theorem tw_128 : Cond.fieldLink "ChannelledLink" 16 "ChannelledLink" "stations" "[LChannelledLink$Station;" ∈ tb_ := tb_in (List.mem_append_right _ (List.mem_append_left _ (List.mem_of_getElem? (l := tables_1_1) (i := 128) (by decide +kernel)))) (by decide +kernel)
theorem tw_129 : Cond.laysFinal "ChannelledLink" "ChannelledLink" "stations" "[LChannelledLink$Station;" ∈ tb_ := tb_in (List.mem_append_right _ (List.mem_append_left _ (List.mem_of_getElem? (l := tables_1_1) (i := 129) (by decide +kernel)))) (by decide +kernel)
theorem tw_130 : Cond.soleField "ChannelledLink" "stations" ∈ tb_ := tb_in (List.mem_append_right _ (List.mem_append_left _ (List.mem_of_getElem? (l := tables_1_1) (i := 130) (by decide +kernel)))) (by decide +kernel)
theorem tw_131 : Cond.superclass "ChannelledLink" "java/lang/Object" ∈ tb_ := tb_in (List.mem_append_right _ (List.mem_append_left _ (List.mem_of_getElem? (l := tables_1_1) (i := 131) (by decide +kernel)))) (by decide +kernel)
theorem tw_132 : Cond.methodLink "ChannelledLinkLaw" 73 yLw_open ∈ tb_ := tb_in (List.mem_append_right _ (List.mem_append_left _ (List.mem_of_getElem? (l := tables_1_1) (i := 132) (by decide +kernel)))) (by decide +kernel)
theorem tw_133 : Cond.static yLw_open ∈ tb_ := tb_in (List.mem_append_right _ (List.mem_append_left _ (List.mem_of_getElem? (l := tables_1_1) (i := 133) (by decide +kernel)))) (by decide +kernel)
theorem tw_134 : Cond.codeWith yLw_open method_3_code 3 (some FieldType.int) [((0 : Nat), (5 : Nat), (8 : Nat), (13 : Nat))] ∈ tb_ := tb_in (List.mem_append_right _ (List.mem_append_left _ (List.mem_of_getElem? (l := tables_1_1) (i := 134) (by decide +kernel)))) (by decide +kernel)
theorem tw_135 : Cond.classLink "ChannelledLinkLaw" 13 "java/lang/IndexOutOfBoundsException" ∈ tb_ := tb_in (List.mem_append_right _ (List.mem_append_left _ (List.mem_of_getElem? (l := tables_1_1) (i := 135) (by decide +kernel)))) (by decide +kernel)
theorem tw_136 : Cond.methodLink "ChannelledLinkLaw" 7 yCl_open ∈ tb_ := tb_in (List.mem_append_right _ (List.mem_append_left _ (List.mem_of_getElem? (l := tables_1_1) (i := 136) (by decide +kernel)))) (by decide +kernel)
theorem tw_137 : Cond.instanceMethod yCl_open ∈ tb_ := tb_in (List.mem_append_right _ (List.mem_append_left _ (List.mem_of_getElem? (l := tables_1_1) (i := 137) (by decide +kernel)))) (by decide +kernel)
theorem tw_138 : Cond.selects "ChannelledLink" yCl_open yCl_open ∈ tb_ := tb_in (List.mem_append_right _ (List.mem_append_left _ (List.mem_of_getElem? (l := tables_1_1) (i := 138) (by decide +kernel)))) (by decide +kernel)
theorem tw_139 : Cond.code yCl_open prog_1_method_2_code 2 none ∈ tb_ := tb_in (List.mem_append_right _ (List.mem_append_left _ (List.mem_of_getElem? (l := tables_1_1) (i := 139) (by decide +kernel)))) (by decide +kernel)
theorem tw_140 : Cond.methodLink "ChannelledLink" 23 yCl_stationAt ∈ tb_ := tb_in (List.mem_append_right _ (List.mem_append_left _ (List.mem_of_getElem? (l := tables_1_1) (i := 140) (by decide +kernel)))) (by decide +kernel)
theorem tw_141 : Cond.privateMethod yCl_stationAt ∈ lw_tbl := List.mem_append_right _ (List.mem_append_left _ (List.mem_of_getElem? (l := tables_1_1) (i := 141) (by decide +kernel)))
theorem tw_142 : Cond.instanceMethod yCl_stationAt ∈ tb_ := tb_in (List.mem_append_right _ (List.mem_append_left _ (List.mem_of_getElem? (l := tables_1_1) (i := 142) (by decide +kernel)))) (by decide +kernel)
theorem tw_143 : Cond.code yCl_stationAt prog_1_method_17_code 2 (some (FieldType.object "ChannelledLink$Station")) ∈ tb_ := tb_in (List.mem_append_right _ (List.mem_append_left _ (List.mem_of_getElem? (l := tables_1_1) (i := 143) (by decide +kernel)))) (by decide +kernel)
theorem tw_144 : Cond.classLink "ChannelledLink" 175 "java/lang/IndexOutOfBoundsException" ∈ tb_ := tb_in (List.mem_append_right _ (List.mem_append_left _ (List.mem_of_getElem? (l := tables_1_1) (i := 144) (by decide +kernel)))) (by decide +kernel)
theorem tw_145 : Cond.instantiable "java/lang/IndexOutOfBoundsException" 6 ∈ tb_ := tb_in (List.mem_append_right _ (List.mem_append_left _ (List.mem_of_getElem? (l := tables_1_1) (i := 145) (by decide +kernel)))) (by decide +kernel)
theorem tw_146 : Cond.castable "java/lang/IndexOutOfBoundsException" "java/lang/IndexOutOfBoundsException" ∈ lw_tbl := List.mem_append_right _ (List.mem_append_left _ (List.mem_of_getElem? (l := tables_1_1) (i := 146) (by decide +kernel)))
theorem tw_147 : Cond.declares yRt_init ∈ lw_tbl := List.mem_append_right _ (List.mem_append_left _ (List.mem_of_getElem? (l := tables_1_1) (i := 147) (by decide +kernel)))
theorem tw_148 : Cond.declares yRt_init2 ∈ lw_tbl := List.mem_append_right _ (List.mem_append_left _ (List.mem_of_getElem? (l := tables_1_1) (i := 148) (by decide +kernel)))
theorem tw_149 : Cond.declares yEx_init ∈ lw_tbl := List.mem_append_right _ (List.mem_append_left _ (List.mem_of_getElem? (l := tables_1_1) (i := 149) (by decide +kernel)))
theorem tw_150 : Cond.declares yEx_init2 ∈ lw_tbl := List.mem_append_right _ (List.mem_append_left _ (List.mem_of_getElem? (l := tables_1_1) (i := 150) (by decide +kernel)))
theorem tw_151 : Cond.declares yTh_init ∈ lw_tbl := List.mem_append_right _ (List.mem_append_left _ (List.mem_of_getElem? (l := tables_1_1) (i := 151) (by decide +kernel)))
theorem tw_152 : Cond.declares yTh_init2 ∈ lw_tbl := List.mem_append_right _ (List.mem_append_left _ (List.mem_of_getElem? (l := tables_1_1) (i := 152) (by decide +kernel)))
theorem tw_153 : Cond.selects "java/lang/IndexOutOfBoundsException" yTh_fillInStackTrace yTh_fillInStackTrace ∈ tb_ := tb_in (List.mem_append_right _ (List.mem_append_left _ (List.mem_of_getElem? (l := tables_1_1) (i := 153) (by decide +kernel)))) (by decide +kernel)
theorem tw_154 : Cond.selects "java/lang/IndexOutOfBoundsException" yTh_fillInStackTrace2 yTh_fillInStackTrace2 ∈ tb_ := tb_in (List.mem_append_right _ (List.mem_append_left _ (List.mem_of_getElem? (l := tables_1_1) (i := 154) (by decide +kernel)))) (by decide +kernel)
theorem tw_155 : Cond.lays "java/lang/IndexOutOfBoundsException" "java/lang/Throwable" "cause" "Ljava/lang/Throwable;" ∈ tb_ := tb_in (List.mem_append_right _ (List.mem_append_left _ (List.mem_of_getElem? (l := tables_1_1) (i := 155) (by decide +kernel)))) (by decide +kernel)
theorem tw_156 : Cond.lays "java/lang/Throwable" "java/lang/Throwable" "cause" "Ljava/lang/Throwable;" ∈ tb_ := tb_in (List.mem_append_right _ (List.mem_append_left _ (List.mem_of_getElem? (l := tables_1_1) (i := 156) (by decide +kernel)))) (by decide +kernel)
theorem tw_157 : Cond.lays "java/lang/IndexOutOfBoundsException" "java/lang/Throwable" "stackTrace" "[Ljava/lang/StackTraceElement;" ∈ tb_ := tb_in (List.mem_append_right _ (List.mem_append_left _ (List.mem_of_getElem? (l := tables_1_1) (i := 157) (by decide +kernel)))) (by decide +kernel)
theorem tw_158 : Cond.lays "java/lang/Throwable" "java/lang/Throwable" "stackTrace" "[Ljava/lang/StackTraceElement;" ∈ tb_ := tb_in (List.mem_append_right _ (List.mem_append_left _ (List.mem_of_getElem? (l := tables_1_1) (i := 158) (by decide +kernel)))) (by decide +kernel)
theorem tw_159 : Cond.lays "java/lang/IndexOutOfBoundsException" "java/lang/Throwable" "suppressedExceptions" "Ljava/util/List;" ∈ tb_ := tb_in (List.mem_append_right _ (List.mem_append_left _ (List.mem_of_getElem? (l := tables_1_1) (i := 159) (by decide +kernel)))) (by decide +kernel)
theorem tw_160 : Cond.lays "java/lang/Throwable" "java/lang/Throwable" "suppressedExceptions" "Ljava/util/List;" ∈ tb_ := tb_in (List.mem_append_right _ (List.mem_append_left _ (List.mem_of_getElem? (l := tables_1_1) (i := 160) (by decide +kernel)))) (by decide +kernel)
theorem tw_161 : Cond.lays "java/lang/IndexOutOfBoundsException" "java/lang/Throwable" "detailMessage" "Ljava/lang/String;" ∈ tb_ := tb_in (List.mem_append_right _ (List.mem_append_left _ (List.mem_of_getElem? (l := tables_1_1) (i := 161) (by decide +kernel)))) (by decide +kernel)
theorem tw_162 : Cond.lays "java/lang/Throwable" "java/lang/Throwable" "detailMessage" "Ljava/lang/String;" ∈ tb_ := tb_in (List.mem_append_right _ (List.mem_append_left _ (List.mem_of_getElem? (l := tables_1_1) (i := 162) (by decide +kernel)))) (by decide +kernel)
theorem tw_163 : Cond.lays "java/lang/IndexOutOfBoundsException" "java/lang/Throwable" "backtrace" "Ljava/lang/Object;" ∈ tb_ := tb_in (List.mem_append_right _ (List.mem_append_left _ (List.mem_of_getElem? (l := tables_1_1) (i := 163) (by decide +kernel)))) (by decide +kernel)
theorem tw_164 : Cond.lays "java/lang/Throwable" "java/lang/Throwable" "backtrace" "Ljava/lang/Object;" ∈ tb_ := tb_in (List.mem_append_right _ (List.mem_append_left _ (List.mem_of_getElem? (l := tables_1_1) (i := 164) (by decide +kernel)))) (by decide +kernel)
theorem tw_165 : Cond.fieldLink "java/lang/Throwable" 198 "java/lang/Throwable" "backtrace" "Ljava/lang/Object;" ∈ tb_ := tb_in (List.mem_append_right _ (List.mem_append_left _ (List.mem_of_getElem? (l := tables_1_1) (i := 165) (by decide +kernel)))) (by decide +kernel)
theorem tw_166 : Cond.superclass "java/lang/Throwable" "java/lang/Object" ∈ tb_ := tb_in (List.mem_append_right _ (List.mem_append_left _ (List.mem_of_getElem? (l := tables_1_1) (i := 166) (by decide +kernel)))) (by decide +kernel)
theorem tw_167 : Cond.instanceMethod yTh_init ∈ tb_ := tb_in (List.mem_append_right _ (List.mem_append_left _ (List.mem_of_getElem? (l := tables_1_1) (i := 167) (by decide +kernel)))) (by decide +kernel)
theorem tw_168 : Cond.code yTh_init prog_17_method_1_code 1 none ∈ tb_ := tb_in (List.mem_append_right _ (List.mem_append_left _ (List.mem_of_getElem? (l := tables_1_1) (i := 168) (by decide +kernel)))) (by decide +kernel)
theorem tw_169 : Cond.methodLink "java/lang/Throwable" 1 yOb_init ∈ tb_ := tb_in (List.mem_append_right _ (List.mem_append_left _ (List.mem_of_getElem? (l := tables_1_1) (i := 169) (by decide +kernel)))) (by decide +kernel)
theorem tw_170 : Cond.fieldLink "java/lang/Throwable" 13 "java/lang/Throwable" "UNASSIGNED_STACK" "[Ljava/lang/StackTraceElement;" ∈ tb_ := tb_in (List.mem_append_right _ (List.mem_append_left _ (List.mem_of_getElem? (l := tables_1_1) (i := 170) (by decide +kernel)))) (by decide +kernel)
theorem tw_171 : Cond.laysStatic "java/lang/Throwable" "UNASSIGNED_STACK" "[Ljava/lang/StackTraceElement;" ∈ lw_tbl := List.mem_append_right _ (List.mem_append_left _ (List.mem_of_getElem? (l := tables_1_1) (i := 171) (by decide +kernel)))
theorem tw_172 : Cond.fieldLink "java/lang/Throwable" 20 "java/lang/Throwable" "SUPPRESSED_SENTINEL" "Ljava/util/List;" ∈ tb_ := tb_in (List.mem_append_right _ (List.mem_append_left _ (List.mem_of_getElem? (l := tables_1_1) (i := 172) (by decide +kernel)))) (by decide +kernel)
theorem tw_173 : Cond.laysStatic "java/lang/Throwable" "SUPPRESSED_SENTINEL" "Ljava/util/List;" ∈ lw_tbl := List.mem_append_right _ (List.mem_append_left _ (List.mem_of_getElem? (l := tables_1_1) (i := 173) (by decide +kernel)))
theorem tw_174 : Cond.methodLink "java/lang/Throwable" 27 yTh_fillInStackTrace2 ∈ tb_ := tb_in (List.mem_append_right _ (List.mem_append_left _ (List.mem_of_getElem? (l := tables_1_1) (i := 174) (by decide +kernel)))) (by decide +kernel)
theorem tw_175 : Cond.instanceMethod yTh_fillInStackTrace2 ∈ tb_ := tb_in (List.mem_append_right _ (List.mem_append_left _ (List.mem_of_getElem? (l := tables_1_1) (i := 175) (by decide +kernel)))) (by decide +kernel)
theorem tw_176 : Cond.sameMethod "java/lang/Throwable" "java/lang/Throwable" "fillInStackTrace" "()Ljava/lang/Throwable;" ∈ tb_ := tb_in (List.mem_append_right _ (List.mem_append_left _ (List.mem_of_getElem? (l := tables_1_1) (i := 176) (by decide +kernel)))) (by decide +kernel)
theorem tw_177 : Cond.selects "java/lang/IllegalArgumentException" yTh_fillInStackTrace2 yTh_fillInStackTrace2 ∈ tb_ := tb_in (List.mem_append_right _ (List.mem_append_left _ (List.mem_of_getElem? (l := tables_1_1) (i := 177) (by decide +kernel)))) (by decide +kernel)
theorem tw_178 : Cond.selects "java/lang/IllegalStateException" yTh_fillInStackTrace2 yTh_fillInStackTrace2 ∈ tb_ := tb_in (List.mem_append_right _ (List.mem_append_left _ (List.mem_of_getElem? (l := tables_1_1) (i := 178) (by decide +kernel)))) (by decide +kernel)
theorem tw_179 : Cond.selects "java/util/NoSuchElementException" yTh_fillInStackTrace2 yTh_fillInStackTrace2 ∈ tb_ := tb_in (List.mem_append_right _ (List.mem_append_left _ (List.mem_of_getElem? (l := tables_1_1) (i := 179) (by decide +kernel)))) (by decide +kernel)
theorem tw_180 : Cond.codeSync yTh_fillInStackTrace2 prog_17_method_18_code 1 (some (FieldType.object "java/lang/Throwable")) ∈ tb_ := tb_in (List.mem_append_right _ (List.mem_append_left _ (List.mem_of_getElem? (l := tables_1_1) (i := 180) (by decide +kernel)))) (by decide +kernel)
theorem tw_181 : Cond.methodLink "java/lang/Throwable" 202 yTh_fillInStackTrace ∈ tb_ := tb_in (List.mem_append_right _ (List.mem_append_left _ (List.mem_of_getElem? (l := tables_1_1) (i := 181) (by decide +kernel)))) (by decide +kernel)
theorem tw_182 : Cond.privateMethod yTh_fillInStackTrace ∈ lw_tbl := List.mem_append_right _ (List.mem_append_left _ (List.mem_of_getElem? (l := tables_1_1) (i := 182) (by decide +kernel)))
theorem tw_183 : Cond.instanceMethod yTh_fillInStackTrace ∈ tb_ := tb_in (List.mem_append_right _ (List.mem_append_left _ (List.mem_of_getElem? (l := tables_1_1) (i := 183) (by decide +kernel)))) (by decide +kernel)
theorem tw_184 : Cond.instantiable "java/lang/Throwable" 6 ∈ tb_ := tb_in (List.mem_append_right _ (List.mem_append_left _ (List.mem_of_getElem? (l := tables_1_1) (i := 184) (by decide +kernel)))) (by decide +kernel)
theorem tw_185 : Cond.native yTh_fillInStackTrace ∈ tb_ := tb_in (List.mem_append_right _ (List.mem_append_left _ (List.mem_of_getElem? (l := tables_1_1) (i := 185) (by decide +kernel)))) (by decide +kernel)
theorem tw_186 : Cond.stringRef "ChannelledLink" 177 "no such station" ∈ lw_tbl := List.mem_append_right _ (List.mem_append_left _ (List.mem_of_getElem? (l := tables_1_1) (i := 186) (by decide +kernel)))
theorem tw_187 : Cond.methodLink "ChannelledLink" 179 yIo_init ∈ tb_ := tb_in (List.mem_append_right _ (List.mem_append_left _ (List.mem_of_getElem? (l := tables_1_1) (i := 187) (by decide +kernel)))) (by decide +kernel)
theorem tw_188 : Cond.instanceMethod yIo_init ∈ tb_ := tb_in (List.mem_append_right _ (List.mem_append_left _ (List.mem_of_getElem? (l := tables_1_1) (i := 188) (by decide +kernel)))) (by decide +kernel)
theorem tw_189 : Cond.code yIo_init prog_12_method_2_code 2 none ∈ tb_ := tb_in (List.mem_append_right _ (List.mem_append_left _ (List.mem_of_getElem? (l := tables_1_1) (i := 189) (by decide +kernel)))) (by decide +kernel)
theorem tw_190 : Cond.methodLink "java/lang/IndexOutOfBoundsException" 7 yRt_init2 ∈ tb_ := tb_in (List.mem_append_right _ (List.mem_append_left _ (List.mem_of_getElem? (l := tables_1_1) (i := 190) (by decide +kernel)))) (by decide +kernel)
theorem tw_191 : Cond.instanceMethod yRt_init2 ∈ tb_ := tb_in (List.mem_append_right _ (List.mem_append_left _ (List.mem_of_getElem? (l := tables_1_1) (i := 191) (by decide +kernel)))) (by decide +kernel)
theorem tw_192 : Cond.code yRt_init2 prog_14_method_2_code 2 none ∈ tb_ := tb_in (List.mem_append_right _ (List.mem_append_left _ (List.mem_of_getElem? (l := tables_1_1) (i := 192) (by decide +kernel)))) (by decide +kernel)
theorem tw_193 : Cond.methodLink "java/lang/RuntimeException" 7 yEx_init2 ∈ tb_ := tb_in (List.mem_append_right _ (List.mem_append_left _ (List.mem_of_getElem? (l := tables_1_1) (i := 193) (by decide +kernel)))) (by decide +kernel)
theorem tw_194 : Cond.instanceMethod yEx_init2 ∈ tb_ := tb_in (List.mem_append_right _ (List.mem_append_left _ (List.mem_of_getElem? (l := tables_1_1) (i := 194) (by decide +kernel)))) (by decide +kernel)
theorem tw_195 : Cond.code yEx_init2 prog_9_method_2_code 2 none ∈ tb_ := tb_in (List.mem_append_right _ (List.mem_append_left _ (List.mem_of_getElem? (l := tables_1_1) (i := 195) (by decide +kernel)))) (by decide +kernel)
theorem tw_196 : Cond.methodLink "java/lang/Exception" 7 yTh_init2 ∈ tb_ := tb_in (List.mem_append_right _ (List.mem_append_left _ (List.mem_of_getElem? (l := tables_1_1) (i := 196) (by decide +kernel)))) (by decide +kernel)
theorem tw_197 : Cond.instanceMethod yTh_init2 ∈ tb_ := tb_in (List.mem_append_right _ (List.mem_append_left _ (List.mem_of_getElem? (l := tables_1_1) (i := 197) (by decide +kernel)))) (by decide +kernel)
theorem tw_198 : Cond.code yTh_init2 prog_17_method_2_code 2 none ∈ tb_ := tb_in (List.mem_append_right _ (List.mem_append_left _ (List.mem_of_getElem? (l := tables_1_1) (i := 198) (by decide +kernel)))) (by decide +kernel)
theorem tw_199 : Cond.fieldLink "java/lang/Throwable" 31 "java/lang/Throwable" "detailMessage" "Ljava/lang/String;" ∈ tb_ := tb_in (List.mem_append_right _ (List.mem_append_left _ (List.mem_of_getElem? (l := tables_1_1) (i := 200) (by decide +kernel)))) (by decide +kernel)
theorem tw_200 : Cond.fieldLink "java/lang/Throwable" 7 "java/lang/Throwable" "cause" "Ljava/lang/Throwable;" ∈ tb_ := tb_in (List.mem_append_right _ (List.mem_append_left _ (List.mem_of_getElem? (l := tables_1_1) (i := 201) (by decide +kernel)))) (by decide +kernel)
theorem tw_201 : Cond.fieldLink "java/lang/Throwable" 17 "java/lang/Throwable" "stackTrace" "[Ljava/lang/StackTraceElement;" ∈ tb_ := tb_in (List.mem_append_right _ (List.mem_append_left _ (List.mem_of_getElem? (l := tables_1_1) (i := 202) (by decide +kernel)))) (by decide +kernel)
theorem tw_202 : Cond.fieldLink "java/lang/Throwable" 24 "java/lang/Throwable" "suppressedExceptions" "Ljava/util/List;" ∈ tb_ := tb_in (List.mem_append_right _ (List.mem_append_left _ (List.mem_of_getElem? (l := tables_1_1) (i := 203) (by decide +kernel)))) (by decide +kernel)
theorem tw_203 : Cond.soleField "java/lang/Throwable" "backtrace" ∈ tb_ := tb_in (List.mem_append_right _ (List.mem_append_left _ (List.mem_of_getElem? (l := tables_1_1) (i := 204) (by decide +kernel)))) (by decide +kernel)
theorem tw_204 : Cond.soleField "java/lang/Throwable" "detailMessage" ∈ tb_ := tb_in (List.mem_append_right _ (List.mem_append_left _ (List.mem_of_getElem? (l := tables_1_1) (i := 205) (by decide +kernel)))) (by decide +kernel)
theorem tw_205 : Cond.soleField "java/lang/Throwable" "cause" ∈ tb_ := tb_in (List.mem_append_right _ (List.mem_append_left _ (List.mem_of_getElem? (l := tables_1_1) (i := 206) (by decide +kernel)))) (by decide +kernel)
theorem tw_206 : Cond.soleField "java/lang/Throwable" "stackTrace" ∈ tb_ := tb_in (List.mem_append_right _ (List.mem_append_left _ (List.mem_of_getElem? (l := tables_1_1) (i := 207) (by decide +kernel)))) (by decide +kernel)
theorem tw_207 : Cond.lays "java/lang/IndexOutOfBoundsException" "java/lang/Throwable" "depth" "I" ∈ tb_ := tb_in (List.mem_append_right _ (List.mem_append_left _ (List.mem_of_getElem? (l := tables_1_1) (i := 208) (by decide +kernel)))) (by decide +kernel)
theorem tw_208 : Cond.soleField "java/lang/Throwable" "depth" ∈ tb_ := tb_in (List.mem_append_right _ (List.mem_append_left _ (List.mem_of_getElem? (l := tables_1_1) (i := 209) (by decide +kernel)))) (by decide +kernel)
theorem tw_209 : Cond.soleField "java/lang/Throwable" "suppressedExceptions" ∈ tb_ := tb_in (List.mem_append_right _ (List.mem_append_left _ (List.mem_of_getElem? (l := tables_1_1) (i := 210) (by decide +kernel)))) (by decide +kernel)
theorem tw_210 : Cond.superclass "java/lang/IndexOutOfBoundsException" "java/lang/RuntimeException" ∈ tb_ := tb_in (List.mem_append_right _ (List.mem_append_left _ (List.mem_of_getElem? (l := tables_1_1) (i := 211) (by decide +kernel)))) (by decide +kernel)
theorem tw_211 : Cond.arrayClass FieldType.byte ∈ tb_ := tb_in (List.mem_append_right _ (List.mem_append_left _ (List.mem_of_getElem? (l := tables_1_1) (i := 212) (by decide +kernel)))) (by decide +kernel)
theorem tw_212 : Cond.methodLink "ChannelledLink" 27 ySt_setUp ∈ tb_ := tb_in (List.mem_append_right _ (List.mem_append_left _ (List.mem_of_getElem? (l := tables_1_1) (i := 213) (by decide +kernel)))) (by decide +kernel)
theorem tw_213 : Cond.instanceMethod ySt_setUp ∈ tb_ := tb_in (List.mem_append_right _ (List.mem_append_left _ (List.mem_of_getElem? (l := tables_1_1) (i := 214) (by decide +kernel)))) (by decide +kernel)
theorem tw_214 : Cond.selects "ChannelledLink$Station" ySt_setUp ySt_setUp ∈ tb_ := tb_in (List.mem_append_right _ (List.mem_append_left _ (List.mem_of_getElem? (l := tables_1_1) (i := 215) (by decide +kernel)))) (by decide +kernel)
theorem tw_215 : Cond.code ySt_setUp prog_6_method_2_code 1 none ∈ tb_ := tb_in (List.mem_append_right _ (List.mem_append_left _ (List.mem_of_getElem? (l := tables_1_1) (i := 216) (by decide +kernel)))) (by decide +kernel)
theorem tw_216 : Cond.methodLink "ChannelledLink$Station" 39 ySt_cleanAs ∈ tb_ := tb_in (List.mem_append_right _ (List.mem_append_left _ (List.mem_of_getElem? (l := tables_1_1) (i := 217) (by decide +kernel)))) (by decide +kernel)
theorem tw_217 : Cond.privateMethod ySt_cleanAs ∈ lw_tbl := List.mem_append_right _ (List.mem_append_left _ (List.mem_of_getElem? (l := tables_1_1) (i := 218) (by decide +kernel)))
theorem tw_218 : Cond.instanceMethod ySt_cleanAs ∈ tb_ := tb_in (List.mem_append_right _ (List.mem_append_left _ (List.mem_of_getElem? (l := tables_1_1) (i := 219) (by decide +kernel)))) (by decide +kernel)
theorem tw_219 : Cond.code ySt_cleanAs prog_6_method_20_code 3 none ∈ tb_ := tb_in (List.mem_append_right _ (List.mem_append_left _ (List.mem_of_getElem? (l := tables_1_1) (i := 220) (by decide +kernel)))) (by decide +kernel)
theorem tw_220 : Cond.methodLink "ChannelledLink$Station" 159 yCh_renewAs ∈ tb_ := tb_in (List.mem_append_right _ (List.mem_append_left _ (List.mem_of_getElem? (l := tables_1_1) (i := 221) (by decide +kernel)))) (by decide +kernel)
theorem tw_221 : Cond.instanceMethod yCh_renewAs ∈ tb_ := tb_in (List.mem_append_right _ (List.mem_append_left _ (List.mem_of_getElem? (l := tables_1_1) (i := 222) (by decide +kernel)))) (by decide +kernel)
theorem tw_222 : Cond.selects "ChannelledLink$Channel" yCh_renewAs yCh_renewAs ∈ tb_ := tb_in (List.mem_append_right _ (List.mem_append_left _ (List.mem_of_getElem? (l := tables_1_1) (i := 223) (by decide +kernel)))) (by decide +kernel)
theorem tw_223 : Cond.code yCh_renewAs prog_2_method_2_code 2 none ∈ tb_ := tb_in (List.mem_append_right _ (List.mem_append_left _ (List.mem_of_getElem? (l := tables_1_1) (i := 224) (by decide +kernel)))) (by decide +kernel)
theorem tw_224 : Cond.methodLink "ChannelledLink$Station" 44 ySt_sendUnnumbered ∈ tb_ := tb_in (List.mem_append_right _ (List.mem_append_left _ (List.mem_of_getElem? (l := tables_1_1) (i := 225) (by decide +kernel)))) (by decide +kernel)
theorem tw_225 : Cond.privateMethod ySt_sendUnnumbered ∈ lw_tbl := List.mem_append_right _ (List.mem_append_left _ (List.mem_of_getElem? (l := tables_1_1) (i := 226) (by decide +kernel)))
theorem tw_226 : Cond.instanceMethod ySt_sendUnnumbered ∈ tb_ := tb_in (List.mem_append_right _ (List.mem_append_left _ (List.mem_of_getElem? (l := tables_1_1) (i := 227) (by decide +kernel)))) (by decide +kernel)
theorem tw_227 : Cond.code ySt_sendUnnumbered prog_6_method_17_code 2 none ∈ tb_ := tb_in (List.mem_append_right _ (List.mem_append_left _ (List.mem_of_getElem? (l := tables_1_1) (i := 228) (by decide +kernel)))) (by decide +kernel)
theorem tw_228 : Cond.methodLinkNest "ChannelledLink$Station" 155 yFr_of "ChannelledLink" ∈ lw_tbl := List.mem_append_right _ (List.mem_append_left _ (List.mem_of_getElem? (l := tables_1_1) (i := 229) (by decide +kernel)))
theorem tw_229 : Cond.static yFr_of ∈ tb_ := tb_in (List.mem_append_right _ (List.mem_append_left _ (List.mem_of_getElem? (l := tables_1_1) (i := 230) (by decide +kernel)))) (by decide +kernel)
theorem tw_230 : Cond.code yFr_of prog_3_method_2_code 4 (some FieldType.int) ∈ tb_ := tb_in (List.mem_append_right _ (List.mem_append_left _ (List.mem_of_getElem? (l := tables_1_1) (i := 231) (by decide +kernel)))) (by decide +kernel)
theorem tw_231 : Cond.methodLink "ChannelledLink$Station" 144 yRw_add ∈ tb_ := tb_in (List.mem_append_right _ (List.mem_append_left _ (List.mem_of_getElem? (l := tables_1_1) (i := 232) (by decide +kernel)))) (by decide +kernel)
theorem tw_232 : Cond.instanceMethod yRw_add ∈ tb_ := tb_in (List.mem_append_right _ (List.mem_append_left _ (List.mem_of_getElem? (l := tables_1_1) (i := 233) (by decide +kernel)))) (by decide +kernel)
theorem tw_233 : Cond.selects "ChannelledLink$Row" yRw_add yRw_add ∈ tb_ := tb_in (List.mem_append_right _ (List.mem_append_left _ (List.mem_of_getElem? (l := tables_1_1) (i := 234) (by decide +kernel)))) (by decide +kernel)
theorem tw_234 : Cond.code yRw_add prog_5_method_2_code 2 none ∈ tb_ := tb_in (List.mem_append_right _ (List.mem_append_left _ (List.mem_of_getElem? (l := tables_1_1) (i := 235) (by decide +kernel)))) (by decide +kernel)
theorem tw_235 : Cond.methodLink "ChannelledLinkLaw" 83 yLw_expire ∈ tb_ := tb_in (List.mem_append_right _ (List.mem_append_left _ (List.mem_of_getElem? (l := tables_1_1) (i := 236) (by decide +kernel)))) (by decide +kernel)
theorem tw_236 : Cond.static yLw_expire ∈ tb_ := tb_in (List.mem_append_right _ (List.mem_append_left _ (List.mem_of_getElem? (l := tables_1_1) (i := 237) (by decide +kernel)))) (by decide +kernel)
theorem tw_237 : Cond.codeWith yLw_expire method_4_code 4 (some FieldType.int) [((0 : Nat), (9 : Nat), (12 : Nat), (13 : Nat)), ((0 : Nat), (9 : Nat), (15 : Nat), (19 : Nat))] ∈ tb_ := tb_in (List.mem_append_right _ (List.mem_append_left _ (List.mem_of_getElem? (l := tables_1_1) (i := 238) (by decide +kernel)))) (by decide +kernel)
theorem tw_238 : Cond.classLink "ChannelledLinkLaw" 19 "java/lang/IllegalStateException" ∈ tb_ := tb_in (List.mem_append_right _ (List.mem_append_left _ (List.mem_of_getElem? (l := tables_1_1) (i := 239) (by decide +kernel)))) (by decide +kernel)
theorem tw_239 : Cond.methodLink "ChannelledLinkLaw" 15 yCl_expire ∈ tb_ := tb_in (List.mem_append_right _ (List.mem_append_right _ (List.mem_append_left _ (List.mem_of_getElem? (l := tables_1_2) (i := 0) (by decide +kernel))))) (by decide +kernel)
theorem tw_240 : Cond.instanceMethod yCl_expire ∈ tb_ := tb_in (List.mem_append_right _ (List.mem_append_right _ (List.mem_append_left _ (List.mem_of_getElem? (l := tables_1_2) (i := 1) (by decide +kernel))))) (by decide +kernel)
theorem tw_241 : Cond.selects "ChannelledLink" yCl_expire yCl_expire ∈ tb_ := tb_in (List.mem_append_right _ (List.mem_append_right _ (List.mem_append_left _ (List.mem_of_getElem? (l := tables_1_2) (i := 2) (by decide +kernel))))) (by decide +kernel)
theorem tw_242 : Cond.code yCl_expire prog_1_method_3_code 3 (some FieldType.int) ∈ tb_ := tb_in (List.mem_append_right _ (List.mem_append_right _ (List.mem_append_left _ (List.mem_of_getElem? (l := tables_1_2) (i := 3) (by decide +kernel))))) (by decide +kernel)
theorem tw_243 : Cond.methodLink "ChannelledLink" 30 ySt_waitsForAnswer ∈ tb_ := tb_in (List.mem_append_right _ (List.mem_append_right _ (List.mem_append_left _ (List.mem_of_getElem? (l := tables_1_2) (i := 4) (by decide +kernel))))) (by decide +kernel)
theorem tw_244 : Cond.instanceMethod ySt_waitsForAnswer ∈ tb_ := tb_in (List.mem_append_right _ (List.mem_append_right _ (List.mem_append_left _ (List.mem_of_getElem? (l := tables_1_2) (i := 5) (by decide +kernel))))) (by decide +kernel)
theorem tw_245 : Cond.selects "ChannelledLink$Station" ySt_waitsForAnswer ySt_waitsForAnswer ∈ tb_ := tb_in (List.mem_append_right _ (List.mem_append_right _ (List.mem_append_left _ (List.mem_of_getElem? (l := tables_1_2) (i := 6) (by decide +kernel))))) (by decide +kernel)
theorem tw_246 : Cond.code ySt_waitsForAnswer prog_6_method_3_code 1 (some FieldType.boolean) ∈ tb_ := tb_in (List.mem_append_right _ (List.mem_append_right _ (List.mem_append_left _ (List.mem_of_getElem? (l := tables_1_2) (i := 7) (by decide +kernel))))) (by decide +kernel)
theorem tw_247 : Cond.methodLink "ChannelledLink$Station" 47 ySt_unconfirmed ∈ tb_ := tb_in (List.mem_append_right _ (List.mem_append_right _ (List.mem_append_left _ (List.mem_of_getElem? (l := tables_1_2) (i := 8) (by decide +kernel))))) (by decide +kernel)
theorem tw_248 : Cond.privateMethod ySt_unconfirmed ∈ lw_tbl := List.mem_append_right _ (List.mem_append_right _ (List.mem_append_left _ (List.mem_of_getElem? (l := tables_1_2) (i := 9) (by decide +kernel))))
theorem tw_249 : Cond.instanceMethod ySt_unconfirmed ∈ tb_ := tb_in (List.mem_append_right _ (List.mem_append_right _ (List.mem_append_left _ (List.mem_of_getElem? (l := tables_1_2) (i := 10) (by decide +kernel))))) (by decide +kernel)
theorem tw_250 : Cond.code ySt_unconfirmed prog_6_method_19_code 1 (some FieldType.int) ∈ tb_ := tb_in (List.mem_append_right _ (List.mem_append_right _ (List.mem_append_left _ (List.mem_of_getElem? (l := tables_1_2) (i := 11) (by decide +kernel))))) (by decide +kernel)
theorem tw_251 : Cond.methodLink "ChannelledLink" 34 yCl_requireState ∈ tb_ := tb_in (List.mem_append_right _ (List.mem_append_right _ (List.mem_append_left _ (List.mem_of_getElem? (l := tables_1_2) (i := 12) (by decide +kernel))))) (by decide +kernel)
theorem tw_252 : Cond.static yCl_requireState ∈ tb_ := tb_in (List.mem_append_right _ (List.mem_append_right _ (List.mem_append_left _ (List.mem_of_getElem? (l := tables_1_2) (i := 13) (by decide +kernel))))) (by decide +kernel)
theorem tw_253 : Cond.code yCl_requireState prog_1_method_21_code 1 none ∈ tb_ := tb_in (List.mem_append_right _ (List.mem_append_right _ (List.mem_append_left _ (List.mem_of_getElem? (l := tables_1_2) (i := 14) (by decide +kernel))))) (by decide +kernel)
theorem tw_254 : Cond.classLink "ChannelledLink" 196 "java/lang/IllegalStateException" ∈ tb_ := tb_in (List.mem_append_right _ (List.mem_append_right _ (List.mem_append_left _ (List.mem_of_getElem? (l := tables_1_2) (i := 15) (by decide +kernel))))) (by decide +kernel)
theorem tw_255 : Cond.instantiable "java/lang/IllegalStateException" 6 ∈ tb_ := tb_in (List.mem_append_right _ (List.mem_append_right _ (List.mem_append_left _ (List.mem_of_getElem? (l := tables_1_2) (i := 16) (by decide +kernel))))) (by decide +kernel)
theorem tw_256 : Cond.castable "java/lang/IllegalStateException" "java/lang/IllegalStateException" ∈ lw_tbl := List.mem_append_right _ (List.mem_append_right _ (List.mem_append_left _ (List.mem_of_getElem? (l := tables_1_2) (i := 17) (by decide +kernel))))
theorem tw_257 : Cond.selects "java/lang/IllegalStateException" yTh_fillInStackTrace yTh_fillInStackTrace ∈ tb_ := tb_in (List.mem_append_right _ (List.mem_append_right _ (List.mem_append_left _ (List.mem_of_getElem? (l := tables_1_2) (i := 18) (by decide +kernel))))) (by decide +kernel)
theorem tw_258 : Cond.lays "java/lang/IllegalStateException" "java/lang/Throwable" "cause" "Ljava/lang/Throwable;" ∈ tb_ := tb_in (List.mem_append_right _ (List.mem_append_right _ (List.mem_append_left _ (List.mem_of_getElem? (l := tables_1_2) (i := 19) (by decide +kernel))))) (by decide +kernel)
theorem tw_259 : Cond.lays "java/lang/IllegalStateException" "java/lang/Throwable" "stackTrace" "[Ljava/lang/StackTraceElement;" ∈ tb_ := tb_in (List.mem_append_right _ (List.mem_append_right _ (List.mem_append_left _ (List.mem_of_getElem? (l := tables_1_2) (i := 20) (by decide +kernel))))) (by decide +kernel)
theorem tw_260 : Cond.lays "java/lang/IllegalStateException" "java/lang/Throwable" "suppressedExceptions" "Ljava/util/List;" ∈ tb_ := tb_in (List.mem_append_right _ (List.mem_append_right _ (List.mem_append_left _ (List.mem_of_getElem? (l := tables_1_2) (i := 21) (by decide +kernel))))) (by decide +kernel)
theorem tw_261 : Cond.lays "java/lang/IllegalStateException" "java/lang/Throwable" "detailMessage" "Ljava/lang/String;" ∈ tb_ := tb_in (List.mem_append_right _ (List.mem_append_right _ (List.mem_append_left _ (List.mem_of_getElem? (l := tables_1_2) (i := 22) (by decide +kernel))))) (by decide +kernel)
theorem tw_262 : Cond.lays "java/lang/IllegalStateException" "java/lang/Throwable" "backtrace" "Ljava/lang/Object;" ∈ tb_ := tb_in (List.mem_append_right _ (List.mem_append_right _ (List.mem_append_left _ (List.mem_of_getElem? (l := tables_1_2) (i := 23) (by decide +kernel))))) (by decide +kernel)
theorem tw_263 : Cond.stringRef "ChannelledLink" 198 "not in this state" ∈ lw_tbl := List.mem_append_right _ (List.mem_append_right _ (List.mem_append_left _ (List.mem_of_getElem? (l := tables_1_2) (i := 24) (by decide +kernel))))
theorem tw_264 : Cond.methodLink "ChannelledLink" 200 yIs_init ∈ tb_ := tb_in (List.mem_append_right _ (List.mem_append_right _ (List.mem_append_left _ (List.mem_of_getElem? (l := tables_1_2) (i := 25) (by decide +kernel))))) (by decide +kernel)
theorem tw_265 : Cond.instanceMethod yIs_init ∈ tb_ := tb_in (List.mem_append_right _ (List.mem_append_right _ (List.mem_append_left _ (List.mem_of_getElem? (l := tables_1_2) (i := 26) (by decide +kernel))))) (by decide +kernel)
theorem tw_266 : Cond.code yIs_init prog_11_method_2_code 2 none ∈ tb_ := tb_in (List.mem_append_right _ (List.mem_append_right _ (List.mem_append_left _ (List.mem_of_getElem? (l := tables_1_2) (i := 27) (by decide +kernel))))) (by decide +kernel)
theorem tw_267 : Cond.methodLink "java/lang/IllegalStateException" 7 yRt_init2 ∈ tb_ := tb_in (List.mem_append_right _ (List.mem_append_right _ (List.mem_append_left _ (List.mem_of_getElem? (l := tables_1_2) (i := 28) (by decide +kernel))))) (by decide +kernel)
theorem tw_268 : Cond.lays "java/lang/IllegalStateException" "java/lang/Throwable" "depth" "I" ∈ tb_ := tb_in (List.mem_append_right _ (List.mem_append_right _ (List.mem_append_left _ (List.mem_of_getElem? (l := tables_1_2) (i := 29) (by decide +kernel))))) (by decide +kernel)
theorem tw_269 : Cond.superclass "java/lang/IllegalStateException" "java/lang/RuntimeException" ∈ tb_ := tb_in (List.mem_append_right _ (List.mem_append_right _ (List.mem_append_left _ (List.mem_of_getElem? (l := tables_1_2) (i := 30) (by decide +kernel))))) (by decide +kernel)
theorem tw_270 : Cond.methodLink "ChannelledLink" 38 ySt_tryAgain ∈ tb_ := tb_in (List.mem_append_right _ (List.mem_append_right _ (List.mem_append_left _ (List.mem_of_getElem? (l := tables_1_2) (i := 31) (by decide +kernel))))) (by decide +kernel)
theorem tw_271 : Cond.instanceMethod ySt_tryAgain ∈ tb_ := tb_in (List.mem_append_right _ (List.mem_append_right _ (List.mem_append_left _ (List.mem_of_getElem? (l := tables_1_2) (i := 32) (by decide +kernel))))) (by decide +kernel)
theorem tw_272 : Cond.selects "ChannelledLink$Station" ySt_tryAgain ySt_tryAgain ∈ tb_ := tb_in (List.mem_append_right _ (List.mem_append_right _ (List.mem_append_left _ (List.mem_of_getElem? (l := tables_1_2) (i := 33) (by decide +kernel))))) (by decide +kernel)
theorem tw_273 : Cond.code ySt_tryAgain prog_6_method_5_code 2 (some FieldType.int) ∈ tb_ := tb_in (List.mem_append_right _ (List.mem_append_right _ (List.mem_append_left _ (List.mem_of_getElem? (l := tables_1_2) (i := 34) (by decide +kernel))))) (by decide +kernel)
theorem tw_274 : Cond.methodLink "ChannelledLink$Station" 57 ySt_giveUp ∈ tb_ := tb_in (List.mem_append_right _ (List.mem_append_right _ (List.mem_append_left _ (List.mem_of_getElem? (l := tables_1_2) (i := 35) (by decide +kernel))))) (by decide +kernel)
theorem tw_275 : Cond.privateMethod ySt_giveUp ∈ lw_tbl := List.mem_append_right _ (List.mem_append_right _ (List.mem_append_left _ (List.mem_of_getElem? (l := tables_1_2) (i := 36) (by decide +kernel))))
theorem tw_276 : Cond.instanceMethod ySt_giveUp ∈ tb_ := tb_in (List.mem_append_right _ (List.mem_append_right _ (List.mem_append_left _ (List.mem_of_getElem? (l := tables_1_2) (i := 37) (by decide +kernel))))) (by decide +kernel)
theorem tw_277 : Cond.code ySt_giveUp prog_6_method_6_code 1 none ∈ tb_ := tb_in (List.mem_append_right _ (List.mem_append_right _ (List.mem_append_left _ (List.mem_of_getElem? (l := tables_1_2) (i := 38) (by decide +kernel))))) (by decide +kernel)
theorem tw_278 : Cond.methodLink "ChannelledLink$Station" 63 ySt_setUp ∈ tb_ := tb_in (List.mem_append_right _ (List.mem_append_right _ (List.mem_append_left _ (List.mem_of_getElem? (l := tables_1_2) (i := 39) (by decide +kernel))))) (by decide +kernel)
theorem tw_279 : Cond.methodLink "ChannelledLink$Station" 60 ySt_sendUnconfirmed ∈ tb_ := tb_in (List.mem_append_right _ (List.mem_append_right _ (List.mem_append_left _ (List.mem_of_getElem? (l := tables_1_2) (i := 40) (by decide +kernel))))) (by decide +kernel)
theorem tw_280 : Cond.privateMethod ySt_sendUnconfirmed ∈ lw_tbl := List.mem_append_right _ (List.mem_append_right _ (List.mem_append_left _ (List.mem_of_getElem? (l := tables_1_2) (i := 41) (by decide +kernel))))
theorem tw_281 : Cond.instanceMethod ySt_sendUnconfirmed ∈ tb_ := tb_in (List.mem_append_right _ (List.mem_append_right _ (List.mem_append_left _ (List.mem_of_getElem? (l := tables_1_2) (i := 42) (by decide +kernel))))) (by decide +kernel)
theorem tw_282 : Cond.code ySt_sendUnconfirmed prog_6_method_16_code 4 none ∈ tb_ := tb_in (List.mem_append_right _ (List.mem_append_right _ (List.mem_append_left _ (List.mem_of_getElem? (l := tables_1_2) (i := 43) (by decide +kernel))))) (by decide +kernel)
theorem tw_283 : Cond.methodLink "ChannelledLink$Station" 152 yRw_at ∈ tb_ := tb_in (List.mem_append_right _ (List.mem_append_right _ (List.mem_append_left _ (List.mem_of_getElem? (l := tables_1_2) (i := 44) (by decide +kernel))))) (by decide +kernel)
theorem tw_284 : Cond.instanceMethod yRw_at ∈ tb_ := tb_in (List.mem_append_right _ (List.mem_append_right _ (List.mem_append_left _ (List.mem_of_getElem? (l := tables_1_2) (i := 45) (by decide +kernel))))) (by decide +kernel)
theorem tw_285 : Cond.selects "ChannelledLink$Row" yRw_at yRw_at ∈ tb_ := tb_in (List.mem_append_right _ (List.mem_append_right _ (List.mem_append_left _ (List.mem_of_getElem? (l := tables_1_2) (i := 46) (by decide +kernel))))) (by decide +kernel)
theorem tw_286 : Cond.code yRw_at prog_5_method_3_code 2 (some FieldType.int) ∈ tb_ := tb_in (List.mem_append_right _ (List.mem_append_right _ (List.mem_append_left _ (List.mem_of_getElem? (l := tables_1_2) (i := 47) (by decide +kernel))))) (by decide +kernel)
theorem tw_287 : Cond.methodLinkNest "ChannelledLink$Station" 107 yCl_after "ChannelledLink" ∈ lw_tbl := List.mem_append_right _ (List.mem_append_right _ (List.mem_append_left _ (List.mem_of_getElem? (l := tables_1_2) (i := 48) (by decide +kernel))))
theorem tw_288 : Cond.static yCl_after ∈ tb_ := tb_in (List.mem_append_right _ (List.mem_append_right _ (List.mem_append_left _ (List.mem_of_getElem? (l := tables_1_2) (i := 49) (by decide +kernel))))) (by decide +kernel)
theorem tw_289 : Cond.code yCl_after prog_1_method_26_code 1 (some FieldType.int) ∈ tb_ := tb_in (List.mem_append_right _ (List.mem_append_right _ (List.mem_append_left _ (List.mem_of_getElem? (l := tables_1_2) (i := 50) (by decide +kernel))))) (by decide +kernel)
theorem tw_290 : Cond.methodLink "ChannelledLinkLaw" 87 yLw_deliver ∈ tb_ := tb_in (List.mem_append_right _ (List.mem_append_right _ (List.mem_append_left _ (List.mem_of_getElem? (l := tables_1_2) (i := 51) (by decide +kernel))))) (by decide +kernel)
theorem tw_291 : Cond.static yLw_deliver ∈ tb_ := tb_in (List.mem_append_right _ (List.mem_append_right _ (List.mem_append_left _ (List.mem_of_getElem? (l := tables_1_2) (i := 52) (by decide +kernel))))) (by decide +kernel)
theorem tw_292 : Cond.codeWith yLw_deliver method_5_code 4 (some FieldType.int) [((0 : Nat), (9 : Nat), (12 : Nat), (13 : Nat)), ((0 : Nat), (9 : Nat), (15 : Nat), (24 : Nat))] ∈ tb_ := tb_in (List.mem_append_right _ (List.mem_append_right _ (List.mem_append_left _ (List.mem_of_getElem? (l := tables_1_2) (i := 53) (by decide +kernel))))) (by decide +kernel)
theorem tw_293 : Cond.classLink "ChannelledLinkLaw" 24 "java/util/NoSuchElementException" ∈ tb_ := tb_in (List.mem_append_right _ (List.mem_append_right _ (List.mem_append_left _ (List.mem_of_getElem? (l := tables_1_2) (i := 54) (by decide +kernel))))) (by decide +kernel)
theorem tw_294 : Cond.methodLink "ChannelledLinkLaw" 21 yCl_deliver ∈ tb_ := tb_in (List.mem_append_right _ (List.mem_append_right _ (List.mem_append_left _ (List.mem_of_getElem? (l := tables_1_2) (i := 55) (by decide +kernel))))) (by decide +kernel)
theorem tw_295 : Cond.instanceMethod yCl_deliver ∈ tb_ := tb_in (List.mem_append_right _ (List.mem_append_right _ (List.mem_append_left _ (List.mem_of_getElem? (l := tables_1_2) (i := 56) (by decide +kernel))))) (by decide +kernel)
theorem tw_296 : Cond.selects "ChannelledLink" yCl_deliver yCl_deliver ∈ tb_ := tb_in (List.mem_append_right _ (List.mem_append_right _ (List.mem_append_left _ (List.mem_of_getElem? (l := tables_1_2) (i := 57) (by decide +kernel))))) (by decide +kernel)
theorem tw_297 : Cond.code yCl_deliver prog_1_method_4_code 4 (some FieldType.int) ∈ tb_ := tb_in (List.mem_append_right _ (List.mem_append_right _ (List.mem_append_left _ (List.mem_of_getElem? (l := tables_1_2) (i := 58) (by decide +kernel))))) (by decide +kernel)
theorem tw_298 : Cond.methodLink "ChannelledLink" 46 yCl_takeFrame ∈ tb_ := tb_in (List.mem_append_right _ (List.mem_append_right _ (List.mem_append_left _ (List.mem_of_getElem? (l := tables_1_2) (i := 59) (by decide +kernel))))) (by decide +kernel)
theorem tw_299 : Cond.static yCl_takeFrame ∈ tb_ := tb_in (List.mem_append_right _ (List.mem_append_right _ (List.mem_append_left _ (List.mem_of_getElem? (l := tables_1_2) (i := 60) (by decide +kernel))))) (by decide +kernel)
theorem tw_300 : Cond.code yCl_takeFrame prog_1_method_23_code 2 (some FieldType.int) ∈ tb_ := tb_in (List.mem_append_right _ (List.mem_append_right _ (List.mem_append_left _ (List.mem_of_getElem? (l := tables_1_2) (i := 61) (by decide +kernel))))) (by decide +kernel)
theorem tw_301 : Cond.methodLink "ChannelledLink" 119 yCl_requireElement ∈ tb_ := tb_in (List.mem_append_right _ (List.mem_append_right _ (List.mem_append_left _ (List.mem_of_getElem? (l := tables_1_2) (i := 62) (by decide +kernel))))) (by decide +kernel)
theorem tw_302 : Cond.static yCl_requireElement ∈ tb_ := tb_in (List.mem_append_right _ (List.mem_append_right _ (List.mem_append_left _ (List.mem_of_getElem? (l := tables_1_2) (i := 63) (by decide +kernel))))) (by decide +kernel)
theorem tw_303 : Cond.code yCl_requireElement prog_1_method_22_code 1 none ∈ tb_ := tb_in (List.mem_append_right _ (List.mem_append_right _ (List.mem_append_left _ (List.mem_of_getElem? (l := tables_1_2) (i := 64) (by decide +kernel))))) (by decide +kernel)
theorem tw_304 : Cond.classLink "ChannelledLink" 201 "java/util/NoSuchElementException" ∈ tb_ := tb_in (List.mem_append_right _ (List.mem_append_right _ (List.mem_append_left _ (List.mem_of_getElem? (l := tables_1_2) (i := 65) (by decide +kernel))))) (by decide +kernel)
theorem tw_305 : Cond.instantiable "java/util/NoSuchElementException" 6 ∈ tb_ := tb_in (List.mem_append_right _ (List.mem_append_right _ (List.mem_append_left _ (List.mem_of_getElem? (l := tables_1_2) (i := 66) (by decide +kernel))))) (by decide +kernel)
theorem tw_306 : Cond.castable "java/util/NoSuchElementException" "java/util/NoSuchElementException" ∈ lw_tbl := List.mem_append_right _ (List.mem_append_right _ (List.mem_append_left _ (List.mem_of_getElem? (l := tables_1_2) (i := 67) (by decide +kernel))))
theorem tw_307 : Cond.selects "java/util/NoSuchElementException" yTh_fillInStackTrace yTh_fillInStackTrace ∈ tb_ := tb_in (List.mem_append_right _ (List.mem_append_right _ (List.mem_append_left _ (List.mem_of_getElem? (l := tables_1_2) (i := 68) (by decide +kernel))))) (by decide +kernel)
theorem tw_308 : Cond.lays "java/util/NoSuchElementException" "java/lang/Throwable" "cause" "Ljava/lang/Throwable;" ∈ tb_ := tb_in (List.mem_append_right _ (List.mem_append_right _ (List.mem_append_left _ (List.mem_of_getElem? (l := tables_1_2) (i := 69) (by decide +kernel))))) (by decide +kernel)
theorem tw_309 : Cond.lays "java/util/NoSuchElementException" "java/lang/Throwable" "stackTrace" "[Ljava/lang/StackTraceElement;" ∈ tb_ := tb_in (List.mem_append_right _ (List.mem_append_right _ (List.mem_append_left _ (List.mem_of_getElem? (l := tables_1_2) (i := 70) (by decide +kernel))))) (by decide +kernel)
theorem tw_310 : Cond.lays "java/util/NoSuchElementException" "java/lang/Throwable" "suppressedExceptions" "Ljava/util/List;" ∈ tb_ := tb_in (List.mem_append_right _ (List.mem_append_right _ (List.mem_append_left _ (List.mem_of_getElem? (l := tables_1_2) (i := 71) (by decide +kernel))))) (by decide +kernel)
theorem tw_311 : Cond.lays "java/util/NoSuchElementException" "java/lang/Throwable" "detailMessage" "Ljava/lang/String;" ∈ tb_ := tb_in (List.mem_append_right _ (List.mem_append_right _ (List.mem_append_left _ (List.mem_of_getElem? (l := tables_1_2) (i := 72) (by decide +kernel))))) (by decide +kernel)
theorem tw_312 : Cond.lays "java/util/NoSuchElementException" "java/lang/Throwable" "backtrace" "Ljava/lang/Object;" ∈ tb_ := tb_in (List.mem_append_right _ (List.mem_append_right _ (List.mem_append_left _ (List.mem_of_getElem? (l := tables_1_2) (i := 73) (by decide +kernel))))) (by decide +kernel)
theorem tw_313 : Cond.stringRef "ChannelledLink" 203 "nothing is there" ∈ lw_tbl := List.mem_append_right _ (List.mem_append_right _ (List.mem_append_left _ (List.mem_of_getElem? (l := tables_1_2) (i := 74) (by decide +kernel))))
theorem tw_314 : Cond.methodLink "ChannelledLink" 205 yNs_init ∈ tb_ := tb_in (List.mem_append_right _ (List.mem_append_right _ (List.mem_append_left _ (List.mem_of_getElem? (l := tables_1_2) (i := 75) (by decide +kernel))))) (by decide +kernel)
theorem tw_315 : Cond.instanceMethod yNs_init ∈ tb_ := tb_in (List.mem_append_right _ (List.mem_append_right _ (List.mem_append_left _ (List.mem_of_getElem? (l := tables_1_2) (i := 76) (by decide +kernel))))) (by decide +kernel)
theorem tw_316 : Cond.code yNs_init prog_18_method_4_code 2 none ∈ tb_ := tb_in (List.mem_append_right _ (List.mem_append_right _ (List.mem_append_left _ (List.mem_of_getElem? (l := tables_1_2) (i := 77) (by decide +kernel))))) (by decide +kernel)
theorem tw_317 : Cond.methodLink "java/util/NoSuchElementException" 13 yRt_init2 ∈ tb_ := tb_in (List.mem_append_right _ (List.mem_append_right _ (List.mem_append_left _ (List.mem_of_getElem? (l := tables_1_2) (i := 78) (by decide +kernel))))) (by decide +kernel)
theorem tw_318 : Cond.lays "java/util/NoSuchElementException" "java/lang/Throwable" "depth" "I" ∈ tb_ := tb_in (List.mem_append_right _ (List.mem_append_right _ (List.mem_append_left _ (List.mem_of_getElem? (l := tables_1_2) (i := 79) (by decide +kernel))))) (by decide +kernel)
theorem tw_319 : Cond.superclass "java/util/NoSuchElementException" "java/lang/RuntimeException" ∈ tb_ := tb_in (List.mem_append_right _ (List.mem_append_right _ (List.mem_append_left _ (List.mem_of_getElem? (l := tables_1_2) (i := 80) (by decide +kernel))))) (by decide +kernel)
theorem tw_320 : Cond.methodLink "ChannelledLink" 154 yRw_at ∈ tb_ := tb_in (List.mem_append_right _ (List.mem_append_right _ (List.mem_append_left _ (List.mem_of_getElem? (l := tables_1_2) (i := 81) (by decide +kernel))))) (by decide +kernel)
theorem tw_321 : Cond.methodLink "ChannelledLink" 206 yRw_drop ∈ tb_ := tb_in (List.mem_append_right _ (List.mem_append_right _ (List.mem_append_left _ (List.mem_of_getElem? (l := tables_1_2) (i := 82) (by decide +kernel))))) (by decide +kernel)
theorem tw_322 : Cond.instanceMethod yRw_drop ∈ tb_ := tb_in (List.mem_append_right _ (List.mem_append_right _ (List.mem_append_left _ (List.mem_of_getElem? (l := tables_1_2) (i := 83) (by decide +kernel))))) (by decide +kernel)
theorem tw_323 : Cond.selects "ChannelledLink$Row" yRw_drop yRw_drop ∈ tb_ := tb_in (List.mem_append_right _ (List.mem_append_right _ (List.mem_append_left _ (List.mem_of_getElem? (l := tables_1_2) (i := 84) (by decide +kernel))))) (by decide +kernel)
theorem tw_324 : Cond.code yRw_drop prog_5_method_4_code 2 none ∈ tb_ := tb_in (List.mem_append_right _ (List.mem_append_right _ (List.mem_append_left _ (List.mem_of_getElem? (l := tables_1_2) (i := 85) (by decide +kernel))))) (by decide +kernel)
theorem tw_325 : Cond.methodLink "ChannelledLink$Row" 17 ySy_arraycopy ∈ tb_ := tb_in (List.mem_append_right _ (List.mem_append_right _ (List.mem_append_left _ (List.mem_of_getElem? (l := tables_1_2) (i := 86) (by decide +kernel))))) (by decide +kernel)
theorem tw_326 : Cond.static ySy_arraycopy ∈ tb_ := tb_in (List.mem_append_right _ (List.mem_append_right _ (List.mem_append_left _ (List.mem_of_getElem? (l := tables_1_2) (i := 87) (by decide +kernel))))) (by decide +kernel)
theorem tw_327 : Cond.native ySy_arraycopy ∈ tb_ := tb_in (List.mem_append_right _ (List.mem_append_right _ (List.mem_append_left _ (List.mem_of_getElem? (l := tables_1_2) (i := 88) (by decide +kernel))))) (by decide +kernel)
theorem tw_328 : Cond.methodLink "ChannelledLink" 50 ySt_hearFrame ∈ tb_ := tb_in (List.mem_append_right _ (List.mem_append_right _ (List.mem_append_left _ (List.mem_of_getElem? (l := tables_1_2) (i := 89) (by decide +kernel))))) (by decide +kernel)
theorem tw_329 : Cond.instanceMethod ySt_hearFrame ∈ tb_ := tb_in (List.mem_append_right _ (List.mem_append_right _ (List.mem_append_left _ (List.mem_of_getElem? (l := tables_1_2) (i := 90) (by decide +kernel))))) (by decide +kernel)
theorem tw_330 : Cond.selects "ChannelledLink$Station" ySt_hearFrame ySt_hearFrame ∈ tb_ := tb_in (List.mem_append_right _ (List.mem_append_right _ (List.mem_append_left _ (List.mem_of_getElem? (l := tables_1_2) (i := 91) (by decide +kernel))))) (by decide +kernel)
theorem tw_331 : Cond.code ySt_hearFrame prog_6_method_7_code 3 none ∈ tb_ := tb_in (List.mem_append_right _ (List.mem_append_right _ (List.mem_append_left _ (List.mem_of_getElem? (l := tables_1_2) (i := 92) (by decide +kernel))))) (by decide +kernel)
theorem tw_332 : Cond.methodLinkNest "ChannelledLink$Station" 66 yFr_kindOf "ChannelledLink" ∈ lw_tbl := List.mem_append_right _ (List.mem_append_right _ (List.mem_append_left _ (List.mem_of_getElem? (l := tables_1_2) (i := 93) (by decide +kernel))))
theorem tw_333 : Cond.static yFr_kindOf ∈ tb_ := tb_in (List.mem_append_right _ (List.mem_append_right _ (List.mem_append_left _ (List.mem_of_getElem? (l := tables_1_2) (i := 94) (by decide +kernel))))) (by decide +kernel)
theorem tw_334 : Cond.code yFr_kindOf prog_3_method_3_code 1 (some FieldType.int) ∈ tb_ := tb_in (List.mem_append_right _ (List.mem_append_right _ (List.mem_append_left _ (List.mem_of_getElem? (l := tables_1_2) (i := 95) (by decide +kernel))))) (by decide +kernel)
theorem tw_335 : Cond.methodLink "ChannelledLink$Station" 70 ySt_hearSetup ∈ tb_ := tb_in (List.mem_append_right _ (List.mem_append_right _ (List.mem_append_left _ (List.mem_of_getElem? (l := tables_1_2) (i := 96) (by decide +kernel))))) (by decide +kernel)
theorem tw_336 : Cond.privateMethod ySt_hearSetup ∈ lw_tbl := List.mem_append_right _ (List.mem_append_right _ (List.mem_append_left _ (List.mem_of_getElem? (l := tables_1_2) (i := 97) (by decide +kernel))))
theorem tw_337 : Cond.instanceMethod ySt_hearSetup ∈ tb_ := tb_in (List.mem_append_right _ (List.mem_append_right _ (List.mem_append_left _ (List.mem_of_getElem? (l := tables_1_2) (i := 98) (by decide +kernel))))) (by decide +kernel)
theorem tw_338 : Cond.code ySt_hearSetup prog_6_method_8_code 1 none ∈ tb_ := tb_in (List.mem_append_right _ (List.mem_append_right _ (List.mem_append_left _ (List.mem_of_getElem? (l := tables_1_2) (i := 99) (by decide +kernel))))) (by decide +kernel)
theorem tw_339 : Cond.methodLink "ChannelledLink$Station" 73 ySt_hearAgreed ∈ tb_ := tb_in (List.mem_append_right _ (List.mem_append_right _ (List.mem_append_left _ (List.mem_of_getElem? (l := tables_1_2) (i := 100) (by decide +kernel))))) (by decide +kernel)
theorem tw_340 : Cond.privateMethod ySt_hearAgreed ∈ lw_tbl := List.mem_append_right _ (List.mem_append_right _ (List.mem_append_left _ (List.mem_of_getElem? (l := tables_1_2) (i := 101) (by decide +kernel))))
theorem tw_341 : Cond.instanceMethod ySt_hearAgreed ∈ tb_ := tb_in (List.mem_append_right _ (List.mem_append_right _ (List.mem_append_left _ (List.mem_of_getElem? (l := tables_1_2) (i := 102) (by decide +kernel))))) (by decide +kernel)
theorem tw_342 : Cond.code ySt_hearAgreed prog_6_method_9_code 1 none ∈ tb_ := tb_in (List.mem_append_right _ (List.mem_append_right _ (List.mem_append_left _ (List.mem_of_getElem? (l := tables_1_2) (i := 103) (by decide +kernel))))) (by decide +kernel)
theorem tw_343 : Cond.methodLinkNest "ChannelledLink$Station" 76 yFr_acknowledgementOf "ChannelledLink" ∈ lw_tbl := List.mem_append_right _ (List.mem_append_right _ (List.mem_append_left _ (List.mem_of_getElem? (l := tables_1_2) (i := 104) (by decide +kernel))))
theorem tw_344 : Cond.static yFr_acknowledgementOf ∈ tb_ := tb_in (List.mem_append_right _ (List.mem_append_right _ (List.mem_append_left _ (List.mem_of_getElem? (l := tables_1_2) (i := 105) (by decide +kernel))))) (by decide +kernel)
theorem tw_345 : Cond.code yFr_acknowledgementOf prog_3_method_5_code 1 (some FieldType.int) ∈ tb_ := tb_in (List.mem_append_right _ (List.mem_append_right _ (List.mem_append_left _ (List.mem_of_getElem? (l := tables_1_2) (i := 106) (by decide +kernel))))) (by decide +kernel)
theorem tw_346 : Cond.methodLink "ChannelledLink$Station" 79 ySt_confirm ∈ tb_ := tb_in (List.mem_append_right _ (List.mem_append_right _ (List.mem_append_left _ (List.mem_of_getElem? (l := tables_1_2) (i := 107) (by decide +kernel))))) (by decide +kernel)
theorem tw_347 : Cond.privateMethod ySt_confirm ∈ lw_tbl := List.mem_append_right _ (List.mem_append_right _ (List.mem_append_left _ (List.mem_of_getElem? (l := tables_1_2) (i := 108) (by decide +kernel))))
theorem tw_348 : Cond.instanceMethod ySt_confirm ∈ tb_ := tb_in (List.mem_append_right _ (List.mem_append_right _ (List.mem_append_left _ (List.mem_of_getElem? (l := tables_1_2) (i := 109) (by decide +kernel))))) (by decide +kernel)
theorem tw_349 : Cond.code ySt_confirm prog_6_method_10_code 3 none ∈ tb_ := tb_in (List.mem_append_right _ (List.mem_append_right _ (List.mem_append_left _ (List.mem_of_getElem? (l := tables_1_2) (i := 110) (by decide +kernel))))) (by decide +kernel)
theorem tw_350 : Cond.methodLinkNest "ChannelledLink$Station" 91 yCl_distance "ChannelledLink" ∈ lw_tbl := List.mem_append_right _ (List.mem_append_right _ (List.mem_append_left _ (List.mem_of_getElem? (l := tables_1_2) (i := 111) (by decide +kernel))))
theorem tw_351 : Cond.static yCl_distance ∈ tb_ := tb_in (List.mem_append_right _ (List.mem_append_right _ (List.mem_append_left _ (List.mem_of_getElem? (l := tables_1_2) (i := 112) (by decide +kernel))))) (by decide +kernel)
theorem tw_352 : Cond.code yCl_distance prog_1_method_27_code 2 (some FieldType.int) ∈ tb_ := tb_in (List.mem_append_right _ (List.mem_append_right _ (List.mem_append_left _ (List.mem_of_getElem? (l := tables_1_2) (i := 113) (by decide +kernel))))) (by decide +kernel)
theorem tw_353 : Cond.methodLink "ChannelledLink$Station" 95 yRw_drop ∈ tb_ := tb_in (List.mem_append_right _ (List.mem_append_right _ (List.mem_append_left _ (List.mem_of_getElem? (l := tables_1_2) (i := 114) (by decide +kernel))))) (by decide +kernel)
theorem tw_354 : Cond.methodLink "ChannelledLink$Station" 82 ySt_hearCarrier ∈ tb_ := tb_in (List.mem_append_right _ (List.mem_append_right _ (List.mem_append_left _ (List.mem_of_getElem? (l := tables_1_2) (i := 115) (by decide +kernel))))) (by decide +kernel)
theorem tw_355 : Cond.privateMethod ySt_hearCarrier ∈ lw_tbl := List.mem_append_right _ (List.mem_append_right _ (List.mem_append_left _ (List.mem_of_getElem? (l := tables_1_2) (i := 116) (by decide +kernel))))
theorem tw_356 : Cond.instanceMethod ySt_hearCarrier ∈ tb_ := tb_in (List.mem_append_right _ (List.mem_append_right _ (List.mem_append_left _ (List.mem_of_getElem? (l := tables_1_2) (i := 117) (by decide +kernel))))) (by decide +kernel)
theorem tw_357 : Cond.code ySt_hearCarrier prog_6_method_11_code 3 none ∈ tb_ := tb_in (List.mem_append_right _ (List.mem_append_right _ (List.mem_append_left _ (List.mem_of_getElem? (l := tables_1_2) (i := 118) (by decide +kernel))))) (by decide +kernel)
theorem tw_358 : Cond.methodLinkNest "ChannelledLink$Station" 98 yFr_numberOf "ChannelledLink" ∈ lw_tbl := List.mem_append_right _ (List.mem_append_right _ (List.mem_append_left _ (List.mem_of_getElem? (l := tables_1_2) (i := 119) (by decide +kernel))))
theorem tw_359 : Cond.static yFr_numberOf ∈ tb_ := tb_in (List.mem_append_right _ (List.mem_append_right _ (List.mem_append_left _ (List.mem_of_getElem? (l := tables_1_2) (i := 120) (by decide +kernel))))) (by decide +kernel)
theorem tw_360 : Cond.code yFr_numberOf prog_3_method_4_code 1 (some FieldType.int) ∈ tb_ := tb_in (List.mem_append_right _ (List.mem_append_right _ (List.mem_append_left _ (List.mem_of_getElem? (l := tables_1_2) (i := 121) (by decide +kernel))))) (by decide +kernel)
theorem tw_361 : Cond.methodLink "ChannelledLink$Station" 104 ySt_rejectOnce ∈ tb_ := tb_in (List.mem_append_right _ (List.mem_append_right _ (List.mem_append_left _ (List.mem_of_getElem? (l := tables_1_2) (i := 122) (by decide +kernel))))) (by decide +kernel)
theorem tw_362 : Cond.privateMethod ySt_rejectOnce ∈ lw_tbl := List.mem_append_right _ (List.mem_append_right _ (List.mem_append_left _ (List.mem_of_getElem? (l := tables_1_2) (i := 123) (by decide +kernel))))
theorem tw_363 : Cond.instanceMethod ySt_rejectOnce ∈ tb_ := tb_in (List.mem_append_right _ (List.mem_append_right _ (List.mem_append_left _ (List.mem_of_getElem? (l := tables_1_2) (i := 124) (by decide +kernel))))) (by decide +kernel)
theorem tw_364 : Cond.code ySt_rejectOnce prog_6_method_12_code 1 none ∈ tb_ := tb_in (List.mem_append_right _ (List.mem_append_right _ (List.mem_append_left _ (List.mem_of_getElem? (l := tables_1_2) (i := 125) (by decide +kernel))))) (by decide +kernel)
theorem tw_365 : Cond.methodLink "ChannelledLink$Station" 123 ySt_sendAcknowledging ∈ tb_ := tb_in (List.mem_append_right _ (List.mem_append_right _ (List.mem_append_left _ (List.mem_of_getElem? (l := tables_1_2) (i := 126) (by decide +kernel))))) (by decide +kernel)
theorem tw_366 : Cond.privateMethod ySt_sendAcknowledging ∈ lw_tbl := List.mem_append_right _ (List.mem_append_right _ (List.mem_append_left _ (List.mem_of_getElem? (l := tables_1_2) (i := 127) (by decide +kernel))))
theorem tw_367 : Cond.instanceMethod ySt_sendAcknowledging ∈ tb_ := tb_in (List.mem_append_right _ (List.mem_append_right _ (List.mem_append_left _ (List.mem_of_getElem? (l := tables_1_2) (i := 128) (by decide +kernel))))) (by decide +kernel)
theorem tw_368 : Cond.code ySt_sendAcknowledging prog_6_method_18_code 2 none ∈ tb_ := tb_in (List.mem_append_right _ (List.mem_append_right _ (List.mem_append_left _ (List.mem_of_getElem? (l := tables_1_2) (i := 129) (by decide +kernel))))) (by decide +kernel)
theorem tw_369 : Cond.methodLinkNest "ChannelledLink$Station" 117 yFr_packetOf "ChannelledLink" ∈ lw_tbl := List.mem_append_right _ (List.mem_append_right _ (List.mem_append_left _ (List.mem_of_getElem? (l := tables_1_2) (i := 130) (by decide +kernel))))
theorem tw_370 : Cond.static yFr_packetOf ∈ tb_ := tb_in (List.mem_append_right _ (List.mem_append_right _ (List.mem_append_left _ (List.mem_of_getElem? (l := tables_1_2) (i := 131) (by decide +kernel))))) (by decide +kernel)
theorem tw_371 : Cond.code yFr_packetOf prog_3_method_6_code 1 (some FieldType.int) ∈ tb_ := tb_in (List.mem_append_right _ (List.mem_append_right _ (List.mem_append_left _ (List.mem_of_getElem? (l := tables_1_2) (i := 132) (by decide +kernel))))) (by decide +kernel)
theorem tw_372 : Cond.constant "ChannelledLink$Frame" 7 2097151 ∈ tb_ := tb_in (List.mem_append_right _ (List.mem_append_right _ (List.mem_append_left _ (List.mem_of_getElem? (l := tables_1_2) (i := 133) (by decide +kernel))))) (by decide +kernel)
theorem tw_373 : Cond.methodLink "ChannelledLink$Station" 120 ySt_hearPacket ∈ tb_ := tb_in (List.mem_append_right _ (List.mem_append_right _ (List.mem_append_left _ (List.mem_of_getElem? (l := tables_1_2) (i := 134) (by decide +kernel))))) (by decide +kernel)
theorem tw_374 : Cond.instanceMethod ySt_hearPacket ∈ tb_ := tb_in (List.mem_append_right _ (List.mem_append_right _ (List.mem_append_left _ (List.mem_of_getElem? (l := tables_1_2) (i := 135) (by decide +kernel))))) (by decide +kernel)
theorem tw_375 : Cond.selects "ChannelledLink$Station" ySt_hearPacket ySt_hearPacket ∈ tb_ := tb_in (List.mem_append_right _ (List.mem_append_right _ (List.mem_append_left _ (List.mem_of_getElem? (l := tables_1_2) (i := 136) (by decide +kernel))))) (by decide +kernel)
theorem tw_376 : Cond.code ySt_hearPacket prog_6_method_13_code 4 none ∈ tb_ := tb_in (List.mem_append_right _ (List.mem_append_right _ (List.mem_append_left _ (List.mem_of_getElem? (l := tables_1_2) (i := 137) (by decide +kernel))))) (by decide +kernel)
theorem tw_377 : Cond.methodLinkNest "ChannelledLink$Station" 126 yPk_channelOf "ChannelledLink" ∈ lw_tbl := List.mem_append_right _ (List.mem_append_right _ (List.mem_append_left _ (List.mem_of_getElem? (l := tables_1_2) (i := 138) (by decide +kernel))))
theorem tw_378 : Cond.static yPk_channelOf ∈ tb_ := tb_in (List.mem_append_right _ (List.mem_append_right _ (List.mem_append_left _ (List.mem_of_getElem? (l := tables_1_2) (i := 139) (by decide +kernel))))) (by decide +kernel)
theorem tw_379 : Cond.code yPk_channelOf prog_4_method_5_code 1 (some FieldType.int) ∈ tb_ := tb_in (List.mem_append_right _ (List.mem_append_right _ (List.mem_append_left _ (List.mem_of_getElem? (l := tables_1_2) (i := 140) (by decide +kernel))))) (by decide +kernel)
theorem tw_380 : Cond.methodLinkNest "ChannelledLink$Station" 131 yCl_isChannel "ChannelledLink" ∈ lw_tbl := List.mem_append_right _ (List.mem_append_right _ (List.mem_append_left _ (List.mem_of_getElem? (l := tables_1_2) (i := 141) (by decide +kernel))))
theorem tw_381 : Cond.static yCl_isChannel ∈ tb_ := tb_in (List.mem_append_right _ (List.mem_append_right _ (List.mem_append_left _ (List.mem_of_getElem? (l := tables_1_2) (i := 142) (by decide +kernel))))) (by decide +kernel)
theorem tw_382 : Cond.code yCl_isChannel prog_1_method_24_code 1 (some FieldType.boolean) ∈ tb_ := tb_in (List.mem_append_right _ (List.mem_append_right _ (List.mem_append_left _ (List.mem_of_getElem? (l := tables_1_2) (i := 143) (by decide +kernel))))) (by decide +kernel)
theorem tw_383 : Cond.methodLink "ChannelledLink$Station" 135 yCh_answerTo ∈ tb_ := tb_in (List.mem_append_right _ (List.mem_append_right _ (List.mem_append_left _ (List.mem_of_getElem? (l := tables_1_2) (i := 144) (by decide +kernel))))) (by decide +kernel)
theorem tw_384 : Cond.instanceMethod yCh_answerTo ∈ tb_ := tb_in (List.mem_append_right _ (List.mem_append_right _ (List.mem_append_left _ (List.mem_of_getElem? (l := tables_1_2) (i := 145) (by decide +kernel))))) (by decide +kernel)
theorem tw_385 : Cond.selects "ChannelledLink$Channel" yCh_answerTo yCh_answerTo ∈ tb_ := tb_in (List.mem_append_right _ (List.mem_append_right _ (List.mem_append_left _ (List.mem_of_getElem? (l := tables_1_2) (i := 146) (by decide +kernel))))) (by decide +kernel)
theorem tw_386 : Cond.code yCh_answerTo prog_2_method_4_code 2 (some FieldType.int) ∈ tb_ := tb_in (List.mem_append_right _ (List.mem_append_right _ (List.mem_append_left _ (List.mem_of_getElem? (l := tables_1_2) (i := 147) (by decide +kernel))))) (by decide +kernel)
theorem tw_387 : Cond.methodLinkNest "ChannelledLink$Channel" 53 yPk_kindOf "ChannelledLink" ∈ lw_tbl := List.mem_append_right _ (List.mem_append_right _ (List.mem_append_left _ (List.mem_of_getElem? (l := tables_1_2) (i := 148) (by decide +kernel))))
theorem tw_388 : Cond.static yPk_kindOf ∈ tb_ := tb_in (List.mem_append_right _ (List.mem_append_right _ (List.mem_append_left _ (List.mem_of_getElem? (l := tables_1_2) (i := 149) (by decide +kernel))))) (by decide +kernel)
theorem tw_389 : Cond.code yPk_kindOf prog_4_method_4_code 1 (some FieldType.int) ∈ tb_ := tb_in (List.mem_append_right _ (List.mem_append_right _ (List.mem_append_left _ (List.mem_of_getElem? (l := tables_1_2) (i := 150) (by decide +kernel))))) (by decide +kernel)
theorem tw_390 : Cond.methodLink "ChannelledLink$Channel" 58 yCh_answerToCall ∈ tb_ := tb_in (List.mem_append_right _ (List.mem_append_right _ (List.mem_append_left _ (List.mem_of_getElem? (l := tables_1_2) (i := 151) (by decide +kernel))))) (by decide +kernel)
theorem tw_391 : Cond.privateMethod yCh_answerToCall ∈ lw_tbl := List.mem_append_right _ (List.mem_append_right _ (List.mem_append_left _ (List.mem_of_getElem? (l := tables_1_2) (i := 152) (by decide +kernel))))
theorem tw_392 : Cond.instanceMethod yCh_answerToCall ∈ tb_ := tb_in (List.mem_append_right _ (List.mem_append_right _ (List.mem_append_left _ (List.mem_of_getElem? (l := tables_1_2) (i := 153) (by decide +kernel))))) (by decide +kernel)
theorem tw_393 : Cond.code yCh_answerToCall prog_2_method_6_code 1 (some FieldType.int) ∈ tb_ := tb_in (List.mem_append_right _ (List.mem_append_right _ (List.mem_append_left _ (List.mem_of_getElem? (l := tables_1_2) (i := 154) (by decide +kernel))))) (by decide +kernel)
theorem tw_394 : Cond.methodLink "ChannelledLink$Channel" 75 yCh_renewAs ∈ tb_ := tb_in (List.mem_append_right _ (List.mem_append_right _ (List.mem_append_left _ (List.mem_of_getElem? (l := tables_1_2) (i := 155) (by decide +kernel))))) (by decide +kernel)
theorem tw_395 : Cond.methodLink "ChannelledLink$Channel" 62 yCh_renewFrom ∈ tb_ := tb_in (List.mem_append_right _ (List.mem_append_right _ (List.mem_append_left _ (List.mem_of_getElem? (l := tables_1_2) (i := 156) (by decide +kernel))))) (by decide +kernel)
theorem tw_396 : Cond.privateMethod yCh_renewFrom ∈ lw_tbl := List.mem_append_right _ (List.mem_append_right _ (List.mem_append_left _ (List.mem_of_getElem? (l := tables_1_2) (i := 157) (by decide +kernel))))
theorem tw_397 : Cond.instanceMethod yCh_renewFrom ∈ tb_ := tb_in (List.mem_append_right _ (List.mem_append_right _ (List.mem_append_left _ (List.mem_of_getElem? (l := tables_1_2) (i := 158) (by decide +kernel))))) (by decide +kernel)
theorem tw_398 : Cond.code yCh_renewFrom prog_2_method_5_code 3 (some FieldType.int) ∈ tb_ := tb_in (List.mem_append_right _ (List.mem_append_right _ (List.mem_append_left _ (List.mem_of_getElem? (l := tables_1_2) (i := 159) (by decide +kernel))))) (by decide +kernel)
theorem tw_399 : Cond.methodLink "ChannelledLink$Channel" 66 yCh_answerToClear ∈ tb_ := tb_in (List.mem_append_right _ (List.mem_append_right _ (List.mem_append_left _ (List.mem_of_getElem? (l := tables_1_2) (i := 160) (by decide +kernel))))) (by decide +kernel)
theorem tw_400 : Cond.privateMethod yCh_answerToClear ∈ lw_tbl := List.mem_append_right _ (List.mem_append_right _ (List.mem_append_left _ (List.mem_of_getElem? (l := tables_1_2) (i := 161) (by decide +kernel))))
theorem tw_401 : Cond.instanceMethod yCh_answerToClear ∈ tb_ := tb_in (List.mem_append_right _ (List.mem_append_right _ (List.mem_append_left _ (List.mem_of_getElem? (l := tables_1_2) (i := 162) (by decide +kernel))))) (by decide +kernel)
theorem tw_402 : Cond.code yCh_answerToClear prog_2_method_7_code 2 (some FieldType.int) ∈ tb_ := tb_in (List.mem_append_right _ (List.mem_append_right _ (List.mem_append_left _ (List.mem_of_getElem? (l := tables_1_2) (i := 163) (by decide +kernel))))) (by decide +kernel)
theorem tw_403 : Cond.methodLink "ChannelledLink$Channel" 69 yCh_answerToFlow ∈ tb_ := tb_in (List.mem_append_right _ (List.mem_append_right _ (List.mem_append_left _ (List.mem_of_getElem? (l := tables_1_2) (i := 164) (by decide +kernel))))) (by decide +kernel)
theorem tw_404 : Cond.privateMethod yCh_answerToFlow ∈ lw_tbl := List.mem_append_right _ (List.mem_append_right _ (List.mem_append_left _ (List.mem_of_getElem? (l := tables_1_2) (i := 165) (by decide +kernel))))
theorem tw_405 : Cond.instanceMethod yCh_answerToFlow ∈ tb_ := tb_in (List.mem_append_right _ (List.mem_append_right _ (List.mem_append_left _ (List.mem_of_getElem? (l := tables_1_2) (i := 166) (by decide +kernel))))) (by decide +kernel)
theorem tw_406 : Cond.code yCh_answerToFlow prog_2_method_9_code 5 (some FieldType.int) ∈ tb_ := tb_in (List.mem_append_right _ (List.mem_append_right _ (List.mem_append_left _ (List.mem_of_getElem? (l := tables_1_2) (i := 167) (by decide +kernel))))) (by decide +kernel)
theorem tw_407 : Cond.methodLinkNest "ChannelledLink$Channel" 78 yPk_acknowledgementOf "ChannelledLink" ∈ lw_tbl := List.mem_append_right _ (List.mem_append_right _ (List.mem_append_left _ (List.mem_of_getElem? (l := tables_1_2) (i := 168) (by decide +kernel))))
theorem tw_408 : Cond.static yPk_acknowledgementOf ∈ tb_ := tb_in (List.mem_append_right _ (List.mem_append_right _ (List.mem_append_left _ (List.mem_of_getElem? (l := tables_1_2) (i := 169) (by decide +kernel))))) (by decide +kernel)
theorem tw_409 : Cond.code yPk_acknowledgementOf prog_4_method_7_code 1 (some FieldType.int) ∈ tb_ := tb_in (List.mem_append_right _ (List.mem_append_right _ (List.mem_append_left _ (List.mem_of_getElem? (l := tables_1_2) (i := 170) (by decide +kernel))))) (by decide +kernel)
theorem tw_410 : Cond.methodLinkNest "ChannelledLink$Channel" 81 yCl_distance "ChannelledLink" ∈ lw_tbl := List.mem_append_right _ (List.mem_append_right _ (List.mem_append_left _ (List.mem_of_getElem? (l := tables_1_2) (i := 171) (by decide +kernel))))
theorem tw_411 : Cond.methodLinkNest "ChannelledLink$Channel" 84 yPk_numberOf "ChannelledLink" ∈ lw_tbl := List.mem_append_right _ (List.mem_append_right _ (List.mem_append_left _ (List.mem_of_getElem? (l := tables_1_2) (i := 172) (by decide +kernel))))
theorem tw_412 : Cond.static yPk_numberOf ∈ tb_ := tb_in (List.mem_append_right _ (List.mem_append_right _ (List.mem_append_left _ (List.mem_of_getElem? (l := tables_1_2) (i := 173) (by decide +kernel))))) (by decide +kernel)
theorem tw_413 : Cond.code yPk_numberOf prog_4_method_6_code 1 (some FieldType.int) ∈ tb_ := tb_in (List.mem_append_right _ (List.mem_append_right _ (List.mem_append_left _ (List.mem_of_getElem? (l := tables_1_2) (i := 174) (by decide +kernel))))) (by decide +kernel)
theorem tw_414 : Cond.methodLinkNest "ChannelledLink$Channel" 87 yPk_dataOf "ChannelledLink" ∈ lw_tbl := List.mem_append_right _ (List.mem_append_right _ (List.mem_append_left _ (List.mem_of_getElem? (l := tables_1_2) (i := 175) (by decide +kernel))))
theorem tw_415 : Cond.static yPk_dataOf ∈ tb_ := tb_in (List.mem_append_right _ (List.mem_append_right _ (List.mem_append_left _ (List.mem_of_getElem? (l := tables_1_2) (i := 176) (by decide +kernel))))) (by decide +kernel)
theorem tw_416 : Cond.code yPk_dataOf prog_4_method_8_code 1 (some FieldType.int) ∈ tb_ := tb_in (List.mem_append_right _ (List.mem_append_right _ (List.mem_append_left _ (List.mem_of_getElem? (l := tables_1_2) (i := 177) (by decide +kernel))))) (by decide +kernel)
theorem tw_417 : Cond.methodLink "ChannelledLink$Channel" 90 yRw_add ∈ tb_ := tb_in (List.mem_append_right _ (List.mem_append_right _ (List.mem_append_left _ (List.mem_of_getElem? (l := tables_1_2) (i := 178) (by decide +kernel))))) (by decide +kernel)
theorem tw_418 : Cond.methodLinkNest "ChannelledLink$Channel" 50 yCl_after "ChannelledLink" ∈ lw_tbl := List.mem_append_right _ (List.mem_append_right _ (List.mem_append_left _ (List.mem_of_getElem? (l := tables_1_2) (i := 179) (by decide +kernel))))
theorem tw_419 : Cond.methodLink "ChannelledLink$Channel" 72 yCh_answerToReset ∈ tb_ := tb_in (List.mem_append_right _ (List.mem_append_right _ (List.mem_append_left _ (List.mem_of_getElem? (l := tables_1_2) (i := 180) (by decide +kernel))))) (by decide +kernel)
theorem tw_420 : Cond.privateMethod yCh_answerToReset ∈ lw_tbl := List.mem_append_right _ (List.mem_append_right _ (List.mem_append_left _ (List.mem_of_getElem? (l := tables_1_2) (i := 181) (by decide +kernel))))
theorem tw_421 : Cond.instanceMethod yCh_answerToReset ∈ tb_ := tb_in (List.mem_append_right _ (List.mem_append_right _ (List.mem_append_left _ (List.mem_of_getElem? (l := tables_1_2) (i := 182) (by decide +kernel))))) (by decide +kernel)
theorem tw_422 : Cond.code yCh_answerToReset prog_2_method_8_code 2 (some FieldType.int) ∈ tb_ := tb_in (List.mem_append_right _ (List.mem_append_right _ (List.mem_append_left _ (List.mem_of_getElem? (l := tables_1_2) (i := 183) (by decide +kernel))))) (by decide +kernel)
theorem tw_423 : Cond.methodLinkNest "ChannelledLink$Station" 138 yPk_bare "ChannelledLink" ∈ lw_tbl := List.mem_append_right _ (List.mem_append_right _ (List.mem_append_left _ (List.mem_of_getElem? (l := tables_1_2) (i := 184) (by decide +kernel))))
theorem tw_424 : Cond.static yPk_bare ∈ tb_ := tb_in (List.mem_append_right _ (List.mem_append_right _ (List.mem_append_left _ (List.mem_of_getElem? (l := tables_1_2) (i := 185) (by decide +kernel))))) (by decide +kernel)
theorem tw_425 : Cond.code yPk_bare prog_4_method_3_code 2 (some FieldType.int) ∈ tb_ := tb_in (List.mem_append_right _ (List.mem_append_right _ (List.mem_append_left _ (List.mem_of_getElem? (l := tables_1_2) (i := 186) (by decide +kernel))))) (by decide +kernel)
theorem tw_426 : Cond.methodLink "ChannelledLink$Packet" 7 yPk_of ∈ tb_ := tb_in (List.mem_append_right _ (List.mem_append_right _ (List.mem_append_left _ (List.mem_of_getElem? (l := tables_1_2) (i := 187) (by decide +kernel))))) (by decide +kernel)
theorem tw_427 : Cond.static yPk_of ∈ tb_ := tb_in (List.mem_append_right _ (List.mem_append_right _ (List.mem_append_left _ (List.mem_of_getElem? (l := tables_1_2) (i := 188) (by decide +kernel))))) (by decide +kernel)
theorem tw_428 : Cond.code yPk_of prog_4_method_2_code 5 (some FieldType.int) ∈ tb_ := tb_in (List.mem_append_right _ (List.mem_append_right _ (List.mem_append_left _ (List.mem_of_getElem? (l := tables_1_2) (i := 189) (by decide +kernel))))) (by decide +kernel)
theorem tw_429 : Cond.methodLink "ChannelledLink$Station" 141 ySt_sendPacket ∈ tb_ := tb_in (List.mem_append_right _ (List.mem_append_right _ (List.mem_append_left _ (List.mem_of_getElem? (l := tables_1_2) (i := 190) (by decide +kernel))))) (by decide +kernel)
theorem tw_430 : Cond.instanceMethod ySt_sendPacket ∈ tb_ := tb_in (List.mem_append_right _ (List.mem_append_right _ (List.mem_append_left _ (List.mem_of_getElem? (l := tables_1_2) (i := 191) (by decide +kernel))))) (by decide +kernel)
theorem tw_431 : Cond.selects "ChannelledLink$Station" ySt_sendPacket ySt_sendPacket ∈ tb_ := tb_in (List.mem_append_right _ (List.mem_append_right _ (List.mem_append_left _ (List.mem_of_getElem? (l := tables_1_2) (i := 192) (by decide +kernel))))) (by decide +kernel)
theorem tw_432 : Cond.code ySt_sendPacket prog_6_method_14_code 2 none ∈ tb_ := tb_in (List.mem_append_right _ (List.mem_append_right _ (List.mem_append_left _ (List.mem_of_getElem? (l := tables_1_2) (i := 193) (by decide +kernel))))) (by decide +kernel)
theorem tw_433 : Cond.methodLink "ChannelledLink$Station" 85 ySt_pump ∈ tb_ := tb_in (List.mem_append_right _ (List.mem_append_right _ (List.mem_append_left _ (List.mem_of_getElem? (l := tables_1_2) (i := 194) (by decide +kernel))))) (by decide +kernel)
theorem tw_434 : Cond.privateMethod ySt_pump ∈ lw_tbl := List.mem_append_right _ (List.mem_append_right _ (List.mem_append_left _ (List.mem_of_getElem? (l := tables_1_2) (i := 195) (by decide +kernel))))
theorem tw_435 : Cond.instanceMethod ySt_pump ∈ tb_ := tb_in (List.mem_append_right _ (List.mem_append_right _ (List.mem_append_left _ (List.mem_of_getElem? (l := tables_1_2) (i := 196) (by decide +kernel))))) (by decide +kernel)
theorem tw_436 : Cond.code ySt_pump prog_6_method_15_code 3 none ∈ tb_ := tb_in (List.mem_append_right _ (List.mem_append_right _ (List.mem_append_left _ (List.mem_of_getElem? (l := tables_1_2) (i := 197) (by decide +kernel))))) (by decide +kernel)
theorem tw_437 : Cond.methodLink "ChannelledLink$Station" 147 yMa_min ∈ tb_ := tb_in (List.mem_append_right _ (List.mem_append_right _ (List.mem_append_left _ (List.mem_of_getElem? (l := tables_1_2) (i := 198) (by decide +kernel))))) (by decide +kernel)
theorem tw_438 : Cond.static yMa_min ∈ tb_ := tb_in (List.mem_append_right _ (List.mem_append_right _ (List.mem_append_left _ (List.mem_of_getElem? (l := tables_1_2) (i := 199) (by decide +kernel))))) (by decide +kernel)
theorem tw_439 : Cond.code yMa_min prog_13_method_69_code 2 (some FieldType.int) ∈ tb_ := tb_in (List.mem_append_right _ (List.mem_append_right _ (List.mem_append_left _ (List.mem_of_getElem? (l := tables_1_2) (i := 200) (by decide +kernel))))) (by decide +kernel)
theorem tw_440 : Cond.methodLinkNest "ChannelledLink" 53 yFr_kindOf "ChannelledLink" ∈ lw_tbl := List.mem_append_right _ (List.mem_append_right _ (List.mem_append_left _ (List.mem_of_getElem? (l := tables_1_2) (i := 201) (by decide +kernel))))
theorem tw_441 : Cond.methodLink "ChannelledLinkLaw" 90 yLw_lose ∈ tb_ := tb_in (List.mem_append_right _ (List.mem_append_right _ (List.mem_append_left _ (List.mem_of_getElem? (l := tables_1_2) (i := 202) (by decide +kernel))))) (by decide +kernel)
theorem tw_442 : Cond.static yLw_lose ∈ tb_ := tb_in (List.mem_append_right _ (List.mem_append_right _ (List.mem_append_left _ (List.mem_of_getElem? (l := tables_1_2) (i := 203) (by decide +kernel))))) (by decide +kernel)
theorem tw_443 : Cond.codeWith yLw_lose method_6_code 4 (some FieldType.int) [((0 : Nat), (9 : Nat), (12 : Nat), (13 : Nat)), ((0 : Nat), (9 : Nat), (15 : Nat), (24 : Nat))] ∈ tb_ := tb_in (List.mem_append_right _ (List.mem_append_right _ (List.mem_append_left _ (List.mem_of_getElem? (l := tables_1_2) (i := 204) (by decide +kernel))))) (by decide +kernel)
theorem tw_444 : Cond.methodLink "ChannelledLinkLaw" 26 yCl_lose ∈ tb_ := tb_in (List.mem_append_right _ (List.mem_append_right _ (List.mem_append_left _ (List.mem_of_getElem? (l := tables_1_2) (i := 205) (by decide +kernel))))) (by decide +kernel)
theorem tw_445 : Cond.instanceMethod yCl_lose ∈ tb_ := tb_in (List.mem_append_right _ (List.mem_append_right _ (List.mem_append_left _ (List.mem_of_getElem? (l := tables_1_2) (i := 206) (by decide +kernel))))) (by decide +kernel)
theorem tw_446 : Cond.selects "ChannelledLink" yCl_lose yCl_lose ∈ tb_ := tb_in (List.mem_append_right _ (List.mem_append_right _ (List.mem_append_left _ (List.mem_of_getElem? (l := tables_1_2) (i := 207) (by decide +kernel))))) (by decide +kernel)
theorem tw_447 : Cond.code yCl_lose prog_1_method_5_code 2 (some FieldType.int) ∈ tb_ := tb_in (List.mem_append_right _ (List.mem_append_right _ (List.mem_append_left _ (List.mem_of_getElem? (l := tables_1_2) (i := 208) (by decide +kernel))))) (by decide +kernel)
theorem tw_448 : Cond.methodLink "ChannelledLinkLaw" 93 yLw_hand ∈ tb_ := tb_in (List.mem_append_right _ (List.mem_append_right _ (List.mem_append_left _ (List.mem_of_getElem? (l := tables_1_2) (i := 209) (by decide +kernel))))) (by decide +kernel)
theorem tw_449 : Cond.static yLw_hand ∈ tb_ := tb_in (List.mem_append_right _ (List.mem_append_right _ (List.mem_append_left _ (List.mem_of_getElem? (l := tables_1_2) (i := 210) (by decide +kernel))))) (by decide +kernel)
theorem tw_450 : Cond.codeWith yLw_hand method_7_code 8 (some FieldType.int) [((0 : Nat), (23 : Nat), (26 : Nat), (13 : Nat))] ∈ tb_ := tb_in (List.mem_append_right _ (List.mem_append_right _ (List.mem_append_left _ (List.mem_of_getElem? (l := tables_1_2) (i := 211) (by decide +kernel))))) (by decide +kernel)
theorem tw_451 : Cond.methodLink "ChannelledLinkLaw" 29 yCl_hand ∈ tb_ := tb_in (List.mem_append_right _ (List.mem_append_right _ (List.mem_append_left _ (List.mem_of_getElem? (l := tables_1_2) (i := 212) (by decide +kernel))))) (by decide +kernel)
theorem tw_452 : Cond.instanceMethod yCl_hand ∈ tb_ := tb_in (List.mem_append_right _ (List.mem_append_right _ (List.mem_append_left _ (List.mem_of_getElem? (l := tables_1_2) (i := 213) (by decide +kernel))))) (by decide +kernel)
theorem tw_453 : Cond.selects "ChannelledLink" yCl_hand yCl_hand ∈ tb_ := tb_in (List.mem_append_right _ (List.mem_append_right _ (List.mem_append_left _ (List.mem_of_getElem? (l := tables_1_2) (i := 214) (by decide +kernel))))) (by decide +kernel)
theorem tw_454 : Cond.code yCl_hand prog_1_method_6_code 7 (some FieldType.boolean) ∈ tb_ := tb_in (List.mem_append_right _ (List.mem_append_right _ (List.mem_append_left _ (List.mem_of_getElem? (l := tables_1_2) (i := 215) (by decide +kernel))))) (by decide +kernel)
theorem tw_455 : Cond.methodLink "ChannelledLink" 59 yCl_requireChannel ∈ tb_ := tb_in (List.mem_append_right _ (List.mem_append_right _ (List.mem_append_left _ (List.mem_of_getElem? (l := tables_1_2) (i := 216) (by decide +kernel))))) (by decide +kernel)
theorem tw_456 : Cond.static yCl_requireChannel ∈ tb_ := tb_in (List.mem_append_right _ (List.mem_append_right _ (List.mem_append_left _ (List.mem_of_getElem? (l := tables_1_2) (i := 217) (by decide +kernel))))) (by decide +kernel)
theorem tw_457 : Cond.code yCl_requireChannel prog_1_method_19_code 1 none ∈ tb_ := tb_in (List.mem_append_right _ (List.mem_append_right _ (List.mem_append_left _ (List.mem_of_getElem? (l := tables_1_2) (i := 218) (by decide +kernel))))) (by decide +kernel)
theorem tw_458 : Cond.methodLink "ChannelledLink" 186 yCl_isChannel ∈ tb_ := tb_in (List.mem_append_right _ (List.mem_append_right _ (List.mem_append_left _ (List.mem_of_getElem? (l := tables_1_2) (i := 219) (by decide +kernel))))) (by decide +kernel)
theorem tw_459 : Cond.stringRef "ChannelledLink" 189 "no such channel" ∈ lw_tbl := List.mem_append_right _ (List.mem_append_right _ (List.mem_append_left _ (List.mem_of_getElem? (l := tables_1_2) (i := 220) (by decide +kernel))))
theorem tw_460 : Cond.methodLink "ChannelledLink" 64 yCl_isNumber ∈ tb_ := tb_in (List.mem_append_right _ (List.mem_append_right _ (List.mem_append_left _ (List.mem_of_getElem? (l := tables_1_2) (i := 221) (by decide +kernel))))) (by decide +kernel)
theorem tw_461 : Cond.static yCl_isNumber ∈ tb_ := tb_in (List.mem_append_right _ (List.mem_append_right _ (List.mem_append_left _ (List.mem_of_getElem? (l := tables_1_2) (i := 222) (by decide +kernel))))) (by decide +kernel)
theorem tw_462 : Cond.code yCl_isNumber prog_1_method_25_code 1 (some FieldType.boolean) ∈ tb_ := tb_in (List.mem_append_right _ (List.mem_append_right _ (List.mem_append_left _ (List.mem_of_getElem? (l := tables_1_2) (i := 223) (by decide +kernel))))) (by decide +kernel)
theorem tw_463 : Cond.methodLinkNest "ChannelledLink" 68 yPk_of "ChannelledLink" ∈ lw_tbl := List.mem_append_right _ (List.mem_append_right _ (List.mem_append_left _ (List.mem_of_getElem? (l := tables_1_2) (i := 224) (by decide +kernel))))
theorem tw_464 : Cond.methodLink "ChannelledLink" 72 ySt_hearPacket ∈ tb_ := tb_in (List.mem_append_right _ (List.mem_append_right _ (List.mem_append_left _ (List.mem_of_getElem? (l := tables_1_2) (i := 225) (by decide +kernel))))) (by decide +kernel)
theorem tw_465 : Cond.methodLink "ChannelledLinkLaw" 97 yLw_call ∈ tb_ := tb_in (List.mem_append_right _ (List.mem_append_right _ (List.mem_append_left _ (List.mem_of_getElem? (l := tables_1_2) (i := 226) (by decide +kernel))))) (by decide +kernel)
theorem tw_466 : Cond.static yLw_call ∈ tb_ := tb_in (List.mem_append_right _ (List.mem_append_right _ (List.mem_append_left _ (List.mem_of_getElem? (l := tables_1_2) (i := 227) (by decide +kernel))))) (by decide +kernel)
theorem tw_467 : Cond.codeWith yLw_call method_8_code 4 (some FieldType.int) [((0 : Nat), (6 : Nat), (9 : Nat), (13 : Nat)), ((0 : Nat), (6 : Nat), (12 : Nat), (19 : Nat))] ∈ tb_ := tb_in (List.mem_append_right _ (List.mem_append_right _ (List.mem_append_left _ (List.mem_of_getElem? (l := tables_1_2) (i := 228) (by decide +kernel))))) (by decide +kernel)
theorem tw_468 : Cond.methodLink "ChannelledLinkLaw" 33 yCl_call ∈ tb_ := tb_in (List.mem_append_right _ (List.mem_append_right _ (List.mem_append_left _ (List.mem_of_getElem? (l := tables_1_2) (i := 229) (by decide +kernel))))) (by decide +kernel)
theorem tw_469 : Cond.instanceMethod yCl_call ∈ tb_ := tb_in (List.mem_append_right _ (List.mem_append_right _ (List.mem_append_left _ (List.mem_of_getElem? (l := tables_1_2) (i := 230) (by decide +kernel))))) (by decide +kernel)
theorem tw_470 : Cond.selects "ChannelledLink" yCl_call yCl_call ∈ tb_ := tb_in (List.mem_append_right _ (List.mem_append_right _ (List.mem_append_left _ (List.mem_of_getElem? (l := tables_1_2) (i := 231) (by decide +kernel))))) (by decide +kernel)
theorem tw_471 : Cond.code yCl_call prog_1_method_7_code 5 none ∈ tb_ := tb_in (List.mem_append_right _ (List.mem_append_right _ (List.mem_append_left _ (List.mem_of_getElem? (l := tables_1_2) (i := 232) (by decide +kernel))))) (by decide +kernel)
theorem tw_472 : Cond.methodLink "ChannelledLink" 75 yCl_channelAt ∈ tb_ := tb_in (List.mem_append_right _ (List.mem_append_right _ (List.mem_append_left _ (List.mem_of_getElem? (l := tables_1_2) (i := 233) (by decide +kernel))))) (by decide +kernel)
theorem tw_473 : Cond.static yCl_channelAt ∈ tb_ := tb_in (List.mem_append_right _ (List.mem_append_right _ (List.mem_append_left _ (List.mem_of_getElem? (l := tables_1_2) (i := 234) (by decide +kernel))))) (by decide +kernel)
theorem tw_474 : Cond.code yCl_channelAt prog_1_method_18_code 2 (some (FieldType.object "ChannelledLink$Channel")) ∈ tb_ := tb_in (List.mem_append_right _ (List.mem_append_right _ (List.mem_append_left _ (List.mem_of_getElem? (l := tables_1_2) (i := 235) (by decide +kernel))))) (by decide +kernel)
theorem tw_475 : Cond.methodLink "ChannelledLink" 79 ySt_takesCalls ∈ tb_ := tb_in (List.mem_append_right _ (List.mem_append_right _ (List.mem_append_left _ (List.mem_of_getElem? (l := tables_1_2) (i := 236) (by decide +kernel))))) (by decide +kernel)
theorem tw_476 : Cond.instanceMethod ySt_takesCalls ∈ tb_ := tb_in (List.mem_append_right _ (List.mem_append_right _ (List.mem_append_left _ (List.mem_of_getElem? (l := tables_1_2) (i := 237) (by decide +kernel))))) (by decide +kernel)
theorem tw_477 : Cond.selects "ChannelledLink$Station" ySt_takesCalls ySt_takesCalls ∈ tb_ := tb_in (List.mem_append_right _ (List.mem_append_right _ (List.mem_append_left _ (List.mem_of_getElem? (l := tables_1_2) (i := 238) (by decide +kernel))))) (by decide +kernel)
theorem tw_478 : Cond.code ySt_takesCalls prog_6_method_4_code 1 (some FieldType.boolean) ∈ tb_ := tb_in (List.mem_append_right _ (List.mem_append_right _ (List.mem_append_left _ (List.mem_of_getElem? (l := tables_1_2) (i := 239) (by decide +kernel))))) (by decide +kernel)
theorem tw_479 : Cond.methodLink "ChannelledLink" 88 yCh_renewAs ∈ tb_ := tb_in (List.mem_append_right _ (List.mem_append_right _ (List.mem_append_right _ (List.mem_append_left _ (List.mem_of_getElem? (l := tables_1_3) (i := 0) (by decide +kernel)))))) (by decide +kernel)
theorem tw_480 : Cond.methodLinkNest "ChannelledLink" 91 yPk_bare "ChannelledLink" ∈ lw_tbl := List.mem_append_right _ (List.mem_append_right _ (List.mem_append_right _ (List.mem_append_left _ (List.mem_of_getElem? (l := tables_1_3) (i := 1) (by decide +kernel)))))
theorem tw_481 : Cond.methodLink "ChannelledLink" 95 ySt_sendPacket ∈ tb_ := tb_in (List.mem_append_right _ (List.mem_append_right _ (List.mem_append_right _ (List.mem_append_left _ (List.mem_of_getElem? (l := tables_1_3) (i := 2) (by decide +kernel)))))) (by decide +kernel)
theorem tw_482 : Cond.methodLink "ChannelledLinkLaw" 101 yLw_accept ∈ tb_ := tb_in (List.mem_append_right _ (List.mem_append_right _ (List.mem_append_right _ (List.mem_append_left _ (List.mem_of_getElem? (l := tables_1_3) (i := 3) (by decide +kernel)))))) (by decide +kernel)
theorem tw_483 : Cond.static yLw_accept ∈ tb_ := tb_in (List.mem_append_right _ (List.mem_append_right _ (List.mem_append_right _ (List.mem_append_left _ (List.mem_of_getElem? (l := tables_1_3) (i := 4) (by decide +kernel)))))) (by decide +kernel)
theorem tw_484 : Cond.codeWith yLw_accept method_9_code 4 (some FieldType.int) [((0 : Nat), (6 : Nat), (9 : Nat), (13 : Nat)), ((0 : Nat), (6 : Nat), (12 : Nat), (19 : Nat))] ∈ tb_ := tb_in (List.mem_append_right _ (List.mem_append_right _ (List.mem_append_right _ (List.mem_append_left _ (List.mem_of_getElem? (l := tables_1_3) (i := 5) (by decide +kernel)))))) (by decide +kernel)
theorem tw_485 : Cond.methodLink "ChannelledLinkLaw" 37 yCl_accept ∈ tb_ := tb_in (List.mem_append_right _ (List.mem_append_right _ (List.mem_append_right _ (List.mem_append_left _ (List.mem_of_getElem? (l := tables_1_3) (i := 6) (by decide +kernel)))))) (by decide +kernel)
theorem tw_486 : Cond.instanceMethod yCl_accept ∈ tb_ := tb_in (List.mem_append_right _ (List.mem_append_right _ (List.mem_append_right _ (List.mem_append_left _ (List.mem_of_getElem? (l := tables_1_3) (i := 7) (by decide +kernel)))))) (by decide +kernel)
theorem tw_487 : Cond.selects "ChannelledLink" yCl_accept yCl_accept ∈ tb_ := tb_in (List.mem_append_right _ (List.mem_append_right _ (List.mem_append_right _ (List.mem_append_left _ (List.mem_of_getElem? (l := tables_1_3) (i := 8) (by decide +kernel)))))) (by decide +kernel)
theorem tw_488 : Cond.code yCl_accept prog_1_method_8_code 5 none ∈ tb_ := tb_in (List.mem_append_right _ (List.mem_append_right _ (List.mem_append_right _ (List.mem_append_left _ (List.mem_of_getElem? (l := tables_1_3) (i := 9) (by decide +kernel)))))) (by decide +kernel)
theorem tw_489 : Cond.methodLink "ChannelledLinkLaw" 104 yLw_clear ∈ tb_ := tb_in (List.mem_append_right _ (List.mem_append_right _ (List.mem_append_right _ (List.mem_append_left _ (List.mem_of_getElem? (l := tables_1_3) (i := 10) (by decide +kernel)))))) (by decide +kernel)
theorem tw_490 : Cond.static yLw_clear ∈ tb_ := tb_in (List.mem_append_right _ (List.mem_append_right _ (List.mem_append_right _ (List.mem_append_left _ (List.mem_of_getElem? (l := tables_1_3) (i := 11) (by decide +kernel)))))) (by decide +kernel)
theorem tw_491 : Cond.codeWith yLw_clear method_10_code 4 (some FieldType.int) [((0 : Nat), (6 : Nat), (9 : Nat), (13 : Nat)), ((0 : Nat), (6 : Nat), (12 : Nat), (19 : Nat))] ∈ tb_ := tb_in (List.mem_append_right _ (List.mem_append_right _ (List.mem_append_right _ (List.mem_append_left _ (List.mem_of_getElem? (l := tables_1_3) (i := 12) (by decide +kernel)))))) (by decide +kernel)
theorem tw_492 : Cond.methodLink "ChannelledLinkLaw" 40 yCl_clear ∈ tb_ := tb_in (List.mem_append_right _ (List.mem_append_right _ (List.mem_append_right _ (List.mem_append_left _ (List.mem_of_getElem? (l := tables_1_3) (i := 13) (by decide +kernel)))))) (by decide +kernel)
theorem tw_493 : Cond.instanceMethod yCl_clear ∈ tb_ := tb_in (List.mem_append_right _ (List.mem_append_right _ (List.mem_append_right _ (List.mem_append_left _ (List.mem_of_getElem? (l := tables_1_3) (i := 14) (by decide +kernel)))))) (by decide +kernel)
theorem tw_494 : Cond.selects "ChannelledLink" yCl_clear yCl_clear ∈ tb_ := tb_in (List.mem_append_right _ (List.mem_append_right _ (List.mem_append_right _ (List.mem_append_left _ (List.mem_of_getElem? (l := tables_1_3) (i := 15) (by decide +kernel)))))) (by decide +kernel)
theorem tw_495 : Cond.code yCl_clear prog_1_method_9_code 6 none ∈ tb_ := tb_in (List.mem_append_right _ (List.mem_append_right _ (List.mem_append_right _ (List.mem_append_left _ (List.mem_of_getElem? (l := tables_1_3) (i := 16) (by decide +kernel)))))) (by decide +kernel)
theorem tw_496 : Cond.methodLink "ChannelledLinkLaw" 107 yLw_reset ∈ tb_ := tb_in (List.mem_append_right _ (List.mem_append_right _ (List.mem_append_right _ (List.mem_append_left _ (List.mem_of_getElem? (l := tables_1_3) (i := 17) (by decide +kernel)))))) (by decide +kernel)
theorem tw_497 : Cond.static yLw_reset ∈ tb_ := tb_in (List.mem_append_right _ (List.mem_append_right _ (List.mem_append_right _ (List.mem_append_left _ (List.mem_of_getElem? (l := tables_1_3) (i := 18) (by decide +kernel)))))) (by decide +kernel)
theorem tw_498 : Cond.codeWith yLw_reset method_11_code 4 (some FieldType.int) [((0 : Nat), (6 : Nat), (9 : Nat), (13 : Nat)), ((0 : Nat), (6 : Nat), (12 : Nat), (19 : Nat))] ∈ tb_ := tb_in (List.mem_append_right _ (List.mem_append_right _ (List.mem_append_right _ (List.mem_append_left _ (List.mem_of_getElem? (l := tables_1_3) (i := 19) (by decide +kernel)))))) (by decide +kernel)
theorem tw_499 : Cond.methodLink "ChannelledLinkLaw" 43 yCl_reset ∈ tb_ := tb_in (List.mem_append_right _ (List.mem_append_right _ (List.mem_append_right _ (List.mem_append_left _ (List.mem_of_getElem? (l := tables_1_3) (i := 20) (by decide +kernel)))))) (by decide +kernel)
theorem tw_500 : Cond.instanceMethod yCl_reset ∈ tb_ := tb_in (List.mem_append_right _ (List.mem_append_right _ (List.mem_append_right _ (List.mem_append_left _ (List.mem_of_getElem? (l := tables_1_3) (i := 21) (by decide +kernel)))))) (by decide +kernel)
theorem tw_501 : Cond.selects "ChannelledLink" yCl_reset yCl_reset ∈ tb_ := tb_in (List.mem_append_right _ (List.mem_append_right _ (List.mem_append_right _ (List.mem_append_left _ (List.mem_of_getElem? (l := tables_1_3) (i := 22) (by decide +kernel)))))) (by decide +kernel)
theorem tw_502 : Cond.code yCl_reset prog_1_method_10_code 5 none ∈ tb_ := tb_in (List.mem_append_right _ (List.mem_append_right _ (List.mem_append_right _ (List.mem_append_left _ (List.mem_of_getElem? (l := tables_1_3) (i := 23) (by decide +kernel)))))) (by decide +kernel)
theorem tw_503 : Cond.methodLink "ChannelledLinkLaw" 110 yLw_send ∈ tb_ := tb_in (List.mem_append_right _ (List.mem_append_right _ (List.mem_append_right _ (List.mem_append_left _ (List.mem_of_getElem? (l := tables_1_3) (i := 24) (by decide +kernel)))))) (by decide +kernel)
theorem tw_504 : Cond.static yLw_send ∈ tb_ := tb_in (List.mem_append_right _ (List.mem_append_right _ (List.mem_append_right _ (List.mem_append_left _ (List.mem_of_getElem? (l := tables_1_3) (i := 25) (by decide +kernel)))))) (by decide +kernel)
theorem tw_505 : Cond.codeWith yLw_send method_12_code 7 (some FieldType.int) [((0 : Nat), (21 : Nat), (24 : Nat), (13 : Nat)), ((0 : Nat), (21 : Nat), (28 : Nat), (50 : Nat)), ((0 : Nat), (21 : Nat), (32 : Nat), (19 : Nat))] ∈ tb_ := tb_in (List.mem_append_right _ (List.mem_append_right _ (List.mem_append_right _ (List.mem_append_left _ (List.mem_of_getElem? (l := tables_1_3) (i := 26) (by decide +kernel)))))) (by decide +kernel)
theorem tw_506 : Cond.classLink "ChannelledLinkLaw" 50 "java/lang/IllegalArgumentException" ∈ tb_ := tb_in (List.mem_append_right _ (List.mem_append_right _ (List.mem_append_right _ (List.mem_append_left _ (List.mem_of_getElem? (l := tables_1_3) (i := 27) (by decide +kernel)))))) (by decide +kernel)
theorem tw_507 : Cond.methodLink "ChannelledLinkLaw" 46 yCl_send ∈ tb_ := tb_in (List.mem_append_right _ (List.mem_append_right _ (List.mem_append_right _ (List.mem_append_left _ (List.mem_of_getElem? (l := tables_1_3) (i := 28) (by decide +kernel)))))) (by decide +kernel)
theorem tw_508 : Cond.instanceMethod yCl_send ∈ tb_ := tb_in (List.mem_append_right _ (List.mem_append_right _ (List.mem_append_right _ (List.mem_append_left _ (List.mem_of_getElem? (l := tables_1_3) (i := 29) (by decide +kernel)))))) (by decide +kernel)
theorem tw_509 : Cond.selects "ChannelledLink" yCl_send yCl_send ∈ tb_ := tb_in (List.mem_append_right _ (List.mem_append_right _ (List.mem_append_right _ (List.mem_append_left _ (List.mem_of_getElem? (l := tables_1_3) (i := 30) (by decide +kernel)))))) (by decide +kernel)
theorem tw_510 : Cond.code yCl_send prog_1_method_11_code 9 (some FieldType.boolean) ∈ tb_ := tb_in (List.mem_append_right _ (List.mem_append_right _ (List.mem_append_right _ (List.mem_append_left _ (List.mem_of_getElem? (l := tables_1_3) (i := 31) (by decide +kernel)))))) (by decide +kernel)
theorem tw_511 : Cond.methodLink "ChannelledLink" 98 yCl_requireValue ∈ tb_ := tb_in (List.mem_append_right _ (List.mem_append_right _ (List.mem_append_right _ (List.mem_append_left _ (List.mem_of_getElem? (l := tables_1_3) (i := 32) (by decide +kernel)))))) (by decide +kernel)
theorem tw_512 : Cond.static yCl_requireValue ∈ tb_ := tb_in (List.mem_append_right _ (List.mem_append_right _ (List.mem_append_right _ (List.mem_append_left _ (List.mem_of_getElem? (l := tables_1_3) (i := 33) (by decide +kernel)))))) (by decide +kernel)
theorem tw_513 : Cond.code yCl_requireValue prog_1_method_20_code 1 none ∈ tb_ := tb_in (List.mem_append_right _ (List.mem_append_right _ (List.mem_append_right _ (List.mem_append_left _ (List.mem_of_getElem? (l := tables_1_3) (i := 34) (by decide +kernel)))))) (by decide +kernel)
theorem tw_514 : Cond.classLink "ChannelledLink" 191 "java/lang/IllegalArgumentException" ∈ tb_ := tb_in (List.mem_append_right _ (List.mem_append_right _ (List.mem_append_right _ (List.mem_append_left _ (List.mem_of_getElem? (l := tables_1_3) (i := 35) (by decide +kernel)))))) (by decide +kernel)
theorem tw_515 : Cond.instantiable "java/lang/IllegalArgumentException" 6 ∈ tb_ := tb_in (List.mem_append_right _ (List.mem_append_right _ (List.mem_append_right _ (List.mem_append_left _ (List.mem_of_getElem? (l := tables_1_3) (i := 36) (by decide +kernel)))))) (by decide +kernel)
theorem tw_516 : Cond.castable "java/lang/IllegalArgumentException" "java/lang/IllegalArgumentException" ∈ lw_tbl := List.mem_append_right _ (List.mem_append_right _ (List.mem_append_right _ (List.mem_append_left _ (List.mem_of_getElem? (l := tables_1_3) (i := 37) (by decide +kernel)))))
theorem tw_517 : Cond.selects "java/lang/IllegalArgumentException" yTh_fillInStackTrace yTh_fillInStackTrace ∈ tb_ := tb_in (List.mem_append_right _ (List.mem_append_right _ (List.mem_append_right _ (List.mem_append_left _ (List.mem_of_getElem? (l := tables_1_3) (i := 38) (by decide +kernel)))))) (by decide +kernel)
theorem tw_518 : Cond.lays "java/lang/IllegalArgumentException" "java/lang/Throwable" "cause" "Ljava/lang/Throwable;" ∈ tb_ := tb_in (List.mem_append_right _ (List.mem_append_right _ (List.mem_append_right _ (List.mem_append_left _ (List.mem_of_getElem? (l := tables_1_3) (i := 39) (by decide +kernel)))))) (by decide +kernel)
theorem tw_519 : Cond.lays "java/lang/IllegalArgumentException" "java/lang/Throwable" "stackTrace" "[Ljava/lang/StackTraceElement;" ∈ tb_ := tb_in (List.mem_append_right _ (List.mem_append_right _ (List.mem_append_right _ (List.mem_append_left _ (List.mem_of_getElem? (l := tables_1_3) (i := 40) (by decide +kernel)))))) (by decide +kernel)
theorem tw_520 : Cond.lays "java/lang/IllegalArgumentException" "java/lang/Throwable" "suppressedExceptions" "Ljava/util/List;" ∈ tb_ := tb_in (List.mem_append_right _ (List.mem_append_right _ (List.mem_append_right _ (List.mem_append_left _ (List.mem_of_getElem? (l := tables_1_3) (i := 41) (by decide +kernel)))))) (by decide +kernel)
theorem tw_521 : Cond.lays "java/lang/IllegalArgumentException" "java/lang/Throwable" "detailMessage" "Ljava/lang/String;" ∈ tb_ := tb_in (List.mem_append_right _ (List.mem_append_right _ (List.mem_append_right _ (List.mem_append_left _ (List.mem_of_getElem? (l := tables_1_3) (i := 42) (by decide +kernel)))))) (by decide +kernel)
theorem tw_522 : Cond.lays "java/lang/IllegalArgumentException" "java/lang/Throwable" "backtrace" "Ljava/lang/Object;" ∈ tb_ := tb_in (List.mem_append_right _ (List.mem_append_right _ (List.mem_append_right _ (List.mem_append_left _ (List.mem_of_getElem? (l := tables_1_3) (i := 43) (by decide +kernel)))))) (by decide +kernel)
theorem tw_523 : Cond.stringRef "ChannelledLink" 193 "a value is 0 .. 255" ∈ lw_tbl := List.mem_append_right _ (List.mem_append_right _ (List.mem_append_right _ (List.mem_append_left _ (List.mem_of_getElem? (l := tables_1_3) (i := 44) (by decide +kernel)))))
theorem tw_524 : Cond.methodLink "ChannelledLink" 195 yIa_init ∈ tb_ := tb_in (List.mem_append_right _ (List.mem_append_right _ (List.mem_append_right _ (List.mem_append_left _ (List.mem_of_getElem? (l := tables_1_3) (i := 45) (by decide +kernel)))))) (by decide +kernel)
theorem tw_525 : Cond.instanceMethod yIa_init ∈ tb_ := tb_in (List.mem_append_right _ (List.mem_append_right _ (List.mem_append_right _ (List.mem_append_left _ (List.mem_of_getElem? (l := tables_1_3) (i := 46) (by decide +kernel)))))) (by decide +kernel)
theorem tw_526 : Cond.code yIa_init prog_10_method_2_code 2 none ∈ tb_ := tb_in (List.mem_append_right _ (List.mem_append_right _ (List.mem_append_right _ (List.mem_append_left _ (List.mem_of_getElem? (l := tables_1_3) (i := 47) (by decide +kernel)))))) (by decide +kernel)
theorem tw_527 : Cond.methodLink "java/lang/IllegalArgumentException" 7 yRt_init2 ∈ tb_ := tb_in (List.mem_append_right _ (List.mem_append_right _ (List.mem_append_right _ (List.mem_append_left _ (List.mem_of_getElem? (l := tables_1_3) (i := 48) (by decide +kernel)))))) (by decide +kernel)
theorem tw_528 : Cond.lays "java/lang/IllegalArgumentException" "java/lang/Throwable" "depth" "I" ∈ tb_ := tb_in (List.mem_append_right _ (List.mem_append_right _ (List.mem_append_right _ (List.mem_append_left _ (List.mem_of_getElem? (l := tables_1_3) (i := 49) (by decide +kernel)))))) (by decide +kernel)
theorem tw_529 : Cond.superclass "java/lang/IllegalArgumentException" "java/lang/RuntimeException" ∈ tb_ := tb_in (List.mem_append_right _ (List.mem_append_right _ (List.mem_append_right _ (List.mem_append_left _ (List.mem_of_getElem? (l := tables_1_3) (i := 50) (by decide +kernel)))))) (by decide +kernel)
theorem tw_530 : Cond.methodLink "ChannelledLink" 107 yCl_distance ∈ tb_ := tb_in (List.mem_append_right _ (List.mem_append_right _ (List.mem_append_right _ (List.mem_append_left _ (List.mem_of_getElem? (l := tables_1_3) (i := 51) (by decide +kernel)))))) (by decide +kernel)
theorem tw_531 : Cond.methodLink "ChannelledLink" 113 yCl_after ∈ tb_ := tb_in (List.mem_append_right _ (List.mem_append_right _ (List.mem_append_right _ (List.mem_append_left _ (List.mem_of_getElem? (l := tables_1_3) (i := 52) (by decide +kernel)))))) (by decide +kernel)
theorem tw_532 : Cond.methodLink "ChannelledLinkLaw" 114 yLw_receive ∈ tb_ := tb_in (List.mem_append_right _ (List.mem_append_right _ (List.mem_append_right _ (List.mem_append_left _ (List.mem_of_getElem? (l := tables_1_3) (i := 53) (by decide +kernel)))))) (by decide +kernel)
theorem tw_533 : Cond.static yLw_receive ∈ tb_ := tb_in (List.mem_append_right _ (List.mem_append_right _ (List.mem_append_right _ (List.mem_append_left _ (List.mem_of_getElem? (l := tables_1_3) (i := 54) (by decide +kernel)))))) (by decide +kernel)
theorem tw_534 : Cond.codeWith yLw_receive method_13_code 5 (some FieldType.int) [((0 : Nat), (10 : Nat), (13 : Nat), (13 : Nat)), ((0 : Nat), (10 : Nat), (17 : Nat), (19 : Nat)), ((0 : Nat), (10 : Nat), (21 : Nat), (24 : Nat))] ∈ tb_ := tb_in (List.mem_append_right _ (List.mem_append_right _ (List.mem_append_right _ (List.mem_append_left _ (List.mem_of_getElem? (l := tables_1_3) (i := 55) (by decide +kernel)))))) (by decide +kernel)
theorem tw_535 : Cond.methodLink "ChannelledLinkLaw" 52 yCl_receive ∈ tb_ := tb_in (List.mem_append_right _ (List.mem_append_right _ (List.mem_append_right _ (List.mem_append_left _ (List.mem_of_getElem? (l := tables_1_3) (i := 56) (by decide +kernel)))))) (by decide +kernel)
theorem tw_536 : Cond.instanceMethod yCl_receive ∈ tb_ := tb_in (List.mem_append_right _ (List.mem_append_right _ (List.mem_append_right _ (List.mem_append_left _ (List.mem_of_getElem? (l := tables_1_3) (i := 57) (by decide +kernel)))))) (by decide +kernel)
theorem tw_537 : Cond.selects "ChannelledLink" yCl_receive yCl_receive ∈ tb_ := tb_in (List.mem_append_right _ (List.mem_append_right _ (List.mem_append_right _ (List.mem_append_left _ (List.mem_of_getElem? (l := tables_1_3) (i := 58) (by decide +kernel)))))) (by decide +kernel)
theorem tw_538 : Cond.code yCl_receive prog_1_method_12_code 6 (some FieldType.int) ∈ tb_ := tb_in (List.mem_append_right _ (List.mem_append_right _ (List.mem_append_right _ (List.mem_append_left _ (List.mem_of_getElem? (l := tables_1_3) (i := 59) (by decide +kernel)))))) (by decide +kernel)
theorem tw_539 : Cond.methodLink "ChannelledLink" 123 yCh_takeData ∈ tb_ := tb_in (List.mem_append_right _ (List.mem_append_right _ (List.mem_append_right _ (List.mem_append_left _ (List.mem_of_getElem? (l := tables_1_3) (i := 60) (by decide +kernel)))))) (by decide +kernel)
theorem tw_540 : Cond.instanceMethod yCh_takeData ∈ tb_ := tb_in (List.mem_append_right _ (List.mem_append_right _ (List.mem_append_right _ (List.mem_append_left _ (List.mem_of_getElem? (l := tables_1_3) (i := 61) (by decide +kernel)))))) (by decide +kernel)
theorem tw_541 : Cond.selects "ChannelledLink$Channel" yCh_takeData yCh_takeData ∈ tb_ := tb_in (List.mem_append_right _ (List.mem_append_right _ (List.mem_append_right _ (List.mem_append_left _ (List.mem_of_getElem? (l := tables_1_3) (i := 62) (by decide +kernel)))))) (by decide +kernel)
theorem tw_542 : Cond.code yCh_takeData prog_2_method_3_code 2 (some FieldType.int) ∈ tb_ := tb_in (List.mem_append_right _ (List.mem_append_right _ (List.mem_append_right _ (List.mem_append_left _ (List.mem_of_getElem? (l := tables_1_3) (i := 63) (by decide +kernel)))))) (by decide +kernel)
theorem tw_543 : Cond.methodLink "ChannelledLink$Channel" 43 yRw_at ∈ tb_ := tb_in (List.mem_append_right _ (List.mem_append_right _ (List.mem_append_right _ (List.mem_append_left _ (List.mem_of_getElem? (l := tables_1_3) (i := 64) (by decide +kernel)))))) (by decide +kernel)
theorem tw_544 : Cond.methodLink "ChannelledLink$Channel" 47 yRw_drop ∈ tb_ := tb_in (List.mem_append_right _ (List.mem_append_right _ (List.mem_append_right _ (List.mem_append_left _ (List.mem_of_getElem? (l := tables_1_3) (i := 65) (by decide +kernel)))))) (by decide +kernel)
theorem tw_545 : Cond.methodLink "ChannelledLinkLaw" 118 yLw_link ∈ tb_ := tb_in (List.mem_append_right _ (List.mem_append_right _ (List.mem_append_right _ (List.mem_append_left _ (List.mem_of_getElem? (l := tables_1_3) (i := 66) (by decide +kernel)))))) (by decide +kernel)
theorem tw_546 : Cond.static yLw_link ∈ tb_ := tb_in (List.mem_append_right _ (List.mem_append_right _ (List.mem_append_right _ (List.mem_append_left _ (List.mem_of_getElem? (l := tables_1_3) (i := 67) (by decide +kernel)))))) (by decide +kernel)
theorem tw_547 : Cond.codeWith yLw_link method_14_code 5 (some FieldType.int) [((0 : Nat), (10 : Nat), (13 : Nat), (13 : Nat))] ∈ tb_ := tb_in (List.mem_append_right _ (List.mem_append_right _ (List.mem_append_right _ (List.mem_append_left _ (List.mem_of_getElem? (l := tables_1_3) (i := 68) (by decide +kernel)))))) (by decide +kernel)
theorem tw_548 : Cond.methodLink "ChannelledLinkLaw" 56 yCl_link ∈ tb_ := tb_in (List.mem_append_right _ (List.mem_append_right _ (List.mem_append_right _ (List.mem_append_left _ (List.mem_of_getElem? (l := tables_1_3) (i := 69) (by decide +kernel)))))) (by decide +kernel)
theorem tw_549 : Cond.instanceMethod yCl_link ∈ tb_ := tb_in (List.mem_append_right _ (List.mem_append_right _ (List.mem_append_right _ (List.mem_append_left _ (List.mem_of_getElem? (l := tables_1_3) (i := 70) (by decide +kernel)))))) (by decide +kernel)
theorem tw_550 : Cond.selects "ChannelledLink" yCl_link yCl_link ∈ tb_ := tb_in (List.mem_append_right _ (List.mem_append_right _ (List.mem_append_right _ (List.mem_append_left _ (List.mem_of_getElem? (l := tables_1_3) (i := 71) (by decide +kernel)))))) (by decide +kernel)
theorem tw_551 : Cond.code yCl_link prog_1_method_13_code 4 (some FieldType.int) ∈ tb_ := tb_in (List.mem_append_right _ (List.mem_append_right _ (List.mem_append_right _ (List.mem_append_left _ (List.mem_of_getElem? (l := tables_1_3) (i := 72) (by decide +kernel)))))) (by decide +kernel)
theorem tw_552 : Cond.methodLink "ChannelledLinkLaw" 121 yLw_channel ∈ tb_ := tb_in (List.mem_append_right _ (List.mem_append_right _ (List.mem_append_right _ (List.mem_append_left _ (List.mem_of_getElem? (l := tables_1_3) (i := 73) (by decide +kernel)))))) (by decide +kernel)
theorem tw_553 : Cond.static yLw_channel ∈ tb_ := tb_in (List.mem_append_right _ (List.mem_append_right _ (List.mem_append_right _ (List.mem_append_left _ (List.mem_of_getElem? (l := tables_1_3) (i := 74) (by decide +kernel)))))) (by decide +kernel)
theorem tw_554 : Cond.codeWith yLw_channel method_15_code 6 (some FieldType.int) [((0 : Nat), (12 : Nat), (15 : Nat), (13 : Nat))] ∈ tb_ := tb_in (List.mem_append_right _ (List.mem_append_right _ (List.mem_append_right _ (List.mem_append_left _ (List.mem_of_getElem? (l := tables_1_3) (i := 75) (by decide +kernel)))))) (by decide +kernel)
theorem tw_555 : Cond.methodLink "ChannelledLinkLaw" 59 yCl_channel ∈ tb_ := tb_in (List.mem_append_right _ (List.mem_append_right _ (List.mem_append_right _ (List.mem_append_left _ (List.mem_of_getElem? (l := tables_1_3) (i := 76) (by decide +kernel)))))) (by decide +kernel)
theorem tw_556 : Cond.instanceMethod yCl_channel ∈ tb_ := tb_in (List.mem_append_right _ (List.mem_append_right _ (List.mem_append_right _ (List.mem_append_left _ (List.mem_of_getElem? (l := tables_1_3) (i := 77) (by decide +kernel)))))) (by decide +kernel)
theorem tw_557 : Cond.selects "ChannelledLink" yCl_channel yCl_channel ∈ tb_ := tb_in (List.mem_append_right _ (List.mem_append_right _ (List.mem_append_right _ (List.mem_append_left _ (List.mem_of_getElem? (l := tables_1_3) (i := 78) (by decide +kernel)))))) (by decide +kernel)
theorem tw_558 : Cond.code yCl_channel prog_1_method_14_code 5 (some FieldType.int) ∈ tb_ := tb_in (List.mem_append_right _ (List.mem_append_right _ (List.mem_append_right _ (List.mem_append_left _ (List.mem_of_getElem? (l := tables_1_3) (i := 79) (by decide +kernel)))))) (by decide +kernel)
theorem tw_559 : Cond.methodLink "ChannelledLinkLaw" 125 yLw_frame ∈ tb_ := tb_in (List.mem_append_right _ (List.mem_append_right _ (List.mem_append_right _ (List.mem_append_left _ (List.mem_of_getElem? (l := tables_1_3) (i := 80) (by decide +kernel)))))) (by decide +kernel)
theorem tw_560 : Cond.static yLw_frame ∈ tb_ := tb_in (List.mem_append_right _ (List.mem_append_right _ (List.mem_append_right _ (List.mem_append_left _ (List.mem_of_getElem? (l := tables_1_3) (i := 81) (by decide +kernel)))))) (by decide +kernel)
theorem tw_561 : Cond.codeWith yLw_frame method_16_code 6 (some FieldType.int) [((0 : Nat), (12 : Nat), (15 : Nat), (13 : Nat))] ∈ tb_ := tb_in (List.mem_append_right _ (List.mem_append_right _ (List.mem_append_right _ (List.mem_append_left _ (List.mem_of_getElem? (l := tables_1_3) (i := 82) (by decide +kernel)))))) (by decide +kernel)
theorem tw_562 : Cond.methodLink "ChannelledLinkLaw" 63 yCl_frame ∈ tb_ := tb_in (List.mem_append_right _ (List.mem_append_right _ (List.mem_append_right _ (List.mem_append_left _ (List.mem_of_getElem? (l := tables_1_3) (i := 83) (by decide +kernel)))))) (by decide +kernel)
theorem tw_563 : Cond.instanceMethod yCl_frame ∈ tb_ := tb_in (List.mem_append_right _ (List.mem_append_right _ (List.mem_append_right _ (List.mem_append_left _ (List.mem_of_getElem? (l := tables_1_3) (i := 84) (by decide +kernel)))))) (by decide +kernel)
theorem tw_564 : Cond.selects "ChannelledLink" yCl_frame yCl_frame ∈ tb_ := tb_in (List.mem_append_right _ (List.mem_append_right _ (List.mem_append_right _ (List.mem_append_left _ (List.mem_of_getElem? (l := tables_1_3) (i := 85) (by decide +kernel)))))) (by decide +kernel)
theorem tw_565 : Cond.code yCl_frame prog_1_method_15_code 7 (some FieldType.int) ∈ tb_ := tb_in (List.mem_append_right _ (List.mem_append_right _ (List.mem_append_right _ (List.mem_append_left _ (List.mem_of_getElem? (l := tables_1_3) (i := 86) (by decide +kernel)))))) (by decide +kernel)
theorem tw_566 : Cond.methodLinkNest "ChannelledLink" 157 yFr_packetOf "ChannelledLink" ∈ lw_tbl := List.mem_append_right _ (List.mem_append_right _ (List.mem_append_right _ (List.mem_append_left _ (List.mem_of_getElem? (l := tables_1_3) (i := 87) (by decide +kernel)))))
theorem tw_567 : Cond.methodLinkNest "ChannelledLink" 160 yFr_numberOf "ChannelledLink" ∈ lw_tbl := List.mem_append_right _ (List.mem_append_right _ (List.mem_append_right _ (List.mem_append_left _ (List.mem_of_getElem? (l := tables_1_3) (i := 88) (by decide +kernel)))))
theorem tw_568 : Cond.methodLinkNest "ChannelledLink" 163 yFr_acknowledgementOf "ChannelledLink" ∈ lw_tbl := List.mem_append_right _ (List.mem_append_right _ (List.mem_append_right _ (List.mem_append_left _ (List.mem_of_getElem? (l := tables_1_3) (i := 89) (by decide +kernel)))))
theorem tw_569 : Cond.methodLinkNest "ChannelledLink" 166 yPk_kindOf "ChannelledLink" ∈ lw_tbl := List.mem_append_right _ (List.mem_append_right _ (List.mem_append_right _ (List.mem_append_left _ (List.mem_of_getElem? (l := tables_1_3) (i := 90) (by decide +kernel)))))
theorem tw_570 : Cond.methodLinkNest "ChannelledLink" 167 yPk_channelOf "ChannelledLink" ∈ lw_tbl := List.mem_append_right _ (List.mem_append_right _ (List.mem_append_right _ (List.mem_append_left _ (List.mem_of_getElem? (l := tables_1_3) (i := 91) (by decide +kernel)))))
theorem tw_571 : Cond.methodLinkNest "ChannelledLink" 170 yPk_numberOf "ChannelledLink" ∈ lw_tbl := List.mem_append_right _ (List.mem_append_right _ (List.mem_append_right _ (List.mem_append_left _ (List.mem_of_getElem? (l := tables_1_3) (i := 92) (by decide +kernel)))))
theorem tw_572 : Cond.methodLinkNest "ChannelledLink" 171 yPk_acknowledgementOf "ChannelledLink" ∈ lw_tbl := List.mem_append_right _ (List.mem_append_right _ (List.mem_append_right _ (List.mem_append_left _ (List.mem_of_getElem? (l := tables_1_3) (i := 93) (by decide +kernel)))))
theorem tw_573 : Cond.methodLinkNest "ChannelledLink" 172 yPk_dataOf "ChannelledLink" ∈ lw_tbl := List.mem_append_right _ (List.mem_append_right _ (List.mem_append_right _ (List.mem_append_left _ (List.mem_of_getElem? (l := tables_1_3) (i := 94) (by decide +kernel)))))
theorem tw_574 : Cond.methodLink "ChannelledLinkLaw" 128 yLw_peek ∈ tb_ := tb_in (List.mem_append_right _ (List.mem_append_right _ (List.mem_append_right _ (List.mem_append_left _ (List.mem_of_getElem? (l := tables_1_3) (i := 95) (by decide +kernel)))))) (by decide +kernel)
theorem tw_575 : Cond.static yLw_peek ∈ tb_ := tb_in (List.mem_append_right _ (List.mem_append_right _ (List.mem_append_right _ (List.mem_append_left _ (List.mem_of_getElem? (l := tables_1_3) (i := 96) (by decide +kernel)))))) (by decide +kernel)
theorem tw_576 : Cond.codeWith yLw_peek method_17_code 5 (some FieldType.int) [((0 : Nat), (10 : Nat), (13 : Nat), (13 : Nat))] ∈ tb_ := tb_in (List.mem_append_right _ (List.mem_append_right _ (List.mem_append_right _ (List.mem_append_left _ (List.mem_of_getElem? (l := tables_1_3) (i := 97) (by decide +kernel)))))) (by decide +kernel)
theorem tw_577 : Cond.methodLink "ChannelledLinkLaw" 66 yCl_peek ∈ tb_ := tb_in (List.mem_append_right _ (List.mem_append_right _ (List.mem_append_right _ (List.mem_append_left _ (List.mem_of_getElem? (l := tables_1_3) (i := 98) (by decide +kernel)))))) (by decide +kernel)
theorem tw_578 : Cond.instanceMethod yCl_peek ∈ tb_ := tb_in (List.mem_append_right _ (List.mem_append_right _ (List.mem_append_right _ (List.mem_append_left _ (List.mem_of_getElem? (l := tables_1_3) (i := 99) (by decide +kernel)))))) (by decide +kernel)
theorem tw_579 : Cond.selects "ChannelledLink" yCl_peek yCl_peek ∈ tb_ := tb_in (List.mem_append_right _ (List.mem_append_right _ (List.mem_append_right _ (List.mem_append_left _ (List.mem_of_getElem? (l := tables_1_3) (i := 100) (by decide +kernel)))))) (by decide +kernel)
theorem tw_580 : Cond.code yCl_peek prog_1_method_16_code 4 (some FieldType.int) ∈ tb_ := tb_in (List.mem_append_right _ (List.mem_append_right _ (List.mem_append_right _ (List.mem_append_left _ (List.mem_of_getElem? (l := tables_1_3) (i := 101) (by decide +kernel)))))) (by decide +kernel)
theorem tw_581 : Cond.classLink "ChannelledLinkLaw" 70 "ChannelledLinkModel" ∈ tb_ := tb_in (List.mem_append_right _ (List.mem_append_right _ (List.mem_append_right _ (List.mem_append_left _ (List.mem_of_getElem? (l := tables_1_3) (i := 102) (by decide +kernel)))))) (by decide +kernel)
theorem tw_582 : Cond.instantiable "ChannelledLinkModel" 29 ∈ tb_ := tb_in (List.mem_append_right _ (List.mem_append_right _ (List.mem_append_right _ (List.mem_append_left _ (List.mem_of_getElem? (l := tables_1_3) (i := 103) (by decide +kernel)))))) (by decide +kernel)
theorem tw_583 : Cond.methodLink "ChannelledLinkLaw" 72 yMo_init ∈ tb_ := tb_in (List.mem_append_right _ (List.mem_append_right _ (List.mem_append_right _ (List.mem_append_left _ (List.mem_of_getElem? (l := tables_1_3) (i := 104) (by decide +kernel)))))) (by decide +kernel)
theorem tw_584 : Cond.instanceMethod yMo_init ∈ tb_ := tb_in (List.mem_append_right _ (List.mem_append_right _ (List.mem_append_right _ (List.mem_append_left _ (List.mem_of_getElem? (l := tables_1_3) (i := 105) (by decide +kernel)))))) (by decide +kernel)
theorem tw_585 : Cond.code yMo_init prog_8_method_1_code 1 none ∈ tb_ := tb_in (List.mem_append_right _ (List.mem_append_right _ (List.mem_append_right _ (List.mem_append_left _ (List.mem_of_getElem? (l := tables_1_3) (i := 106) (by decide +kernel)))))) (by decide +kernel)
theorem tw_586 : Cond.methodLink "ChannelledLinkModel" 1 yOb_init ∈ tb_ := tb_in (List.mem_append_right _ (List.mem_append_right _ (List.mem_append_right _ (List.mem_append_left _ (List.mem_of_getElem? (l := tables_1_3) (i := 107) (by decide +kernel)))))) (by decide +kernel)
theorem tw_587 : Cond.fieldLink "ChannelledLinkModel" 95 "ChannelledLinkModel" "code" "I" ∈ tb_ := tb_in (List.mem_append_right _ (List.mem_append_right _ (List.mem_append_right _ (List.mem_append_left _ (List.mem_of_getElem? (l := tables_1_3) (i := 108) (by decide +kernel)))))) (by decide +kernel)
theorem tw_588 : Cond.fieldLink "ChannelledLinkModel" 7 "ChannelledLinkModel" "under" "[I" ∈ tb_ := tb_in (List.mem_append_right _ (List.mem_append_right _ (List.mem_append_right _ (List.mem_append_left _ (List.mem_of_getElem? (l := tables_1_3) (i := 109) (by decide +kernel)))))) (by decide +kernel)
theorem tw_589 : Cond.fieldLink "ChannelledLinkModel" 13 "ChannelledLinkModel" "frameKind" "[I" ∈ tb_ := tb_in (List.mem_append_right _ (List.mem_append_right _ (List.mem_append_right _ (List.mem_append_left _ (List.mem_of_getElem? (l := tables_1_3) (i := 110) (by decide +kernel)))))) (by decide +kernel)
theorem tw_590 : Cond.fieldLink "ChannelledLinkModel" 16 "ChannelledLinkModel" "frameNumber" "[I" ∈ tb_ := tb_in (List.mem_append_right _ (List.mem_append_right _ (List.mem_append_right _ (List.mem_append_left _ (List.mem_of_getElem? (l := tables_1_3) (i := 111) (by decide +kernel)))))) (by decide +kernel)
theorem tw_591 : Cond.fieldLink "ChannelledLinkModel" 19 "ChannelledLinkModel" "frameAck" "[I" ∈ tb_ := tb_in (List.mem_append_right _ (List.mem_append_right _ (List.mem_append_right _ (List.mem_append_left _ (List.mem_of_getElem? (l := tables_1_3) (i := 112) (by decide +kernel)))))) (by decide +kernel)
theorem tw_592 : Cond.fieldLink "ChannelledLinkModel" 22 "ChannelledLinkModel" "carried" "[I" ∈ tb_ := tb_in (List.mem_append_right _ (List.mem_append_right _ (List.mem_append_right _ (List.mem_append_left _ (List.mem_of_getElem? (l := tables_1_3) (i := 113) (by decide +kernel)))))) (by decide +kernel)
theorem tw_593 : Cond.fieldLink "ChannelledLinkModel" 25 "ChannelledLinkModel" "carriedOn" "[I" ∈ tb_ := tb_in (List.mem_append_right _ (List.mem_append_right _ (List.mem_append_right _ (List.mem_append_left _ (List.mem_of_getElem? (l := tables_1_3) (i := 114) (by decide +kernel)))))) (by decide +kernel)
theorem tw_594 : Cond.fieldLink "ChannelledLinkModel" 28 "ChannelledLinkModel" "carriedNumber" "[I" ∈ tb_ := tb_in (List.mem_append_right _ (List.mem_append_right _ (List.mem_append_right _ (List.mem_append_left _ (List.mem_of_getElem? (l := tables_1_3) (i := 115) (by decide +kernel)))))) (by decide +kernel)
theorem tw_595 : Cond.fieldLink "ChannelledLinkModel" 31 "ChannelledLinkModel" "carriedAck" "[I" ∈ tb_ := tb_in (List.mem_append_right _ (List.mem_append_right _ (List.mem_append_right _ (List.mem_append_left _ (List.mem_of_getElem? (l := tables_1_3) (i := 116) (by decide +kernel)))))) (by decide +kernel)
theorem tw_596 : Cond.fieldLink "ChannelledLinkModel" 34 "ChannelledLinkModel" "carriedValue" "[I" ∈ tb_ := tb_in (List.mem_append_right _ (List.mem_append_right _ (List.mem_append_right _ (List.mem_append_left _ (List.mem_of_getElem? (l := tables_1_3) (i := 117) (by decide +kernel)))))) (by decide +kernel)
theorem tw_597 : Cond.fieldLink "ChannelledLinkModel" 37 "ChannelledLinkModel" "links" "[I" ∈ tb_ := tb_in (List.mem_append_right _ (List.mem_append_right _ (List.mem_append_right _ (List.mem_append_left _ (List.mem_of_getElem? (l := tables_1_3) (i := 118) (by decide +kernel)))))) (by decide +kernel)
theorem tw_598 : Cond.fieldLink "ChannelledLinkModel" 40 "ChannelledLinkModel" "sent" "[I" ∈ tb_ := tb_in (List.mem_append_right _ (List.mem_append_right _ (List.mem_append_right _ (List.mem_append_left _ (List.mem_of_getElem? (l := tables_1_3) (i := 119) (by decide +kernel)))))) (by decide +kernel)
theorem tw_599 : Cond.fieldLink "ChannelledLinkModel" 43 "ChannelledLinkModel" "acknowledged" "[I" ∈ tb_ := tb_in (List.mem_append_right _ (List.mem_append_right _ (List.mem_append_right _ (List.mem_append_left _ (List.mem_of_getElem? (l := tables_1_3) (i := 120) (by decide +kernel)))))) (by decide +kernel)
theorem tw_600 : Cond.fieldLink "ChannelledLinkModel" 46 "ChannelledLinkModel" "expected" "[I" ∈ tb_ := tb_in (List.mem_append_right _ (List.mem_append_right _ (List.mem_append_right _ (List.mem_append_left _ (List.mem_of_getElem? (l := tables_1_3) (i := 121) (by decide +kernel)))))) (by decide +kernel)
theorem tw_601 : Cond.fieldLink "ChannelledLinkModel" 49 "ChannelledLinkModel" "tries" "[I" ∈ tb_ := tb_in (List.mem_append_right _ (List.mem_append_right _ (List.mem_append_right _ (List.mem_append_left _ (List.mem_of_getElem? (l := tables_1_3) (i := 122) (by decide +kernel)))))) (by decide +kernel)
theorem tw_602 : Cond.fieldLink "ChannelledLinkModel" 52 "ChannelledLinkModel" "rejected" "[Z" ∈ tb_ := tb_in (List.mem_append_right _ (List.mem_append_right _ (List.mem_append_right _ (List.mem_append_left _ (List.mem_of_getElem? (l := tables_1_3) (i := 123) (by decide +kernel)))))) (by decide +kernel)
theorem tw_603 : Cond.fieldLink "ChannelledLinkModel" 56 "ChannelledLinkModel" "carrier" "[Z" ∈ tb_ := tb_in (List.mem_append_right _ (List.mem_append_right _ (List.mem_append_right _ (List.mem_append_left _ (List.mem_of_getElem? (l := tables_1_3) (i := 124) (by decide +kernel)))))) (by decide +kernel)
theorem tw_604 : Cond.fieldLink "ChannelledLinkModel" 59 "ChannelledLinkModel" "packets" "[I" ∈ tb_ := tb_in (List.mem_append_right _ (List.mem_append_right _ (List.mem_append_right _ (List.mem_append_left _ (List.mem_of_getElem? (l := tables_1_3) (i := 125) (by decide +kernel)))))) (by decide +kernel)
theorem tw_605 : Cond.fieldLink "ChannelledLinkModel" 62 "ChannelledLinkModel" "kinds" "[I" ∈ tb_ := tb_in (List.mem_append_right _ (List.mem_append_right _ (List.mem_append_right _ (List.mem_append_left _ (List.mem_of_getElem? (l := tables_1_3) (i := 126) (by decide +kernel)))))) (by decide +kernel)
theorem tw_606 : Cond.fieldLink "ChannelledLinkModel" 65 "ChannelledLinkModel" "on" "[I" ∈ tb_ := tb_in (List.mem_append_right _ (List.mem_append_right _ (List.mem_append_right _ (List.mem_append_left _ (List.mem_of_getElem? (l := tables_1_3) (i := 127) (by decide +kernel)))))) (by decide +kernel)
theorem tw_607 : Cond.fieldLink "ChannelledLinkModel" 68 "ChannelledLinkModel" "numbers" "[I" ∈ tb_ := tb_in (List.mem_append_right _ (List.mem_append_right _ (List.mem_append_right _ (List.mem_append_left _ (List.mem_of_getElem? (l := tables_1_3) (i := 128) (by decide +kernel)))))) (by decide +kernel)
theorem tw_608 : Cond.fieldLink "ChannelledLinkModel" 71 "ChannelledLinkModel" "acks" "[I" ∈ tb_ := tb_in (List.mem_append_right _ (List.mem_append_right _ (List.mem_append_right _ (List.mem_append_left _ (List.mem_of_getElem? (l := tables_1_3) (i := 129) (by decide +kernel)))))) (by decide +kernel)
theorem tw_609 : Cond.fieldLink "ChannelledLinkModel" 74 "ChannelledLinkModel" "values" "[I" ∈ tb_ := tb_in (List.mem_append_right _ (List.mem_append_right _ (List.mem_append_right _ (List.mem_append_left _ (List.mem_of_getElem? (l := tables_1_3) (i := 130) (by decide +kernel)))))) (by decide +kernel)
theorem tw_610 : Cond.fieldLink "ChannelledLinkModel" 77 "ChannelledLinkModel" "state" "[I" ∈ tb_ := tb_in (List.mem_append_right _ (List.mem_append_right _ (List.mem_append_right _ (List.mem_append_left _ (List.mem_of_getElem? (l := tables_1_3) (i := 131) (by decide +kernel)))))) (by decide +kernel)
theorem tw_611 : Cond.fieldLink "ChannelledLinkModel" 80 "ChannelledLinkModel" "next" "[I" ∈ tb_ := tb_in (List.mem_append_right _ (List.mem_append_right _ (List.mem_append_right _ (List.mem_append_left _ (List.mem_of_getElem? (l := tables_1_3) (i := 132) (by decide +kernel)))))) (by decide +kernel)
theorem tw_612 : Cond.fieldLink "ChannelledLinkModel" 83 "ChannelledLinkModel" "passed" "[I" ∈ tb_ := tb_in (List.mem_append_right _ (List.mem_append_right _ (List.mem_append_right _ (List.mem_append_left _ (List.mem_of_getElem? (l := tables_1_3) (i := 133) (by decide +kernel)))))) (by decide +kernel)
theorem tw_613 : Cond.fieldLink "ChannelledLinkModel" 86 "ChannelledLinkModel" "due" "[I" ∈ tb_ := tb_in (List.mem_append_right _ (List.mem_append_right _ (List.mem_append_right _ (List.mem_append_left _ (List.mem_of_getElem? (l := tables_1_3) (i := 134) (by decide +kernel)))))) (by decide +kernel)
theorem tw_614 : Cond.fieldLink "ChannelledLinkModel" 89 "ChannelledLinkModel" "taken" "[I" ∈ tb_ := tb_in (List.mem_append_right _ (List.mem_append_right _ (List.mem_append_right _ (List.mem_append_left _ (List.mem_of_getElem? (l := tables_1_3) (i := 135) (by decide +kernel)))))) (by decide +kernel)
theorem tw_615 : Cond.fieldLink "ChannelledLinkModel" 92 "ChannelledLinkModel" "data" "[I" ∈ tb_ := tb_in (List.mem_append_right _ (List.mem_append_right _ (List.mem_append_right _ (List.mem_append_left _ (List.mem_of_getElem? (l := tables_1_3) (i := 136) (by decide +kernel)))))) (by decide +kernel)
theorem tw_616 : Cond.lays "ChannelledLinkModel" "ChannelledLinkModel" "code" "I" ∈ tb_ := tb_in (List.mem_append_right _ (List.mem_append_right _ (List.mem_append_right _ (List.mem_append_left _ (List.mem_of_getElem? (l := tables_1_3) (i := 137) (by decide +kernel)))))) (by decide +kernel)
theorem tw_617 : Cond.soleField "ChannelledLinkModel" "code" ∈ tb_ := tb_in (List.mem_append_right _ (List.mem_append_right _ (List.mem_append_right _ (List.mem_append_left _ (List.mem_of_getElem? (l := tables_1_3) (i := 138) (by decide +kernel)))))) (by decide +kernel)
theorem tw_618 : Cond.lays "ChannelledLinkModel" "ChannelledLinkModel" "under" "[I" ∈ tb_ := tb_in (List.mem_append_right _ (List.mem_append_right _ (List.mem_append_right _ (List.mem_append_left _ (List.mem_of_getElem? (l := tables_1_3) (i := 139) (by decide +kernel)))))) (by decide +kernel)
theorem tw_619 : Cond.soleField "ChannelledLinkModel" "under" ∈ tb_ := tb_in (List.mem_append_right _ (List.mem_append_right _ (List.mem_append_right _ (List.mem_append_left _ (List.mem_of_getElem? (l := tables_1_3) (i := 140) (by decide +kernel)))))) (by decide +kernel)
theorem tw_620 : Cond.lays "ChannelledLinkModel" "ChannelledLinkModel" "frameKind" "[I" ∈ tb_ := tb_in (List.mem_append_right _ (List.mem_append_right _ (List.mem_append_right _ (List.mem_append_left _ (List.mem_of_getElem? (l := tables_1_3) (i := 141) (by decide +kernel)))))) (by decide +kernel)
theorem tw_621 : Cond.soleField "ChannelledLinkModel" "frameKind" ∈ tb_ := tb_in (List.mem_append_right _ (List.mem_append_right _ (List.mem_append_right _ (List.mem_append_left _ (List.mem_of_getElem? (l := tables_1_3) (i := 142) (by decide +kernel)))))) (by decide +kernel)
theorem tw_622 : Cond.lays "ChannelledLinkModel" "ChannelledLinkModel" "frameNumber" "[I" ∈ tb_ := tb_in (List.mem_append_right _ (List.mem_append_right _ (List.mem_append_right _ (List.mem_append_left _ (List.mem_of_getElem? (l := tables_1_3) (i := 143) (by decide +kernel)))))) (by decide +kernel)
theorem tw_623 : Cond.soleField "ChannelledLinkModel" "frameNumber" ∈ tb_ := tb_in (List.mem_append_right _ (List.mem_append_right _ (List.mem_append_right _ (List.mem_append_left _ (List.mem_of_getElem? (l := tables_1_3) (i := 144) (by decide +kernel)))))) (by decide +kernel)
theorem tw_624 : Cond.lays "ChannelledLinkModel" "ChannelledLinkModel" "frameAck" "[I" ∈ tb_ := tb_in (List.mem_append_right _ (List.mem_append_right _ (List.mem_append_right _ (List.mem_append_left _ (List.mem_of_getElem? (l := tables_1_3) (i := 145) (by decide +kernel)))))) (by decide +kernel)
theorem tw_625 : Cond.soleField "ChannelledLinkModel" "frameAck" ∈ tb_ := tb_in (List.mem_append_right _ (List.mem_append_right _ (List.mem_append_right _ (List.mem_append_left _ (List.mem_of_getElem? (l := tables_1_3) (i := 146) (by decide +kernel)))))) (by decide +kernel)
theorem tw_626 : Cond.lays "ChannelledLinkModel" "ChannelledLinkModel" "carried" "[I" ∈ tb_ := tb_in (List.mem_append_right _ (List.mem_append_right _ (List.mem_append_right _ (List.mem_append_left _ (List.mem_of_getElem? (l := tables_1_3) (i := 147) (by decide +kernel)))))) (by decide +kernel)
theorem tw_627 : Cond.soleField "ChannelledLinkModel" "carried" ∈ tb_ := tb_in (List.mem_append_right _ (List.mem_append_right _ (List.mem_append_right _ (List.mem_append_left _ (List.mem_of_getElem? (l := tables_1_3) (i := 148) (by decide +kernel)))))) (by decide +kernel)
theorem tw_628 : Cond.lays "ChannelledLinkModel" "ChannelledLinkModel" "carriedOn" "[I" ∈ tb_ := tb_in (List.mem_append_right _ (List.mem_append_right _ (List.mem_append_right _ (List.mem_append_left _ (List.mem_of_getElem? (l := tables_1_3) (i := 149) (by decide +kernel)))))) (by decide +kernel)
theorem tw_629 : Cond.soleField "ChannelledLinkModel" "carriedOn" ∈ tb_ := tb_in (List.mem_append_right _ (List.mem_append_right _ (List.mem_append_right _ (List.mem_append_left _ (List.mem_of_getElem? (l := tables_1_3) (i := 150) (by decide +kernel)))))) (by decide +kernel)
theorem tw_630 : Cond.lays "ChannelledLinkModel" "ChannelledLinkModel" "carriedNumber" "[I" ∈ tb_ := tb_in (List.mem_append_right _ (List.mem_append_right _ (List.mem_append_right _ (List.mem_append_left _ (List.mem_of_getElem? (l := tables_1_3) (i := 151) (by decide +kernel)))))) (by decide +kernel)
theorem tw_631 : Cond.soleField "ChannelledLinkModel" "carriedNumber" ∈ tb_ := tb_in (List.mem_append_right _ (List.mem_append_right _ (List.mem_append_right _ (List.mem_append_left _ (List.mem_of_getElem? (l := tables_1_3) (i := 152) (by decide +kernel)))))) (by decide +kernel)
theorem tw_632 : Cond.lays "ChannelledLinkModel" "ChannelledLinkModel" "carriedAck" "[I" ∈ tb_ := tb_in (List.mem_append_right _ (List.mem_append_right _ (List.mem_append_right _ (List.mem_append_left _ (List.mem_of_getElem? (l := tables_1_3) (i := 153) (by decide +kernel)))))) (by decide +kernel)
theorem tw_633 : Cond.soleField "ChannelledLinkModel" "carriedAck" ∈ tb_ := tb_in (List.mem_append_right _ (List.mem_append_right _ (List.mem_append_right _ (List.mem_append_left _ (List.mem_of_getElem? (l := tables_1_3) (i := 154) (by decide +kernel)))))) (by decide +kernel)
theorem tw_634 : Cond.lays "ChannelledLinkModel" "ChannelledLinkModel" "carriedValue" "[I" ∈ tb_ := tb_in (List.mem_append_right _ (List.mem_append_right _ (List.mem_append_right _ (List.mem_append_left _ (List.mem_of_getElem? (l := tables_1_3) (i := 155) (by decide +kernel)))))) (by decide +kernel)
theorem tw_635 : Cond.soleField "ChannelledLinkModel" "carriedValue" ∈ tb_ := tb_in (List.mem_append_right _ (List.mem_append_right _ (List.mem_append_right _ (List.mem_append_left _ (List.mem_of_getElem? (l := tables_1_3) (i := 156) (by decide +kernel)))))) (by decide +kernel)
theorem tw_636 : Cond.lays "ChannelledLinkModel" "ChannelledLinkModel" "links" "[I" ∈ tb_ := tb_in (List.mem_append_right _ (List.mem_append_right _ (List.mem_append_right _ (List.mem_append_left _ (List.mem_of_getElem? (l := tables_1_3) (i := 157) (by decide +kernel)))))) (by decide +kernel)
theorem tw_637 : Cond.soleField "ChannelledLinkModel" "links" ∈ tb_ := tb_in (List.mem_append_right _ (List.mem_append_right _ (List.mem_append_right _ (List.mem_append_left _ (List.mem_of_getElem? (l := tables_1_3) (i := 158) (by decide +kernel)))))) (by decide +kernel)
theorem tw_638 : Cond.lays "ChannelledLinkModel" "ChannelledLinkModel" "sent" "[I" ∈ tb_ := tb_in (List.mem_append_right _ (List.mem_append_right _ (List.mem_append_right _ (List.mem_append_left _ (List.mem_of_getElem? (l := tables_1_3) (i := 159) (by decide +kernel)))))) (by decide +kernel)
theorem tw_639 : Cond.soleField "ChannelledLinkModel" "sent" ∈ tb_ := tb_in (List.mem_append_right _ (List.mem_append_right _ (List.mem_append_right _ (List.mem_append_left _ (List.mem_of_getElem? (l := tables_1_3) (i := 160) (by decide +kernel)))))) (by decide +kernel)
theorem tw_640 : Cond.lays "ChannelledLinkModel" "ChannelledLinkModel" "acknowledged" "[I" ∈ tb_ := tb_in (List.mem_append_right _ (List.mem_append_right _ (List.mem_append_right _ (List.mem_append_left _ (List.mem_of_getElem? (l := tables_1_3) (i := 161) (by decide +kernel)))))) (by decide +kernel)
theorem tw_641 : Cond.soleField "ChannelledLinkModel" "acknowledged" ∈ tb_ := tb_in (List.mem_append_right _ (List.mem_append_right _ (List.mem_append_right _ (List.mem_append_left _ (List.mem_of_getElem? (l := tables_1_3) (i := 162) (by decide +kernel)))))) (by decide +kernel)
theorem tw_642 : Cond.lays "ChannelledLinkModel" "ChannelledLinkModel" "expected" "[I" ∈ tb_ := tb_in (List.mem_append_right _ (List.mem_append_right _ (List.mem_append_right _ (List.mem_append_left _ (List.mem_of_getElem? (l := tables_1_3) (i := 163) (by decide +kernel)))))) (by decide +kernel)
theorem tw_643 : Cond.soleField "ChannelledLinkModel" "expected" ∈ tb_ := tb_in (List.mem_append_right _ (List.mem_append_right _ (List.mem_append_right _ (List.mem_append_left _ (List.mem_of_getElem? (l := tables_1_3) (i := 164) (by decide +kernel)))))) (by decide +kernel)
theorem tw_644 : Cond.lays "ChannelledLinkModel" "ChannelledLinkModel" "tries" "[I" ∈ tb_ := tb_in (List.mem_append_right _ (List.mem_append_right _ (List.mem_append_right _ (List.mem_append_left _ (List.mem_of_getElem? (l := tables_1_3) (i := 165) (by decide +kernel)))))) (by decide +kernel)
theorem tw_645 : Cond.soleField "ChannelledLinkModel" "tries" ∈ tb_ := tb_in (List.mem_append_right _ (List.mem_append_right _ (List.mem_append_right _ (List.mem_append_left _ (List.mem_of_getElem? (l := tables_1_3) (i := 166) (by decide +kernel)))))) (by decide +kernel)
theorem tw_646 : Cond.lays "ChannelledLinkModel" "ChannelledLinkModel" "rejected" "[Z" ∈ tb_ := tb_in (List.mem_append_right _ (List.mem_append_right _ (List.mem_append_right _ (List.mem_append_left _ (List.mem_of_getElem? (l := tables_1_3) (i := 167) (by decide +kernel)))))) (by decide +kernel)
theorem tw_647 : Cond.soleField "ChannelledLinkModel" "rejected" ∈ tb_ := tb_in (List.mem_append_right _ (List.mem_append_right _ (List.mem_append_right _ (List.mem_append_left _ (List.mem_of_getElem? (l := tables_1_3) (i := 168) (by decide +kernel)))))) (by decide +kernel)
theorem tw_648 : Cond.lays "ChannelledLinkModel" "ChannelledLinkModel" "carrier" "[Z" ∈ tb_ := tb_in (List.mem_append_right _ (List.mem_append_right _ (List.mem_append_right _ (List.mem_append_left _ (List.mem_of_getElem? (l := tables_1_3) (i := 169) (by decide +kernel)))))) (by decide +kernel)
theorem tw_649 : Cond.soleField "ChannelledLinkModel" "carrier" ∈ tb_ := tb_in (List.mem_append_right _ (List.mem_append_right _ (List.mem_append_right _ (List.mem_append_left _ (List.mem_of_getElem? (l := tables_1_3) (i := 170) (by decide +kernel)))))) (by decide +kernel)
theorem tw_650 : Cond.lays "ChannelledLinkModel" "ChannelledLinkModel" "packets" "[I" ∈ tb_ := tb_in (List.mem_append_right _ (List.mem_append_right _ (List.mem_append_right _ (List.mem_append_left _ (List.mem_of_getElem? (l := tables_1_3) (i := 171) (by decide +kernel)))))) (by decide +kernel)
theorem tw_651 : Cond.soleField "ChannelledLinkModel" "packets" ∈ tb_ := tb_in (List.mem_append_right _ (List.mem_append_right _ (List.mem_append_right _ (List.mem_append_left _ (List.mem_of_getElem? (l := tables_1_3) (i := 172) (by decide +kernel)))))) (by decide +kernel)
theorem tw_652 : Cond.lays "ChannelledLinkModel" "ChannelledLinkModel" "kinds" "[I" ∈ tb_ := tb_in (List.mem_append_right _ (List.mem_append_right _ (List.mem_append_right _ (List.mem_append_left _ (List.mem_of_getElem? (l := tables_1_3) (i := 173) (by decide +kernel)))))) (by decide +kernel)
theorem tw_653 : Cond.soleField "ChannelledLinkModel" "kinds" ∈ tb_ := tb_in (List.mem_append_right _ (List.mem_append_right _ (List.mem_append_right _ (List.mem_append_left _ (List.mem_of_getElem? (l := tables_1_3) (i := 174) (by decide +kernel)))))) (by decide +kernel)
theorem tw_654 : Cond.lays "ChannelledLinkModel" "ChannelledLinkModel" "on" "[I" ∈ tb_ := tb_in (List.mem_append_right _ (List.mem_append_right _ (List.mem_append_right _ (List.mem_append_left _ (List.mem_of_getElem? (l := tables_1_3) (i := 175) (by decide +kernel)))))) (by decide +kernel)
theorem tw_655 : Cond.soleField "ChannelledLinkModel" "on" ∈ tb_ := tb_in (List.mem_append_right _ (List.mem_append_right _ (List.mem_append_right _ (List.mem_append_left _ (List.mem_of_getElem? (l := tables_1_3) (i := 176) (by decide +kernel)))))) (by decide +kernel)
theorem tw_656 : Cond.lays "ChannelledLinkModel" "ChannelledLinkModel" "numbers" "[I" ∈ tb_ := tb_in (List.mem_append_right _ (List.mem_append_right _ (List.mem_append_right _ (List.mem_append_left _ (List.mem_of_getElem? (l := tables_1_3) (i := 177) (by decide +kernel)))))) (by decide +kernel)
theorem tw_657 : Cond.soleField "ChannelledLinkModel" "numbers" ∈ tb_ := tb_in (List.mem_append_right _ (List.mem_append_right _ (List.mem_append_right _ (List.mem_append_left _ (List.mem_of_getElem? (l := tables_1_3) (i := 178) (by decide +kernel)))))) (by decide +kernel)
theorem tw_658 : Cond.lays "ChannelledLinkModel" "ChannelledLinkModel" "acks" "[I" ∈ tb_ := tb_in (List.mem_append_right _ (List.mem_append_right _ (List.mem_append_right _ (List.mem_append_left _ (List.mem_of_getElem? (l := tables_1_3) (i := 179) (by decide +kernel)))))) (by decide +kernel)
theorem tw_659 : Cond.soleField "ChannelledLinkModel" "acks" ∈ tb_ := tb_in (List.mem_append_right _ (List.mem_append_right _ (List.mem_append_right _ (List.mem_append_left _ (List.mem_of_getElem? (l := tables_1_3) (i := 180) (by decide +kernel)))))) (by decide +kernel)
theorem tw_660 : Cond.lays "ChannelledLinkModel" "ChannelledLinkModel" "values" "[I" ∈ tb_ := tb_in (List.mem_append_right _ (List.mem_append_right _ (List.mem_append_right _ (List.mem_append_left _ (List.mem_of_getElem? (l := tables_1_3) (i := 181) (by decide +kernel)))))) (by decide +kernel)
theorem tw_661 : Cond.soleField "ChannelledLinkModel" "values" ∈ tb_ := tb_in (List.mem_append_right _ (List.mem_append_right _ (List.mem_append_right _ (List.mem_append_left _ (List.mem_of_getElem? (l := tables_1_3) (i := 182) (by decide +kernel)))))) (by decide +kernel)
theorem tw_662 : Cond.lays "ChannelledLinkModel" "ChannelledLinkModel" "state" "[I" ∈ tb_ := tb_in (List.mem_append_right _ (List.mem_append_right _ (List.mem_append_right _ (List.mem_append_left _ (List.mem_of_getElem? (l := tables_1_3) (i := 183) (by decide +kernel)))))) (by decide +kernel)
theorem tw_663 : Cond.soleField "ChannelledLinkModel" "state" ∈ tb_ := tb_in (List.mem_append_right _ (List.mem_append_right _ (List.mem_append_right _ (List.mem_append_left _ (List.mem_of_getElem? (l := tables_1_3) (i := 184) (by decide +kernel)))))) (by decide +kernel)
theorem tw_664 : Cond.lays "ChannelledLinkModel" "ChannelledLinkModel" "next" "[I" ∈ tb_ := tb_in (List.mem_append_right _ (List.mem_append_right _ (List.mem_append_right _ (List.mem_append_left _ (List.mem_of_getElem? (l := tables_1_3) (i := 185) (by decide +kernel)))))) (by decide +kernel)
theorem tw_665 : Cond.soleField "ChannelledLinkModel" "next" ∈ tb_ := tb_in (List.mem_append_right _ (List.mem_append_right _ (List.mem_append_right _ (List.mem_append_left _ (List.mem_of_getElem? (l := tables_1_3) (i := 186) (by decide +kernel)))))) (by decide +kernel)
theorem tw_666 : Cond.lays "ChannelledLinkModel" "ChannelledLinkModel" "passed" "[I" ∈ tb_ := tb_in (List.mem_append_right _ (List.mem_append_right _ (List.mem_append_right _ (List.mem_append_left _ (List.mem_of_getElem? (l := tables_1_3) (i := 187) (by decide +kernel)))))) (by decide +kernel)
theorem tw_667 : Cond.soleField "ChannelledLinkModel" "passed" ∈ tb_ := tb_in (List.mem_append_right _ (List.mem_append_right _ (List.mem_append_right _ (List.mem_append_left _ (List.mem_of_getElem? (l := tables_1_3) (i := 188) (by decide +kernel)))))) (by decide +kernel)
theorem tw_668 : Cond.lays "ChannelledLinkModel" "ChannelledLinkModel" "due" "[I" ∈ tb_ := tb_in (List.mem_append_right _ (List.mem_append_right _ (List.mem_append_right _ (List.mem_append_left _ (List.mem_of_getElem? (l := tables_1_3) (i := 189) (by decide +kernel)))))) (by decide +kernel)
theorem tw_669 : Cond.soleField "ChannelledLinkModel" "due" ∈ tb_ := tb_in (List.mem_append_right _ (List.mem_append_right _ (List.mem_append_right _ (List.mem_append_left _ (List.mem_of_getElem? (l := tables_1_3) (i := 190) (by decide +kernel)))))) (by decide +kernel)
theorem tw_670 : Cond.lays "ChannelledLinkModel" "ChannelledLinkModel" "taken" "[I" ∈ tb_ := tb_in (List.mem_append_right _ (List.mem_append_right _ (List.mem_append_right _ (List.mem_append_left _ (List.mem_of_getElem? (l := tables_1_3) (i := 191) (by decide +kernel)))))) (by decide +kernel)
theorem tw_671 : Cond.soleField "ChannelledLinkModel" "taken" ∈ tb_ := tb_in (List.mem_append_right _ (List.mem_append_right _ (List.mem_append_right _ (List.mem_append_left _ (List.mem_of_getElem? (l := tables_1_3) (i := 192) (by decide +kernel)))))) (by decide +kernel)
theorem tw_672 : Cond.lays "ChannelledLinkModel" "ChannelledLinkModel" "data" "[I" ∈ tb_ := tb_in (List.mem_append_right _ (List.mem_append_right _ (List.mem_append_right _ (List.mem_append_left _ (List.mem_of_getElem? (l := tables_1_3) (i := 193) (by decide +kernel)))))) (by decide +kernel)
theorem tw_673 : Cond.soleField "ChannelledLinkModel" "data" ∈ tb_ := tb_in (List.mem_append_right _ (List.mem_append_right _ (List.mem_append_right _ (List.mem_append_left _ (List.mem_of_getElem? (l := tables_1_3) (i := 194) (by decide +kernel)))))) (by decide +kernel)
theorem tw_674 : Cond.superclass "ChannelledLinkModel" "java/lang/Object" ∈ tb_ := tb_in (List.mem_append_right _ (List.mem_append_right _ (List.mem_append_right _ (List.mem_append_left _ (List.mem_of_getElem? (l := tables_1_3) (i := 195) (by decide +kernel)))))) (by decide +kernel)
theorem tw_675 : Cond.arrayClass FieldType.boolean ∈ tb_ := tb_in (List.mem_append_right _ (List.mem_append_right _ (List.mem_append_right _ (List.mem_append_left _ (List.mem_of_getElem? (l := tables_1_3) (i := 196) (by decide +kernel)))))) (by decide +kernel)
theorem tw_676 : Cond.methodLink "ChannelledLinkLaw" 79 yMo_thrown ∈ tb_ := tb_in (List.mem_append_right _ (List.mem_append_right _ (List.mem_append_right _ (List.mem_append_left _ (List.mem_of_getElem? (l := tables_1_3) (i := 197) (by decide +kernel)))))) (by decide +kernel)
theorem tw_677 : Cond.instanceMethod yMo_thrown ∈ tb_ := tb_in (List.mem_append_right _ (List.mem_append_right _ (List.mem_append_right _ (List.mem_append_left _ (List.mem_of_getElem? (l := tables_1_3) (i := 198) (by decide +kernel)))))) (by decide +kernel)
theorem tw_678 : Cond.selects "ChannelledLinkModel" yMo_thrown yMo_thrown ∈ tb_ := tb_in (List.mem_append_right _ (List.mem_append_right _ (List.mem_append_right _ (List.mem_append_left _ (List.mem_of_getElem? (l := tables_1_3) (i := 199) (by decide +kernel)))))) (by decide +kernel)
theorem tw_679 : Cond.code yMo_thrown prog_8_method_2_code 1 (some FieldType.int) ∈ tb_ := tb_in (List.mem_append_right _ (List.mem_append_right _ (List.mem_append_right _ (List.mem_append_left _ (List.mem_of_getElem? (l := tables_1_3) (i := 200) (by decide +kernel)))))) (by decide +kernel)
theorem tw_680 : Cond.methodLink "ChannelledLinkLaw" 89 yMo_deliver ∈ tb_ := tb_in (List.mem_append_right _ (List.mem_append_right _ (List.mem_append_right _ (List.mem_append_left _ (List.mem_of_getElem? (l := tables_1_3) (i := 201) (by decide +kernel)))))) (by decide +kernel)
theorem tw_681 : Cond.instanceMethod yMo_deliver ∈ tb_ := tb_in (List.mem_append_right _ (List.mem_append_right _ (List.mem_append_right _ (List.mem_append_left _ (List.mem_of_getElem? (l := tables_1_3) (i := 202) (by decide +kernel)))))) (by decide +kernel)
theorem tw_682 : Cond.selects "ChannelledLinkModel" yMo_deliver yMo_deliver ∈ tb_ := tb_in (List.mem_append_right _ (List.mem_append_right _ (List.mem_append_right _ (List.mem_append_left _ (List.mem_of_getElem? (l := tables_1_3) (i := 203) (by decide +kernel)))))) (by decide +kernel)
theorem tw_683 : Cond.code yMo_deliver prog_8_method_23_code 11 (some FieldType.int) ∈ tb_ := tb_in (List.mem_append_right _ (List.mem_append_right _ (List.mem_append_right _ (List.mem_append_left _ (List.mem_of_getElem? (l := tables_1_3) (i := 204) (by decide +kernel)))))) (by decide +kernel)
theorem tw_684 : Cond.methodLink "ChannelledLinkModel" 144 yMo_station ∈ tb_ := tb_in (List.mem_append_right _ (List.mem_append_right _ (List.mem_append_right _ (List.mem_append_left _ (List.mem_of_getElem? (l := tables_1_3) (i := 205) (by decide +kernel)))))) (by decide +kernel)
theorem tw_685 : Cond.static yMo_station ∈ tb_ := tb_in (List.mem_append_right _ (List.mem_append_right _ (List.mem_append_right _ (List.mem_append_left _ (List.mem_of_getElem? (l := tables_1_3) (i := 206) (by decide +kernel)))))) (by decide +kernel)
theorem tw_686 : Cond.code yMo_station prog_8_method_21_code 1 (some FieldType.boolean) ∈ tb_ := tb_in (List.mem_append_right _ (List.mem_append_right _ (List.mem_append_right _ (List.mem_append_left _ (List.mem_of_getElem? (l := tables_1_3) (i := 207) (by decide +kernel)))))) (by decide +kernel)
theorem tw_687 : Cond.methodLink "ChannelledLinkModel" 148 yMo_takeFrame ∈ tb_ := tb_in (List.mem_append_right _ (List.mem_append_right _ (List.mem_append_right _ (List.mem_append_left _ (List.mem_of_getElem? (l := tables_1_3) (i := 208) (by decide +kernel)))))) (by decide +kernel)
theorem tw_688 : Cond.privateMethod yMo_takeFrame ∈ lw_tbl := List.mem_append_right _ (List.mem_append_right _ (List.mem_append_right _ (List.mem_append_left _ (List.mem_of_getElem? (l := tables_1_3) (i := 209) (by decide +kernel)))))
theorem tw_689 : Cond.instanceMethod yMo_takeFrame ∈ tb_ := tb_in (List.mem_append_right _ (List.mem_append_right _ (List.mem_append_right _ (List.mem_append_left _ (List.mem_of_getElem? (l := tables_1_3) (i := 210) (by decide +kernel)))))) (by decide +kernel)
theorem tw_690 : Cond.code yMo_takeFrame prog_8_method_20_code 4 (some FieldType.int) ∈ tb_ := tb_in (List.mem_append_right _ (List.mem_append_right _ (List.mem_append_right _ (List.mem_append_left _ (List.mem_of_getElem? (l := tables_1_3) (i := 211) (by decide +kernel)))))) (by decide +kernel)
theorem tw_691 : Cond.methodLink "ChannelledLinkModel" 151 yMo_hearLink ∈ tb_ := tb_in (List.mem_append_right _ (List.mem_append_right _ (List.mem_append_right _ (List.mem_append_left _ (List.mem_of_getElem? (l := tables_1_3) (i := 212) (by decide +kernel)))))) (by decide +kernel)
theorem tw_692 : Cond.privateMethod yMo_hearLink ∈ lw_tbl := List.mem_append_right _ (List.mem_append_right _ (List.mem_append_right _ (List.mem_append_left _ (List.mem_of_getElem? (l := tables_1_3) (i := 213) (by decide +kernel)))))
theorem tw_693 : Cond.instanceMethod yMo_hearLink ∈ tb_ := tb_in (List.mem_append_right _ (List.mem_append_right _ (List.mem_append_right _ (List.mem_append_left _ (List.mem_of_getElem? (l := tables_1_3) (i := 214) (by decide +kernel)))))) (by decide +kernel)
theorem tw_694 : Cond.code yMo_hearLink prog_8_method_19_code 3 none ∈ tb_ := tb_in (List.mem_append_right _ (List.mem_append_right _ (List.mem_append_right _ (List.mem_append_left _ (List.mem_of_getElem? (l := tables_1_3) (i := 215) (by decide +kernel)))))) (by decide +kernel)
theorem tw_695 : Cond.methodLink "ChannelledLinkModel" 125 yMo_clean ∈ tb_ := tb_in (List.mem_append_right _ (List.mem_append_right _ (List.mem_append_right _ (List.mem_append_left _ (List.mem_of_getElem? (l := tables_1_3) (i := 216) (by decide +kernel)))))) (by decide +kernel)
theorem tw_696 : Cond.privateMethod yMo_clean ∈ lw_tbl := List.mem_append_right _ (List.mem_append_right _ (List.mem_append_right _ (List.mem_append_left _ (List.mem_of_getElem? (l := tables_1_3) (i := 217) (by decide +kernel)))))
theorem tw_697 : Cond.instanceMethod yMo_clean ∈ tb_ := tb_in (List.mem_append_right _ (List.mem_append_right _ (List.mem_append_right _ (List.mem_append_left _ (List.mem_of_getElem? (l := tables_1_3) (i := 218) (by decide +kernel)))))) (by decide +kernel)
theorem tw_698 : Cond.code yMo_clean prog_8_method_12_code 3 none ∈ tb_ := tb_in (List.mem_append_right _ (List.mem_append_right _ (List.mem_append_right _ (List.mem_append_left _ (List.mem_of_getElem? (l := tables_1_3) (i := 219) (by decide +kernel)))))) (by decide +kernel)
theorem tw_699 : Cond.methodLink "ChannelledLinkModel" 122 yMo_renew ∈ tb_ := tb_in (List.mem_append_right _ (List.mem_append_right _ (List.mem_append_right _ (List.mem_append_left _ (List.mem_of_getElem? (l := tables_1_3) (i := 220) (by decide +kernel)))))) (by decide +kernel)
theorem tw_700 : Cond.privateMethod yMo_renew ∈ lw_tbl := List.mem_append_right _ (List.mem_append_right _ (List.mem_append_right _ (List.mem_append_left _ (List.mem_of_getElem? (l := tables_1_3) (i := 221) (by decide +kernel)))))
theorem tw_701 : Cond.instanceMethod yMo_renew ∈ tb_ := tb_in (List.mem_append_right _ (List.mem_append_right _ (List.mem_append_right _ (List.mem_append_left _ (List.mem_of_getElem? (l := tables_1_3) (i := 222) (by decide +kernel)))))) (by decide +kernel)
theorem tw_702 : Cond.code yMo_renew prog_8_method_11_code 2 none ∈ tb_ := tb_in (List.mem_append_right _ (List.mem_append_right _ (List.mem_append_right _ (List.mem_append_left _ (List.mem_of_getElem? (l := tables_1_3) (i := 223) (by decide +kernel)))))) (by decide +kernel)
theorem tw_703 : Cond.methodLink "ChannelledLinkModel" 103 yMo_transmit ∈ tb_ := tb_in (List.mem_append_right _ (List.mem_append_right _ (List.mem_append_right _ (List.mem_append_left _ (List.mem_of_getElem? (l := tables_1_3) (i := 224) (by decide +kernel)))))) (by decide +kernel)
theorem tw_704 : Cond.privateMethod yMo_transmit ∈ lw_tbl := List.mem_append_right _ (List.mem_append_right _ (List.mem_append_right _ (List.mem_append_left _ (List.mem_of_getElem? (l := tables_1_3) (i := 225) (by decide +kernel)))))
theorem tw_705 : Cond.instanceMethod yMo_transmit ∈ tb_ := tb_in (List.mem_append_right _ (List.mem_append_right _ (List.mem_append_right _ (List.mem_append_left _ (List.mem_of_getElem? (l := tables_1_3) (i := 226) (by decide +kernel)))))) (by decide +kernel)
theorem tw_706 : Cond.code yMo_transmit prog_8_method_5_code 8 none ∈ tb_ := tb_in (List.mem_append_right _ (List.mem_append_right _ (List.mem_append_right _ (List.mem_append_left _ (List.mem_of_getElem? (l := tables_1_3) (i := 227) (by decide +kernel)))))) (by decide +kernel)
theorem tw_707 : Cond.methodLink "ChannelledLinkModel" 141 yMo_setUp ∈ tb_ := tb_in (List.mem_append_right _ (List.mem_append_right _ (List.mem_append_right _ (List.mem_append_left _ (List.mem_of_getElem? (l := tables_1_3) (i := 228) (by decide +kernel)))))) (by decide +kernel)
theorem tw_708 : Cond.privateMethod yMo_setUp ∈ lw_tbl := List.mem_append_right _ (List.mem_append_right _ (List.mem_append_right _ (List.mem_append_left _ (List.mem_of_getElem? (l := tables_1_3) (i := 229) (by decide +kernel)))))
theorem tw_709 : Cond.instanceMethod yMo_setUp ∈ tb_ := tb_in (List.mem_append_right _ (List.mem_append_right _ (List.mem_append_right _ (List.mem_append_left _ (List.mem_of_getElem? (l := tables_1_3) (i := 230) (by decide +kernel)))))) (by decide +kernel)
theorem tw_710 : Cond.code yMo_setUp prog_8_method_13_code 2 none ∈ tb_ := tb_in (List.mem_append_right _ (List.mem_append_right _ (List.mem_append_right _ (List.mem_append_left _ (List.mem_of_getElem? (l := tables_1_3) (i := 231) (by decide +kernel)))))) (by decide +kernel)
theorem tw_711 : Cond.methodLink "ChannelledLinkModel" 154 yMo_confirm ∈ tb_ := tb_in (List.mem_append_right _ (List.mem_append_right _ (List.mem_append_right _ (List.mem_append_left _ (List.mem_of_getElem? (l := tables_1_3) (i := 232) (by decide +kernel)))))) (by decide +kernel)
theorem tw_712 : Cond.privateMethod yMo_confirm ∈ lw_tbl := List.mem_append_right _ (List.mem_append_right _ (List.mem_append_right _ (List.mem_append_left _ (List.mem_of_getElem? (l := tables_1_3) (i := 233) (by decide +kernel)))))
theorem tw_713 : Cond.instanceMethod yMo_confirm ∈ tb_ := tb_in (List.mem_append_right _ (List.mem_append_right _ (List.mem_append_right _ (List.mem_append_left _ (List.mem_of_getElem? (l := tables_1_3) (i := 234) (by decide +kernel)))))) (by decide +kernel)
theorem tw_714 : Cond.code yMo_confirm prog_8_method_14_code 5 none ∈ tb_ := tb_in (List.mem_append_right _ (List.mem_append_right _ (List.mem_append_right _ (List.mem_append_left _ (List.mem_of_getElem? (l := tables_1_3) (i := 235) (by decide +kernel)))))) (by decide +kernel)
theorem tw_715 : Cond.methodLink "ChannelledLinkModel" 99 yMo_less ∈ tb_ := tb_in (List.mem_append_right _ (List.mem_append_right _ (List.mem_append_right _ (List.mem_append_left _ (List.mem_of_getElem? (l := tables_1_3) (i := 236) (by decide +kernel)))))) (by decide +kernel)
theorem tw_716 : Cond.static yMo_less ∈ tb_ := tb_in (List.mem_append_right _ (List.mem_append_right _ (List.mem_append_right _ (List.mem_append_left _ (List.mem_of_getElem? (l := tables_1_3) (i := 237) (by decide +kernel)))))) (by decide +kernel)
theorem tw_717 : Cond.code yMo_less prog_8_method_3_code 2 (some FieldType.int) ∈ tb_ := tb_in (List.mem_append_right _ (List.mem_append_right _ (List.mem_append_right _ (List.mem_append_left _ (List.mem_of_getElem? (l := tables_1_3) (i := 238) (by decide +kernel)))))) (by decide +kernel)
theorem tw_718 : Cond.methodLink "ChannelledLinkModel" 107 yMo_unconfirmed ∈ tb_ := tb_in (List.mem_append_right _ (List.mem_append_right _ (List.mem_append_right _ (List.mem_append_left _ (List.mem_of_getElem? (l := tables_1_3) (i := 239) (by decide +kernel)))))) (by decide +kernel)
theorem tw_719 : Cond.privateMethod yMo_unconfirmed ∈ lw_tbl := List.mem_append_right _ (List.mem_append_right _ (List.mem_append_right _ (List.mem_append_right _ (List.mem_of_getElem? (l := tables_1_4) (i := 0) (by decide +kernel)))))
theorem tw_720 : Cond.instanceMethod yMo_unconfirmed ∈ tb_ := tb_in (List.mem_append_right _ (List.mem_append_right _ (List.mem_append_right _ (List.mem_append_right _ (List.mem_of_getElem? (l := tables_1_4) (i := 1) (by decide +kernel)))))) (by decide +kernel)
theorem tw_721 : Cond.code yMo_unconfirmed prog_8_method_6_code 2 (some FieldType.int) ∈ tb_ := tb_in (List.mem_append_right _ (List.mem_append_right _ (List.mem_append_right _ (List.mem_append_right _ (List.mem_of_getElem? (l := tables_1_4) (i := 2) (by decide +kernel)))))) (by decide +kernel)
theorem tw_722 : Cond.methodLink "ChannelledLinkModel" 157 yMo_again ∈ tb_ := tb_in (List.mem_append_right _ (List.mem_append_right _ (List.mem_append_right _ (List.mem_append_right _ (List.mem_of_getElem? (l := tables_1_4) (i := 3) (by decide +kernel)))))) (by decide +kernel)
theorem tw_723 : Cond.privateMethod yMo_again ∈ lw_tbl := List.mem_append_right _ (List.mem_append_right _ (List.mem_append_right _ (List.mem_append_right _ (List.mem_of_getElem? (l := tables_1_4) (i := 4) (by decide +kernel)))))
theorem tw_724 : Cond.instanceMethod yMo_again ∈ tb_ := tb_in (List.mem_append_right _ (List.mem_append_right _ (List.mem_append_right _ (List.mem_append_right _ (List.mem_of_getElem? (l := tables_1_4) (i := 5) (by decide +kernel)))))) (by decide +kernel)
theorem tw_725 : Cond.code yMo_again prog_8_method_9_code 4 none ∈ tb_ := tb_in (List.mem_append_right _ (List.mem_append_right _ (List.mem_append_right _ (List.mem_append_right _ (List.mem_of_getElem? (l := tables_1_4) (i := 6) (by decide +kernel)))))) (by decide +kernel)
theorem tw_726 : Cond.methodLink "ChannelledLinkModel" 111 yMo_carry ∈ tb_ := tb_in (List.mem_append_right _ (List.mem_append_right _ (List.mem_append_right _ (List.mem_append_right _ (List.mem_of_getElem? (l := tables_1_4) (i := 7) (by decide +kernel)))))) (by decide +kernel)
theorem tw_727 : Cond.privateMethod yMo_carry ∈ lw_tbl := List.mem_append_right _ (List.mem_append_right _ (List.mem_append_right _ (List.mem_append_right _ (List.mem_of_getElem? (l := tables_1_4) (i := 8) (by decide +kernel)))))
theorem tw_728 : Cond.instanceMethod yMo_carry ∈ tb_ := tb_in (List.mem_append_right _ (List.mem_append_right _ (List.mem_append_right _ (List.mem_append_right _ (List.mem_of_getElem? (l := tables_1_4) (i := 9) (by decide +kernel)))))) (by decide +kernel)
theorem tw_729 : Cond.code yMo_carry prog_8_method_7_code 3 none ∈ tb_ := tb_in (List.mem_append_right _ (List.mem_append_right _ (List.mem_append_right _ (List.mem_append_right _ (List.mem_of_getElem? (l := tables_1_4) (i := 10) (by decide +kernel)))))) (by decide +kernel)
theorem tw_730 : Cond.methodLink "ChannelledLinkModel" 160 yMo_hearCarrier ∈ tb_ := tb_in (List.mem_append_right _ (List.mem_append_right _ (List.mem_append_right _ (List.mem_append_right _ (List.mem_of_getElem? (l := tables_1_4) (i := 11) (by decide +kernel)))))) (by decide +kernel)
theorem tw_731 : Cond.privateMethod yMo_hearCarrier ∈ lw_tbl := List.mem_append_right _ (List.mem_append_right _ (List.mem_append_right _ (List.mem_append_right _ (List.mem_of_getElem? (l := tables_1_4) (i := 12) (by decide +kernel)))))
theorem tw_732 : Cond.instanceMethod yMo_hearCarrier ∈ tb_ := tb_in (List.mem_append_right _ (List.mem_append_right _ (List.mem_append_right _ (List.mem_append_right _ (List.mem_of_getElem? (l := tables_1_4) (i := 13) (by decide +kernel)))))) (by decide +kernel)
theorem tw_733 : Cond.code yMo_hearCarrier prog_8_method_18_code 8 none ∈ tb_ := tb_in (List.mem_append_right _ (List.mem_append_right _ (List.mem_append_right _ (List.mem_append_right _ (List.mem_of_getElem? (l := tables_1_4) (i := 14) (by decide +kernel)))))) (by decide +kernel)
theorem tw_734 : Cond.methodLink "ChannelledLinkModel" 115 yMo_grown ∈ tb_ := tb_in (List.mem_append_right _ (List.mem_append_right _ (List.mem_append_right _ (List.mem_append_right _ (List.mem_of_getElem? (l := tables_1_4) (i := 15) (by decide +kernel)))))) (by decide +kernel)
theorem tw_735 : Cond.static yMo_grown ∈ tb_ := tb_in (List.mem_append_right _ (List.mem_append_right _ (List.mem_append_right _ (List.mem_append_right _ (List.mem_of_getElem? (l := tables_1_4) (i := 16) (by decide +kernel)))))) (by decide +kernel)
theorem tw_736 : Cond.code yMo_grown prog_8_method_4_code 1 (some FieldType.int) ∈ tb_ := tb_in (List.mem_append_right _ (List.mem_append_right _ (List.mem_append_right _ (List.mem_append_right _ (List.mem_of_getElem? (l := tables_1_4) (i := 17) (by decide +kernel)))))) (by decide +kernel)
theorem tw_737 : Cond.methodLink "ChannelledLinkModel" 138 yMo_hear ∈ tb_ := tb_in (List.mem_append_right _ (List.mem_append_right _ (List.mem_append_right _ (List.mem_append_right _ (List.mem_of_getElem? (l := tables_1_4) (i := 18) (by decide +kernel)))))) (by decide +kernel)
theorem tw_738 : Cond.privateMethod yMo_hear ∈ lw_tbl := List.mem_append_right _ (List.mem_append_right _ (List.mem_append_right _ (List.mem_append_right _ (List.mem_of_getElem? (l := tables_1_4) (i := 19) (by decide +kernel)))))
theorem tw_739 : Cond.instanceMethod yMo_hear ∈ tb_ := tb_in (List.mem_append_right _ (List.mem_append_right _ (List.mem_append_right _ (List.mem_append_right _ (List.mem_of_getElem? (l := tables_1_4) (i := 20) (by decide +kernel)))))) (by decide +kernel)
theorem tw_740 : Cond.code yMo_hear prog_8_method_17_code 9 none ∈ tb_ := tb_in (List.mem_append_right _ (List.mem_append_right _ (List.mem_append_right _ (List.mem_append_right _ (List.mem_of_getElem? (l := tables_1_4) (i := 21) (by decide +kernel)))))) (by decide +kernel)
theorem tw_741 : Cond.methodLink "ChannelledLinkModel" 132 yMo_idle ∈ tb_ := tb_in (List.mem_append_right _ (List.mem_append_right _ (List.mem_append_right _ (List.mem_append_right _ (List.mem_of_getElem? (l := tables_1_4) (i := 22) (by decide +kernel)))))) (by decide +kernel)
theorem tw_742 : Cond.privateMethod yMo_idle ∈ lw_tbl := List.mem_append_right _ (List.mem_append_right _ (List.mem_append_right _ (List.mem_append_right _ (List.mem_of_getElem? (l := tables_1_4) (i := 23) (by decide +kernel)))))
theorem tw_743 : Cond.instanceMethod yMo_idle ∈ tb_ := tb_in (List.mem_append_right _ (List.mem_append_right _ (List.mem_append_right _ (List.mem_append_right _ (List.mem_of_getElem? (l := tables_1_4) (i := 24) (by decide +kernel)))))) (by decide +kernel)
theorem tw_744 : Cond.code yMo_idle prog_8_method_15_code 2 none ∈ tb_ := tb_in (List.mem_append_right _ (List.mem_append_right _ (List.mem_append_right _ (List.mem_append_right _ (List.mem_of_getElem? (l := tables_1_4) (i := 25) (by decide +kernel)))))) (by decide +kernel)
theorem tw_745 : Cond.methodLink "ChannelledLinkModel" 128 yMo_post ∈ tb_ := tb_in (List.mem_append_right _ (List.mem_append_right _ (List.mem_append_right _ (List.mem_append_right _ (List.mem_of_getElem? (l := tables_1_4) (i := 26) (by decide +kernel)))))) (by decide +kernel)
theorem tw_746 : Cond.privateMethod yMo_post ∈ lw_tbl := List.mem_append_right _ (List.mem_append_right _ (List.mem_append_right _ (List.mem_append_right _ (List.mem_of_getElem? (l := tables_1_4) (i := 27) (by decide +kernel)))))
theorem tw_747 : Cond.instanceMethod yMo_post ∈ tb_ := tb_in (List.mem_append_right _ (List.mem_append_right _ (List.mem_append_right _ (List.mem_append_right _ (List.mem_of_getElem? (l := tables_1_4) (i := 28) (by decide +kernel)))))) (by decide +kernel)
theorem tw_748 : Cond.code yMo_post prog_8_method_10_code 8 none ∈ tb_ := tb_in (List.mem_append_right _ (List.mem_append_right _ (List.mem_append_right _ (List.mem_append_right _ (List.mem_of_getElem? (l := tables_1_4) (i := 29) (by decide +kernel)))))) (by decide +kernel)
theorem tw_749 : Cond.methodLink "ChannelledLinkModel" 118 yMo_pump ∈ tb_ := tb_in (List.mem_append_right _ (List.mem_append_right _ (List.mem_append_right _ (List.mem_append_right _ (List.mem_of_getElem? (l := tables_1_4) (i := 30) (by decide +kernel)))))) (by decide +kernel)
theorem tw_750 : Cond.privateMethod yMo_pump ∈ lw_tbl := List.mem_append_right _ (List.mem_append_right _ (List.mem_append_right _ (List.mem_append_right _ (List.mem_of_getElem? (l := tables_1_4) (i := 31) (by decide +kernel)))))
theorem tw_751 : Cond.instanceMethod yMo_pump ∈ tb_ := tb_in (List.mem_append_right _ (List.mem_append_right _ (List.mem_append_right _ (List.mem_append_right _ (List.mem_of_getElem? (l := tables_1_4) (i := 32) (by decide +kernel)))))) (by decide +kernel)
theorem tw_752 : Cond.code yMo_pump prog_8_method_8_code 2 none ∈ tb_ := tb_in (List.mem_append_right _ (List.mem_append_right _ (List.mem_append_right _ (List.mem_append_right _ (List.mem_of_getElem? (l := tables_1_4) (i := 33) (by decide +kernel)))))) (by decide +kernel)
theorem tw_753 : Cond.methodLink "ChannelledLinkModel" 135 yMo_move ∈ tb_ := tb_in (List.mem_append_right _ (List.mem_append_right _ (List.mem_append_right _ (List.mem_append_right _ (List.mem_of_getElem? (l := tables_1_4) (i := 34) (by decide +kernel)))))) (by decide +kernel)
theorem tw_754 : Cond.privateMethod yMo_move ∈ lw_tbl := List.mem_append_right _ (List.mem_append_right _ (List.mem_append_right _ (List.mem_append_right _ (List.mem_of_getElem? (l := tables_1_4) (i := 35) (by decide +kernel)))))
theorem tw_755 : Cond.instanceMethod yMo_move ∈ tb_ := tb_in (List.mem_append_right _ (List.mem_append_right _ (List.mem_append_right _ (List.mem_append_right _ (List.mem_of_getElem? (l := tables_1_4) (i := 36) (by decide +kernel)))))) (by decide +kernel)
theorem tw_756 : Cond.code yMo_move prog_8_method_16_code 10 none ∈ tb_ := tb_in (List.mem_append_right _ (List.mem_append_right _ (List.mem_append_right _ (List.mem_append_right _ (List.mem_of_getElem? (l := tables_1_4) (i := 37) (by decide +kernel)))))) (by decide +kernel)
theorem tw_757 : Cond.methodLink "ChannelledLinkLaw" 92 yMo_lose ∈ tb_ := tb_in (List.mem_append_right _ (List.mem_append_right _ (List.mem_append_right _ (List.mem_append_right _ (List.mem_of_getElem? (l := tables_1_4) (i := 38) (by decide +kernel)))))) (by decide +kernel)
theorem tw_758 : Cond.instanceMethod yMo_lose ∈ tb_ := tb_in (List.mem_append_right _ (List.mem_append_right _ (List.mem_append_right _ (List.mem_append_right _ (List.mem_of_getElem? (l := tables_1_4) (i := 39) (by decide +kernel)))))) (by decide +kernel)
theorem tw_759 : Cond.selects "ChannelledLinkModel" yMo_lose yMo_lose ∈ tb_ := tb_in (List.mem_append_right _ (List.mem_append_right _ (List.mem_append_right _ (List.mem_append_right _ (List.mem_of_getElem? (l := tables_1_4) (i := 40) (by decide +kernel)))))) (by decide +kernel)
theorem tw_760 : Cond.code yMo_lose prog_8_method_24_code 2 (some FieldType.int) ∈ tb_ := tb_in (List.mem_append_right _ (List.mem_append_right _ (List.mem_append_right _ (List.mem_append_right _ (List.mem_of_getElem? (l := tables_1_4) (i := 41) (by decide +kernel)))))) (by decide +kernel)
theorem tw_761 : Cond.methodLink "ChannelledLinkLaw" 96 yMo_hand ∈ tb_ := tb_in (List.mem_append_right _ (List.mem_append_right _ (List.mem_append_right _ (List.mem_append_right _ (List.mem_of_getElem? (l := tables_1_4) (i := 42) (by decide +kernel)))))) (by decide +kernel)
theorem tw_762 : Cond.instanceMethod yMo_hand ∈ tb_ := tb_in (List.mem_append_right _ (List.mem_append_right _ (List.mem_append_right _ (List.mem_append_right _ (List.mem_of_getElem? (l := tables_1_4) (i := 43) (by decide +kernel)))))) (by decide +kernel)
theorem tw_763 : Cond.selects "ChannelledLinkModel" yMo_hand yMo_hand ∈ tb_ := tb_in (List.mem_append_right _ (List.mem_append_right _ (List.mem_append_right _ (List.mem_append_right _ (List.mem_of_getElem? (l := tables_1_4) (i := 44) (by decide +kernel)))))) (by decide +kernel)
theorem tw_764 : Cond.code yMo_hand prog_8_method_25_code 6 (some FieldType.boolean) ∈ tb_ := tb_in (List.mem_append_right _ (List.mem_append_right _ (List.mem_append_right _ (List.mem_append_right _ (List.mem_of_getElem? (l := tables_1_4) (i := 45) (by decide +kernel)))))) (by decide +kernel)
theorem tw_765 : Cond.methodLink "ChannelledLinkModel" 164 yMo_channelOf ∈ tb_ := tb_in (List.mem_append_right _ (List.mem_append_right _ (List.mem_append_right _ (List.mem_append_right _ (List.mem_of_getElem? (l := tables_1_4) (i := 46) (by decide +kernel)))))) (by decide +kernel)
theorem tw_766 : Cond.static yMo_channelOf ∈ tb_ := tb_in (List.mem_append_right _ (List.mem_append_right _ (List.mem_append_right _ (List.mem_append_right _ (List.mem_of_getElem? (l := tables_1_4) (i := 47) (by decide +kernel)))))) (by decide +kernel)
theorem tw_767 : Cond.code yMo_channelOf prog_8_method_22_code 2 (some FieldType.boolean) ∈ tb_ := tb_in (List.mem_append_right _ (List.mem_append_right _ (List.mem_append_right _ (List.mem_append_right _ (List.mem_of_getElem? (l := tables_1_4) (i := 48) (by decide +kernel)))))) (by decide +kernel)
theorem tw_768 : Cond.methodLink "ChannelledLinkLaw" 78 yMo_open ∈ tb_ := tb_in (List.mem_append_right _ (List.mem_append_right _ (List.mem_append_right _ (List.mem_append_right _ (List.mem_of_getElem? (l := tables_1_4) (i := 49) (by decide +kernel)))))) (by decide +kernel)
theorem tw_769 : Cond.instanceMethod yMo_open ∈ tb_ := tb_in (List.mem_append_right _ (List.mem_append_right _ (List.mem_append_right _ (List.mem_append_right _ (List.mem_of_getElem? (l := tables_1_4) (i := 50) (by decide +kernel)))))) (by decide +kernel)
theorem tw_770 : Cond.selects "ChannelledLinkModel" yMo_open yMo_open ∈ tb_ := tb_in (List.mem_append_right _ (List.mem_append_right _ (List.mem_append_right _ (List.mem_append_right _ (List.mem_of_getElem? (l := tables_1_4) (i := 51) (by decide +kernel)))))) (by decide +kernel)
theorem tw_771 : Cond.code yMo_open prog_8_method_26_code 2 none ∈ tb_ := tb_in (List.mem_append_right _ (List.mem_append_right _ (List.mem_append_right _ (List.mem_append_right _ (List.mem_of_getElem? (l := tables_1_4) (i := 52) (by decide +kernel)))))) (by decide +kernel)
theorem tw_772 : Cond.methodLink "ChannelledLinkLaw" 86 yMo_expire ∈ tb_ := tb_in (List.mem_append_right _ (List.mem_append_right _ (List.mem_append_right _ (List.mem_append_right _ (List.mem_of_getElem? (l := tables_1_4) (i := 53) (by decide +kernel)))))) (by decide +kernel)
theorem tw_773 : Cond.instanceMethod yMo_expire ∈ tb_ := tb_in (List.mem_append_right _ (List.mem_append_right _ (List.mem_append_right _ (List.mem_append_right _ (List.mem_of_getElem? (l := tables_1_4) (i := 54) (by decide +kernel)))))) (by decide +kernel)
theorem tw_774 : Cond.selects "ChannelledLinkModel" yMo_expire yMo_expire ∈ tb_ := tb_in (List.mem_append_right _ (List.mem_append_right _ (List.mem_append_right _ (List.mem_append_right _ (List.mem_of_getElem? (l := tables_1_4) (i := 55) (by decide +kernel)))))) (by decide +kernel)
theorem tw_775 : Cond.code yMo_expire prog_8_method_27_code 3 (some FieldType.int) ∈ tb_ := tb_in (List.mem_append_right _ (List.mem_append_right _ (List.mem_append_right _ (List.mem_append_right _ (List.mem_of_getElem? (l := tables_1_4) (i := 56) (by decide +kernel)))))) (by decide +kernel)
theorem tw_776 : Cond.methodLink "ChannelledLinkLaw" 100 yMo_call ∈ tb_ := tb_in (List.mem_append_right _ (List.mem_append_right _ (List.mem_append_right _ (List.mem_append_right _ (List.mem_of_getElem? (l := tables_1_4) (i := 57) (by decide +kernel)))))) (by decide +kernel)
theorem tw_777 : Cond.instanceMethod yMo_call ∈ tb_ := tb_in (List.mem_append_right _ (List.mem_append_right _ (List.mem_append_right _ (List.mem_append_right _ (List.mem_of_getElem? (l := tables_1_4) (i := 58) (by decide +kernel)))))) (by decide +kernel)
theorem tw_778 : Cond.selects "ChannelledLinkModel" yMo_call yMo_call ∈ tb_ := tb_in (List.mem_append_right _ (List.mem_append_right _ (List.mem_append_right _ (List.mem_append_right _ (List.mem_of_getElem? (l := tables_1_4) (i := 59) (by decide +kernel)))))) (by decide +kernel)
theorem tw_779 : Cond.code yMo_call prog_8_method_30_code 3 none ∈ tb_ := tb_in (List.mem_append_right _ (List.mem_append_right _ (List.mem_append_right _ (List.mem_append_right _ (List.mem_of_getElem? (l := tables_1_4) (i := 60) (by decide +kernel)))))) (by decide +kernel)
theorem tw_780 : Cond.methodLink "ChannelledLinkModel" 168 yMo_bars ∈ tb_ := tb_in (List.mem_append_right _ (List.mem_append_right _ (List.mem_append_right _ (List.mem_append_right _ (List.mem_of_getElem? (l := tables_1_4) (i := 61) (by decide +kernel)))))) (by decide +kernel)
theorem tw_781 : Cond.privateMethod yMo_bars ∈ lw_tbl := List.mem_append_right _ (List.mem_append_right _ (List.mem_append_right _ (List.mem_append_right _ (List.mem_of_getElem? (l := tables_1_4) (i := 62) (by decide +kernel)))))
theorem tw_782 : Cond.instanceMethod yMo_bars ∈ tb_ := tb_in (List.mem_append_right _ (List.mem_append_right _ (List.mem_append_right _ (List.mem_append_right _ (List.mem_of_getElem? (l := tables_1_4) (i := 63) (by decide +kernel)))))) (by decide +kernel)
theorem tw_783 : Cond.code yMo_bars prog_8_method_28_code 4 (some FieldType.int) ∈ tb_ := tb_in (List.mem_append_right _ (List.mem_append_right _ (List.mem_append_right _ (List.mem_append_right _ (List.mem_of_getElem? (l := tables_1_4) (i := 64) (by decide +kernel)))))) (by decide +kernel)
theorem tw_784 : Cond.methodLink "ChannelledLinkModel" 172 yMo_become ∈ tb_ := tb_in (List.mem_append_right _ (List.mem_append_right _ (List.mem_append_right _ (List.mem_append_right _ (List.mem_of_getElem? (l := tables_1_4) (i := 65) (by decide +kernel)))))) (by decide +kernel)
theorem tw_785 : Cond.privateMethod yMo_become ∈ lw_tbl := List.mem_append_right _ (List.mem_append_right _ (List.mem_append_right _ (List.mem_append_right _ (List.mem_of_getElem? (l := tables_1_4) (i := 66) (by decide +kernel)))))
theorem tw_786 : Cond.instanceMethod yMo_become ∈ tb_ := tb_in (List.mem_append_right _ (List.mem_append_right _ (List.mem_append_right _ (List.mem_append_right _ (List.mem_of_getElem? (l := tables_1_4) (i := 67) (by decide +kernel)))))) (by decide +kernel)
theorem tw_787 : Cond.code yMo_become prog_8_method_29_code 5 none ∈ tb_ := tb_in (List.mem_append_right _ (List.mem_append_right _ (List.mem_append_right _ (List.mem_append_right _ (List.mem_of_getElem? (l := tables_1_4) (i := 68) (by decide +kernel)))))) (by decide +kernel)
theorem tw_788 : Cond.methodLink "ChannelledLinkLaw" 103 yMo_accept ∈ tb_ := tb_in (List.mem_append_right _ (List.mem_append_right _ (List.mem_append_right _ (List.mem_append_right _ (List.mem_of_getElem? (l := tables_1_4) (i := 69) (by decide +kernel)))))) (by decide +kernel)
theorem tw_789 : Cond.instanceMethod yMo_accept ∈ tb_ := tb_in (List.mem_append_right _ (List.mem_append_right _ (List.mem_append_right _ (List.mem_append_right _ (List.mem_of_getElem? (l := tables_1_4) (i := 70) (by decide +kernel)))))) (by decide +kernel)
theorem tw_790 : Cond.selects "ChannelledLinkModel" yMo_accept yMo_accept ∈ tb_ := tb_in (List.mem_append_right _ (List.mem_append_right _ (List.mem_append_right _ (List.mem_append_right _ (List.mem_of_getElem? (l := tables_1_4) (i := 71) (by decide +kernel)))))) (by decide +kernel)
theorem tw_791 : Cond.code yMo_accept prog_8_method_31_code 3 none ∈ tb_ := tb_in (List.mem_append_right _ (List.mem_append_right _ (List.mem_append_right _ (List.mem_append_right _ (List.mem_of_getElem? (l := tables_1_4) (i := 72) (by decide +kernel)))))) (by decide +kernel)
theorem tw_792 : Cond.methodLink "ChannelledLinkLaw" 106 yMo_clear ∈ tb_ := tb_in (List.mem_append_right _ (List.mem_append_right _ (List.mem_append_right _ (List.mem_append_right _ (List.mem_of_getElem? (l := tables_1_4) (i := 73) (by decide +kernel)))))) (by decide +kernel)
theorem tw_793 : Cond.instanceMethod yMo_clear ∈ tb_ := tb_in (List.mem_append_right _ (List.mem_append_right _ (List.mem_append_right _ (List.mem_append_right _ (List.mem_of_getElem? (l := tables_1_4) (i := 74) (by decide +kernel)))))) (by decide +kernel)
theorem tw_794 : Cond.selects "ChannelledLinkModel" yMo_clear yMo_clear ∈ tb_ := tb_in (List.mem_append_right _ (List.mem_append_right _ (List.mem_append_right _ (List.mem_append_right _ (List.mem_of_getElem? (l := tables_1_4) (i := 75) (by decide +kernel)))))) (by decide +kernel)
theorem tw_795 : Cond.code yMo_clear prog_8_method_32_code 3 none ∈ tb_ := tb_in (List.mem_append_right _ (List.mem_append_right _ (List.mem_append_right _ (List.mem_append_right _ (List.mem_of_getElem? (l := tables_1_4) (i := 76) (by decide +kernel)))))) (by decide +kernel)
theorem tw_796 : Cond.methodLink "ChannelledLinkLaw" 109 yMo_reset ∈ tb_ := tb_in (List.mem_append_right _ (List.mem_append_right _ (List.mem_append_right _ (List.mem_append_right _ (List.mem_of_getElem? (l := tables_1_4) (i := 77) (by decide +kernel)))))) (by decide +kernel)
theorem tw_797 : Cond.instanceMethod yMo_reset ∈ tb_ := tb_in (List.mem_append_right _ (List.mem_append_right _ (List.mem_append_right _ (List.mem_append_right _ (List.mem_of_getElem? (l := tables_1_4) (i := 78) (by decide +kernel)))))) (by decide +kernel)
theorem tw_798 : Cond.selects "ChannelledLinkModel" yMo_reset yMo_reset ∈ tb_ := tb_in (List.mem_append_right _ (List.mem_append_right _ (List.mem_append_right _ (List.mem_append_right _ (List.mem_of_getElem? (l := tables_1_4) (i := 79) (by decide +kernel)))))) (by decide +kernel)
theorem tw_799 : Cond.code yMo_reset prog_8_method_33_code 3 none ∈ tb_ := tb_in (List.mem_append_right _ (List.mem_append_right _ (List.mem_append_right _ (List.mem_append_right _ (List.mem_of_getElem? (l := tables_1_4) (i := 80) (by decide +kernel)))))) (by decide +kernel)
theorem tw_800 : Cond.methodLink "ChannelledLinkLaw" 113 yMo_send ∈ tb_ := tb_in (List.mem_append_right _ (List.mem_append_right _ (List.mem_append_right _ (List.mem_append_right _ (List.mem_of_getElem? (l := tables_1_4) (i := 81) (by decide +kernel)))))) (by decide +kernel)
theorem tw_801 : Cond.instanceMethod yMo_send ∈ tb_ := tb_in (List.mem_append_right _ (List.mem_append_right _ (List.mem_append_right _ (List.mem_append_right _ (List.mem_of_getElem? (l := tables_1_4) (i := 82) (by decide +kernel)))))) (by decide +kernel)
theorem tw_802 : Cond.selects "ChannelledLinkModel" yMo_send yMo_send ∈ tb_ := tb_in (List.mem_append_right _ (List.mem_append_right _ (List.mem_append_right _ (List.mem_append_right _ (List.mem_of_getElem? (l := tables_1_4) (i := 83) (by decide +kernel)))))) (by decide +kernel)
theorem tw_803 : Cond.code yMo_send prog_8_method_34_code 6 (some FieldType.boolean) ∈ tb_ := tb_in (List.mem_append_right _ (List.mem_append_right _ (List.mem_append_right _ (List.mem_append_right _ (List.mem_of_getElem? (l := tables_1_4) (i := 84) (by decide +kernel)))))) (by decide +kernel)
theorem tw_804 : Cond.methodLink "ChannelledLinkLaw" 117 yMo_receive ∈ tb_ := tb_in (List.mem_append_right _ (List.mem_append_right _ (List.mem_append_right _ (List.mem_append_right _ (List.mem_of_getElem? (l := tables_1_4) (i := 85) (by decide +kernel)))))) (by decide +kernel)
theorem tw_805 : Cond.instanceMethod yMo_receive ∈ tb_ := tb_in (List.mem_append_right _ (List.mem_append_right _ (List.mem_append_right _ (List.mem_append_right _ (List.mem_of_getElem? (l := tables_1_4) (i := 86) (by decide +kernel)))))) (by decide +kernel)
theorem tw_806 : Cond.selects "ChannelledLinkModel" yMo_receive yMo_receive ∈ tb_ := tb_in (List.mem_append_right _ (List.mem_append_right _ (List.mem_append_right _ (List.mem_append_right _ (List.mem_of_getElem? (l := tables_1_4) (i := 87) (by decide +kernel)))))) (by decide +kernel)
theorem tw_807 : Cond.code yMo_receive prog_8_method_35_code 5 (some FieldType.int) ∈ tb_ := tb_in (List.mem_append_right _ (List.mem_append_right _ (List.mem_append_right _ (List.mem_append_right _ (List.mem_of_getElem? (l := tables_1_4) (i := 88) (by decide +kernel)))))) (by decide +kernel)
theorem tw_808 : Cond.methodLink "ChannelledLinkLaw" 120 yMo_link ∈ tb_ := tb_in (List.mem_append_right _ (List.mem_append_right _ (List.mem_append_right _ (List.mem_append_right _ (List.mem_of_getElem? (l := tables_1_4) (i := 89) (by decide +kernel)))))) (by decide +kernel)
theorem tw_809 : Cond.instanceMethod yMo_link ∈ tb_ := tb_in (List.mem_append_right _ (List.mem_append_right _ (List.mem_append_right _ (List.mem_append_right _ (List.mem_of_getElem? (l := tables_1_4) (i := 90) (by decide +kernel)))))) (by decide +kernel)
theorem tw_810 : Cond.selects "ChannelledLinkModel" yMo_link yMo_link ∈ tb_ := tb_in (List.mem_append_right _ (List.mem_append_right _ (List.mem_append_right _ (List.mem_append_right _ (List.mem_of_getElem? (l := tables_1_4) (i := 91) (by decide +kernel)))))) (by decide +kernel)
theorem tw_811 : Cond.code yMo_link prog_8_method_36_code 3 (some FieldType.int) ∈ tb_ := tb_in (List.mem_append_right _ (List.mem_append_right _ (List.mem_append_right _ (List.mem_append_right _ (List.mem_of_getElem? (l := tables_1_4) (i := 92) (by decide +kernel)))))) (by decide +kernel)
theorem tw_812 : Cond.methodLink "ChannelledLinkLaw" 124 yMo_channel ∈ tb_ := tb_in (List.mem_append_right _ (List.mem_append_right _ (List.mem_append_right _ (List.mem_append_right _ (List.mem_of_getElem? (l := tables_1_4) (i := 93) (by decide +kernel)))))) (by decide +kernel)
theorem tw_813 : Cond.instanceMethod yMo_channel ∈ tb_ := tb_in (List.mem_append_right _ (List.mem_append_right _ (List.mem_append_right _ (List.mem_append_right _ (List.mem_of_getElem? (l := tables_1_4) (i := 94) (by decide +kernel)))))) (by decide +kernel)
theorem tw_814 : Cond.selects "ChannelledLinkModel" yMo_channel yMo_channel ∈ tb_ := tb_in (List.mem_append_right _ (List.mem_append_right _ (List.mem_append_right _ (List.mem_append_right _ (List.mem_of_getElem? (l := tables_1_4) (i := 95) (by decide +kernel)))))) (by decide +kernel)
theorem tw_815 : Cond.code yMo_channel prog_8_method_37_code 5 (some FieldType.int) ∈ tb_ := tb_in (List.mem_append_right _ (List.mem_append_right _ (List.mem_append_right _ (List.mem_append_right _ (List.mem_of_getElem? (l := tables_1_4) (i := 96) (by decide +kernel)))))) (by decide +kernel)
theorem tw_816 : Cond.methodLink "ChannelledLinkLaw" 127 yMo_frame ∈ tb_ := tb_in (List.mem_append_right _ (List.mem_append_right _ (List.mem_append_right _ (List.mem_append_right _ (List.mem_of_getElem? (l := tables_1_4) (i := 97) (by decide +kernel)))))) (by decide +kernel)
theorem tw_817 : Cond.instanceMethod yMo_frame ∈ tb_ := tb_in (List.mem_append_right _ (List.mem_append_right _ (List.mem_append_right _ (List.mem_append_right _ (List.mem_of_getElem? (l := tables_1_4) (i := 98) (by decide +kernel)))))) (by decide +kernel)
theorem tw_818 : Cond.selects "ChannelledLinkModel" yMo_frame yMo_frame ∈ tb_ := tb_in (List.mem_append_right _ (List.mem_append_right _ (List.mem_append_right _ (List.mem_append_right _ (List.mem_of_getElem? (l := tables_1_4) (i := 99) (by decide +kernel)))))) (by decide +kernel)
theorem tw_819 : Cond.code yMo_frame prog_8_method_38_code 5 (some FieldType.int) ∈ tb_ := tb_in (List.mem_append_right _ (List.mem_append_right _ (List.mem_append_right _ (List.mem_append_right _ (List.mem_of_getElem? (l := tables_1_4) (i := 100) (by decide +kernel)))))) (by decide +kernel)
theorem tw_820 : Cond.methodLink "ChannelledLinkLaw" 130 yMo_peek ∈ tb_ := tb_in (List.mem_append_right _ (List.mem_append_right _ (List.mem_append_right _ (List.mem_append_right _ (List.mem_of_getElem? (l := tables_1_4) (i := 101) (by decide +kernel)))))) (by decide +kernel)
theorem tw_821 : Cond.instanceMethod yMo_peek ∈ tb_ := tb_in (List.mem_append_right _ (List.mem_append_right _ (List.mem_append_right _ (List.mem_append_right _ (List.mem_of_getElem? (l := tables_1_4) (i := 102) (by decide +kernel)))))) (by decide +kernel)
theorem tw_822 : Cond.selects "ChannelledLinkModel" yMo_peek yMo_peek ∈ tb_ := tb_in (List.mem_append_right _ (List.mem_append_right _ (List.mem_append_right _ (List.mem_append_right _ (List.mem_of_getElem? (l := tables_1_4) (i := 103) (by decide +kernel)))))) (by decide +kernel)
theorem tw_823 : Cond.code yMo_peek prog_8_method_39_code 4 (some FieldType.int) ∈ tb_ := tb_in (List.mem_append_right _ (List.mem_append_right _ (List.mem_append_right _ (List.mem_append_right _ (List.mem_of_getElem? (l := tables_1_4) (i := 104) (by decide +kernel)))))) (by decide +kernel)
theorem tw_824 : Cond.arrayClass FieldType.long ∈ tb_ := tb_in (List.mem_append_right _ (List.mem_append_right _ (List.mem_append_right _ (List.mem_append_right _ (List.mem_of_getElem? (l := tables_1_4) (i := 105) (by decide +kernel)))))) (by decide +kernel)
theorem tw_825 : Cond.sameMethod "java/lang/Throwable" "java/lang/Throwable" "fillInStackTrace" "(I)Ljava/lang/Throwable;" ∈ tb_ := tb_in (List.mem_append_right _ (List.mem_append_right _ (List.mem_append_right _ (List.mem_append_right _ (List.mem_of_getElem? (l := tables_1_4) (i := 106) (by decide +kernel)))))) (by decide +kernel)
theorem tw_826 : Cond.selects "ChannelledLink" yCl_stationAt yCl_stationAt ∈ tb_ := tb_in (List.mem_append_left _ (List.mem_map.mpr ⟨(yCl_stationAt, 1), List.mem_append_left _ (List.mem_of_getElem? (l := lw_privs_1) (i := 0) (by decide +kernel)), rfl⟩)) (by decide +kernel)
theorem tw_827 : Cond.selects "java/lang/Throwable" yTh_fillInStackTrace yTh_fillInStackTrace ∈ tb_ := tb_in (List.mem_append_left _ (List.mem_map.mpr ⟨(yTh_fillInStackTrace, 6), List.mem_append_left _ (List.mem_of_getElem? (l := lw_privs_1) (i := 1) (by decide +kernel)), rfl⟩)) (by decide +kernel)
theorem tw_828 : Cond.selects "ChannelledLink$Station" ySt_cleanAs ySt_cleanAs ∈ tb_ := tb_in (List.mem_append_left _ (List.mem_map.mpr ⟨(ySt_cleanAs, 10), List.mem_append_left _ (List.mem_of_getElem? (l := lw_privs_1) (i := 2) (by decide +kernel)), rfl⟩)) (by decide +kernel)
theorem tw_829 : Cond.selects "ChannelledLink$Station" ySt_sendUnnumbered ySt_sendUnnumbered ∈ tb_ := tb_in (List.mem_append_left _ (List.mem_map.mpr ⟨(ySt_sendUnnumbered, 10), List.mem_append_left _ (List.mem_of_getElem? (l := lw_privs_1) (i := 3) (by decide +kernel)), rfl⟩)) (by decide +kernel)
theorem tw_830 : Cond.selects "ChannelledLink$Station" ySt_unconfirmed ySt_unconfirmed ∈ tb_ := tb_in (List.mem_append_left _ (List.mem_map.mpr ⟨(ySt_unconfirmed, 10), List.mem_append_left _ (List.mem_of_getElem? (l := lw_privs_1) (i := 4) (by decide +kernel)), rfl⟩)) (by decide +kernel)
theorem tw_831 : Cond.selects "ChannelledLink$Station" ySt_giveUp ySt_giveUp ∈ tb_ := tb_in (List.mem_append_left _ (List.mem_map.mpr ⟨(ySt_giveUp, 10), List.mem_append_left _ (List.mem_of_getElem? (l := lw_privs_1) (i := 5) (by decide +kernel)), rfl⟩)) (by decide +kernel)
theorem tw_832 : Cond.selects "ChannelledLink$Station" ySt_sendUnconfirmed ySt_sendUnconfirmed ∈ tb_ := tb_in (List.mem_append_left _ (List.mem_map.mpr ⟨(ySt_sendUnconfirmed, 10), List.mem_append_left _ (List.mem_of_getElem? (l := lw_privs_1) (i := 6) (by decide +kernel)), rfl⟩)) (by decide +kernel)
theorem tw_833 : Cond.selects "ChannelledLink$Station" ySt_hearSetup ySt_hearSetup ∈ tb_ := tb_in (List.mem_append_left _ (List.mem_map.mpr ⟨(ySt_hearSetup, 10), List.mem_append_left _ (List.mem_of_getElem? (l := lw_privs_1) (i := 7) (by decide +kernel)), rfl⟩)) (by decide +kernel)
theorem tw_834 : Cond.selects "ChannelledLink$Station" ySt_hearAgreed ySt_hearAgreed ∈ tb_ := tb_in (List.mem_append_left _ (List.mem_map.mpr ⟨(ySt_hearAgreed, 10), List.mem_append_left _ (List.mem_of_getElem? (l := lw_privs_1) (i := 8) (by decide +kernel)), rfl⟩)) (by decide +kernel)
theorem tw_835 : Cond.selects "ChannelledLink$Station" ySt_confirm ySt_confirm ∈ tb_ := tb_in (List.mem_append_left _ (List.mem_map.mpr ⟨(ySt_confirm, 10), List.mem_append_left _ (List.mem_of_getElem? (l := lw_privs_1) (i := 9) (by decide +kernel)), rfl⟩)) (by decide +kernel)
theorem tw_836 : Cond.selects "ChannelledLink$Station" ySt_hearCarrier ySt_hearCarrier ∈ tb_ := tb_in (List.mem_append_left _ (List.mem_map.mpr ⟨(ySt_hearCarrier, 10), List.mem_append_left _ (List.mem_of_getElem? (l := lw_privs_1) (i := 10) (by decide +kernel)), rfl⟩)) (by decide +kernel)
theorem tw_837 : Cond.selects "ChannelledLink$Station" ySt_rejectOnce ySt_rejectOnce ∈ tb_ := tb_in (List.mem_append_left _ (List.mem_map.mpr ⟨(ySt_rejectOnce, 10), List.mem_append_left _ (List.mem_of_getElem? (l := lw_privs_1) (i := 11) (by decide +kernel)), rfl⟩)) (by decide +kernel)
theorem tw_838 : Cond.selects "ChannelledLink$Station" ySt_sendAcknowledging ySt_sendAcknowledging ∈ tb_ := tb_in (List.mem_append_left _ (List.mem_map.mpr ⟨(ySt_sendAcknowledging, 10), List.mem_append_left _ (List.mem_of_getElem? (l := lw_privs_1) (i := 12) (by decide +kernel)), rfl⟩)) (by decide +kernel)
theorem tw_839 : Cond.selects "ChannelledLink$Channel" yCh_answerToCall yCh_answerToCall ∈ tb_ := tb_in (List.mem_append_left _ (List.mem_map.mpr ⟨(yCh_answerToCall, 7), List.mem_append_left _ (List.mem_of_getElem? (l := lw_privs_1) (i := 13) (by decide +kernel)), rfl⟩)) (by decide +kernel)
theorem tw_840 : Cond.selects "ChannelledLink$Channel" yCh_renewFrom yCh_renewFrom ∈ tb_ := tb_in (List.mem_append_left _ (List.mem_map.mpr ⟨(yCh_renewFrom, 7), List.mem_append_left _ (List.mem_of_getElem? (l := lw_privs_1) (i := 14) (by decide +kernel)), rfl⟩)) (by decide +kernel)
theorem tw_841 : Cond.selects "ChannelledLink$Channel" yCh_answerToClear yCh_answerToClear ∈ tb_ := tb_in (List.mem_append_left _ (List.mem_map.mpr ⟨(yCh_answerToClear, 7), List.mem_append_left _ (List.mem_of_getElem? (l := lw_privs_1) (i := 15) (by decide +kernel)), rfl⟩)) (by decide +kernel)
theorem tw_842 : Cond.selects "ChannelledLink$Channel" yCh_answerToFlow yCh_answerToFlow ∈ tb_ := tb_in (List.mem_append_left _ (List.mem_map.mpr ⟨(yCh_answerToFlow, 7), List.mem_append_right _ (List.mem_append_left _ (List.mem_of_getElem? (l := lw_privs_2) (i := 0) (by decide +kernel))), rfl⟩)) (by decide +kernel)
theorem tw_843 : Cond.selects "ChannelledLink$Channel" yCh_answerToReset yCh_answerToReset ∈ tb_ := tb_in (List.mem_append_left _ (List.mem_map.mpr ⟨(yCh_answerToReset, 7), List.mem_append_right _ (List.mem_append_left _ (List.mem_of_getElem? (l := lw_privs_2) (i := 1) (by decide +kernel))), rfl⟩)) (by decide +kernel)
theorem tw_844 : Cond.selects "ChannelledLink$Station" ySt_pump ySt_pump ∈ tb_ := tb_in (List.mem_append_left _ (List.mem_map.mpr ⟨(ySt_pump, 10), List.mem_append_right _ (List.mem_append_left _ (List.mem_of_getElem? (l := lw_privs_2) (i := 2) (by decide +kernel))), rfl⟩)) (by decide +kernel)
theorem tw_845 : Cond.selects "ChannelledLinkModel" yMo_takeFrame yMo_takeFrame ∈ tb_ := tb_in (List.mem_append_left _ (List.mem_map.mpr ⟨(yMo_takeFrame, 29), List.mem_append_right _ (List.mem_append_left _ (List.mem_of_getElem? (l := lw_privs_2) (i := 3) (by decide +kernel))), rfl⟩)) (by decide +kernel)
theorem tw_846 : Cond.selects "ChannelledLinkModel" yMo_hearLink yMo_hearLink ∈ tb_ := tb_in (List.mem_append_left _ (List.mem_map.mpr ⟨(yMo_hearLink, 29), List.mem_append_right _ (List.mem_append_left _ (List.mem_of_getElem? (l := lw_privs_2) (i := 4) (by decide +kernel))), rfl⟩)) (by decide +kernel)
theorem tw_847 : Cond.selects "ChannelledLinkModel" yMo_clean yMo_clean ∈ tb_ := tb_in (List.mem_append_left _ (List.mem_map.mpr ⟨(yMo_clean, 29), List.mem_append_right _ (List.mem_append_left _ (List.mem_of_getElem? (l := lw_privs_2) (i := 5) (by decide +kernel))), rfl⟩)) (by decide +kernel)
theorem tw_848 : Cond.selects "ChannelledLinkModel" yMo_renew yMo_renew ∈ tb_ := tb_in (List.mem_append_left _ (List.mem_map.mpr ⟨(yMo_renew, 29), List.mem_append_right _ (List.mem_append_left _ (List.mem_of_getElem? (l := lw_privs_2) (i := 6) (by decide +kernel))), rfl⟩)) (by decide +kernel)
theorem tw_849 : Cond.selects "ChannelledLinkModel" yMo_transmit yMo_transmit ∈ tb_ := tb_in (List.mem_append_left _ (List.mem_map.mpr ⟨(yMo_transmit, 29), List.mem_append_right _ (List.mem_append_left _ (List.mem_of_getElem? (l := lw_privs_2) (i := 7) (by decide +kernel))), rfl⟩)) (by decide +kernel)
theorem tw_850 : Cond.selects "ChannelledLinkModel" yMo_setUp yMo_setUp ∈ tb_ := tb_in (List.mem_append_left _ (List.mem_map.mpr ⟨(yMo_setUp, 29), List.mem_append_right _ (List.mem_append_left _ (List.mem_of_getElem? (l := lw_privs_2) (i := 8) (by decide +kernel))), rfl⟩)) (by decide +kernel)
theorem tw_851 : Cond.selects "ChannelledLinkModel" yMo_confirm yMo_confirm ∈ tb_ := tb_in (List.mem_append_left _ (List.mem_map.mpr ⟨(yMo_confirm, 29), List.mem_append_right _ (List.mem_append_left _ (List.mem_of_getElem? (l := lw_privs_2) (i := 9) (by decide +kernel))), rfl⟩)) (by decide +kernel)
theorem tw_852 : Cond.selects "ChannelledLinkModel" yMo_unconfirmed yMo_unconfirmed ∈ tb_ := tb_in (List.mem_append_left _ (List.mem_map.mpr ⟨(yMo_unconfirmed, 29), List.mem_append_right _ (List.mem_append_left _ (List.mem_of_getElem? (l := lw_privs_2) (i := 10) (by decide +kernel))), rfl⟩)) (by decide +kernel)
theorem tw_853 : Cond.selects "ChannelledLinkModel" yMo_again yMo_again ∈ tb_ := tb_in (List.mem_append_left _ (List.mem_map.mpr ⟨(yMo_again, 29), List.mem_append_right _ (List.mem_append_left _ (List.mem_of_getElem? (l := lw_privs_2) (i := 11) (by decide +kernel))), rfl⟩)) (by decide +kernel)
theorem tw_854 : Cond.selects "ChannelledLinkModel" yMo_carry yMo_carry ∈ tb_ := tb_in (List.mem_append_left _ (List.mem_map.mpr ⟨(yMo_carry, 29), List.mem_append_right _ (List.mem_append_left _ (List.mem_of_getElem? (l := lw_privs_2) (i := 12) (by decide +kernel))), rfl⟩)) (by decide +kernel)
theorem tw_855 : Cond.selects "ChannelledLinkModel" yMo_hearCarrier yMo_hearCarrier ∈ tb_ := tb_in (List.mem_append_left _ (List.mem_map.mpr ⟨(yMo_hearCarrier, 29), List.mem_append_right _ (List.mem_append_left _ (List.mem_of_getElem? (l := lw_privs_2) (i := 13) (by decide +kernel))), rfl⟩)) (by decide +kernel)
theorem tw_856 : Cond.selects "ChannelledLinkModel" yMo_hear yMo_hear ∈ tb_ := tb_in (List.mem_append_left _ (List.mem_map.mpr ⟨(yMo_hear, 29), List.mem_append_right _ (List.mem_append_left _ (List.mem_of_getElem? (l := lw_privs_2) (i := 14) (by decide +kernel))), rfl⟩)) (by decide +kernel)
theorem tw_857 : Cond.selects "ChannelledLinkModel" yMo_idle yMo_idle ∈ tb_ := tb_in (List.mem_append_left _ (List.mem_map.mpr ⟨(yMo_idle, 29), List.mem_append_right _ (List.mem_append_left _ (List.mem_of_getElem? (l := lw_privs_2) (i := 15) (by decide +kernel))), rfl⟩)) (by decide +kernel)
theorem tw_858 : Cond.selects "ChannelledLinkModel" yMo_post yMo_post ∈ tb_ := tb_in (List.mem_append_left _ (List.mem_map.mpr ⟨(yMo_post, 29), List.mem_append_right _ (List.mem_append_right _ (List.mem_of_getElem? (l := lw_privs_3) (i := 0) (by decide +kernel))), rfl⟩)) (by decide +kernel)
theorem tw_859 : Cond.selects "ChannelledLinkModel" yMo_pump yMo_pump ∈ tb_ := tb_in (List.mem_append_left _ (List.mem_map.mpr ⟨(yMo_pump, 29), List.mem_append_right _ (List.mem_append_right _ (List.mem_of_getElem? (l := lw_privs_3) (i := 1) (by decide +kernel))), rfl⟩)) (by decide +kernel)
theorem tw_860 : Cond.selects "ChannelledLinkModel" yMo_move yMo_move ∈ tb_ := tb_in (List.mem_append_left _ (List.mem_map.mpr ⟨(yMo_move, 29), List.mem_append_right _ (List.mem_append_right _ (List.mem_of_getElem? (l := lw_privs_3) (i := 2) (by decide +kernel))), rfl⟩)) (by decide +kernel)
theorem tw_861 : Cond.selects "ChannelledLinkModel" yMo_bars yMo_bars ∈ tb_ := tb_in (List.mem_append_left _ (List.mem_map.mpr ⟨(yMo_bars, 29), List.mem_append_right _ (List.mem_append_right _ (List.mem_of_getElem? (l := lw_privs_3) (i := 3) (by decide +kernel))), rfl⟩)) (by decide +kernel)
theorem tw_862 : Cond.selects "ChannelledLinkModel" yMo_become yMo_become ∈ tb_ := tb_in (List.mem_append_left _ (List.mem_map.mpr ⟨(yMo_become, 29), List.mem_append_right _ (List.mem_append_right _ (List.mem_of_getElem? (l := lw_privs_3) (i := 4) (by decide +kernel))), rfl⟩)) (by decide +kernel)
end
section
/-! classes: fields in the order of the slots, types; methods: code -/
abbrev RRw : String := "ChannelledLink$Row"
def TRw : u_T := fun k => match k with
  | 0 => ("ChannelledLink$Row", "places", "[I", true)
  | _ => ("ChannelledLink$Row", "count", "I", false)
def tyRw : Nat → FieldType := fun k => match k with
  | 0 => .array .int
  | _ => .int
theorem nmRw : ∀ a, a < 2 → ∀ b, b < 2 → a ≠ b → (TRw a).2.1 ≠ (TRw b).2.1 := by decide +kernel
theorem tyRw_ok : ∀ k, k < 2 → parseFieldDescriptor (TRw k).2.2.1 = some (tyRw k) := by decide +kernel
theorem inRw : ∀ w ∈ u_ws RRw TRw 2, w ∈ tb_ := by
  intro w hw
  obtain ⟨k, hk, rfl⟩ := List.mem_map.mp hw
  have hk := List.mem_range.mp hk
  match k, hk with
  | 0, _ => exact tw_36
  | 1, _ => exact tw_38
  | n + 2, h => exact absurd h (by omega)
abbrev RPk : String := "ChannelledLink$Packet"
abbrev RFr : String := "ChannelledLink$Frame"
abbrev RCh : String := "ChannelledLink$Channel"
def TCh : u_T := fun k => match k with
  | 0 => ("ChannelledLink$Channel", "yields", "Z", true)
  | 1 => ("ChannelledLink$Channel", "data", "LChannelledLink$Row;", true)
  | 2 => ("ChannelledLink$Channel", "state", "I", false)
  | 3 => ("ChannelledLink$Channel", "next", "I", false)
  | 4 => ("ChannelledLink$Channel", "passed", "I", false)
  | 5 => ("ChannelledLink$Channel", "due", "I", false)
  | _ => ("ChannelledLink$Channel", "taken", "I", false)
def tyCh : Nat → FieldType := fun k => match k with
  | 0 => .boolean
  | 1 => .object "ChannelledLink$Row"
  | 2 => .int
  | 3 => .int
  | 4 => .int
  | 5 => .int
  | _ => .int
theorem nmCh : ∀ a, a < 7 → ∀ b, b < 7 → a ≠ b → (TCh a).2.1 ≠ (TCh b).2.1 := by decide +kernel
theorem tyCh_ok : ∀ k, k < 7 → parseFieldDescriptor (TCh k).2.2.1 = some (tyCh k) := by decide +kernel
theorem inCh : ∀ w ∈ u_ws RCh TCh 7, w ∈ tb_ := by
  intro w hw
  obtain ⟨k, hk, rfl⟩ := List.mem_map.mp hw
  have hk := List.mem_range.mp hk
  match k, hk with
  | 0, _ => exact tw_73
  | 1, _ => exact tw_75
  | 2, _ => exact tw_77
  | 3, _ => exact tw_79
  | 4, _ => exact tw_81
  | 5, _ => exact tw_83
  | 6, _ => exact tw_85
  | n + 7, h => exact absurd h (by omega)
abbrev RSt : String := "ChannelledLink$Station"
def TSt : u_T := fun k => match k with
  | 0 => ("ChannelledLink$Station", "line", "LChannelledLink$Row;", true)
  | 1 => ("ChannelledLink$Station", "lineOfPeer", "LChannelledLink$Row;", true)
  | 2 => ("ChannelledLink$Station", "out", "LChannelledLink$Row;", true)
  | 3 => ("ChannelledLink$Station", "channels", "[LChannelledLink$Channel;", true)
  | 4 => ("ChannelledLink$Station", "link", "I", false)
  | 5 => ("ChannelledLink$Station", "sent", "I", false)
  | 6 => ("ChannelledLink$Station", "acknowledged", "I", false)
  | 7 => ("ChannelledLink$Station", "expected", "I", false)
  | 8 => ("ChannelledLink$Station", "tries", "I", false)
  | _ => ("ChannelledLink$Station", "rejected", "Z", false)
def tySt : Nat → FieldType := fun k => match k with
  | 0 => .object "ChannelledLink$Row"
  | 1 => .object "ChannelledLink$Row"
  | 2 => .object "ChannelledLink$Row"
  | 3 => .array (.object "ChannelledLink$Channel")
  | 4 => .int
  | 5 => .int
  | 6 => .int
  | 7 => .int
  | 8 => .int
  | _ => .boolean
theorem nmSt : ∀ a, a < 10 → ∀ b, b < 10 → a ≠ b → (TSt a).2.1 ≠ (TSt b).2.1 := by decide +kernel
theorem tySt_ok : ∀ k, k < 10 → parseFieldDescriptor (TSt k).2.2.1 = some (tySt k) := by decide +kernel
theorem inSt : ∀ w ∈ u_ws RSt TSt 10, w ∈ tb_ := by
  intro w hw
  obtain ⟨k, hk, rfl⟩ := List.mem_map.mp hw
  have hk := List.mem_range.mp hk
  match k, hk with
  | 0, _ => exact tw_107
  | 1, _ => exact tw_109
  | 2, _ => exact tw_111
  | 3, _ => exact tw_113
  | 4, _ => exact tw_115
  | 5, _ => exact tw_117
  | 6, _ => exact tw_119
  | 7, _ => exact tw_121
  | 8, _ => exact tw_123
  | 9, _ => exact tw_125
  | n + 10, h => exact absurd h (by omega)
abbrev RCl : String := "ChannelledLink"
def TCl : u_T := fun k => match k with
  | _ => ("ChannelledLink", "stations", "[LChannelledLink$Station;", true)
def tyCl : Nat → FieldType := fun k => match k with
  | _ => .array (.object "ChannelledLink$Station")
theorem nmCl : ∀ a, a < 1 → ∀ b, b < 1 → a ≠ b → (TCl a).2.1 ≠ (TCl b).2.1 := by decide +kernel
theorem tyCl_ok : ∀ k, k < 1 → parseFieldDescriptor (TCl k).2.2.1 = some (tyCl k) := by decide +kernel
theorem inCl : ∀ w ∈ u_ws RCl TCl 1, w ∈ tb_ := by
  intro w hw
  obtain ⟨k, hk, rfl⟩ := List.mem_map.mp hw
  have hk := List.mem_range.mp hk
  match k, hk with
  | 0, _ => exact tw_129
  | n + 1, h => exact absurd h (by omega)
abbrev RMo : String := "ChannelledLinkModel"
def TMo : u_T := fun k => match k with
  | 0 => ("ChannelledLinkModel", "code", "I", false)
  | 1 => ("ChannelledLinkModel", "under", "[I", false)
  | 2 => ("ChannelledLinkModel", "frameKind", "[I", false)
  | 3 => ("ChannelledLinkModel", "frameNumber", "[I", false)
  | 4 => ("ChannelledLinkModel", "frameAck", "[I", false)
  | 5 => ("ChannelledLinkModel", "carried", "[I", false)
  | 6 => ("ChannelledLinkModel", "carriedOn", "[I", false)
  | 7 => ("ChannelledLinkModel", "carriedNumber", "[I", false)
  | 8 => ("ChannelledLinkModel", "carriedAck", "[I", false)
  | 9 => ("ChannelledLinkModel", "carriedValue", "[I", false)
  | 10 => ("ChannelledLinkModel", "links", "[I", false)
  | 11 => ("ChannelledLinkModel", "sent", "[I", false)
  | 12 => ("ChannelledLinkModel", "acknowledged", "[I", false)
  | 13 => ("ChannelledLinkModel", "expected", "[I", false)
  | 14 => ("ChannelledLinkModel", "tries", "[I", false)
  | 15 => ("ChannelledLinkModel", "rejected", "[Z", false)
  | 16 => ("ChannelledLinkModel", "carrier", "[Z", false)
  | 17 => ("ChannelledLinkModel", "packets", "[I", false)
  | 18 => ("ChannelledLinkModel", "kinds", "[I", false)
  | 19 => ("ChannelledLinkModel", "on", "[I", false)
  | 20 => ("ChannelledLinkModel", "numbers", "[I", false)
  | 21 => ("ChannelledLinkModel", "acks", "[I", false)
  | 22 => ("ChannelledLinkModel", "values", "[I", false)
  | 23 => ("ChannelledLinkModel", "state", "[I", false)
  | 24 => ("ChannelledLinkModel", "next", "[I", false)
  | 25 => ("ChannelledLinkModel", "passed", "[I", false)
  | 26 => ("ChannelledLinkModel", "due", "[I", false)
  | 27 => ("ChannelledLinkModel", "taken", "[I", false)
  | _ => ("ChannelledLinkModel", "data", "[I", false)
def tyMo : Nat → FieldType := fun k => match k with
  | 0 => .int
  | 1 => .array .int
  | 2 => .array .int
  | 3 => .array .int
  | 4 => .array .int
  | 5 => .array .int
  | 6 => .array .int
  | 7 => .array .int
  | 8 => .array .int
  | 9 => .array .int
  | 10 => .array .int
  | 11 => .array .int
  | 12 => .array .int
  | 13 => .array .int
  | 14 => .array .int
  | 15 => .array .boolean
  | 16 => .array .boolean
  | 17 => .array .int
  | 18 => .array .int
  | 19 => .array .int
  | 20 => .array .int
  | 21 => .array .int
  | 22 => .array .int
  | 23 => .array .int
  | 24 => .array .int
  | 25 => .array .int
  | 26 => .array .int
  | 27 => .array .int
  | _ => .array .int
theorem nmMo : ∀ a, a < 29 → ∀ b, b < 29 → a ≠ b → (TMo a).2.1 ≠ (TMo b).2.1 := by decide +kernel
theorem tyMo_ok : ∀ k, k < 29 → parseFieldDescriptor (TMo k).2.2.1 = some (tyMo k) := by decide +kernel
theorem inMo : ∀ w ∈ u_ws RMo TMo 29, w ∈ tb_ := by
  intro w hw
  obtain ⟨k, hk, rfl⟩ := List.mem_map.mp hw
  have hk := List.mem_range.mp hk
  match k, hk with
  | 0, _ => exact tw_616
  | 1, _ => exact tw_618
  | 2, _ => exact tw_620
  | 3, _ => exact tw_622
  | 4, _ => exact tw_624
  | 5, _ => exact tw_626
  | 6, _ => exact tw_628
  | 7, _ => exact tw_630
  | 8, _ => exact tw_632
  | 9, _ => exact tw_634
  | 10, _ => exact tw_636
  | 11, _ => exact tw_638
  | 12, _ => exact tw_640
  | 13, _ => exact tw_642
  | 14, _ => exact tw_644
  | 15, _ => exact tw_646
  | 16, _ => exact tw_648
  | 17, _ => exact tw_650
  | 18, _ => exact tw_652
  | 19, _ => exact tw_654
  | 20, _ => exact tw_656
  | 21, _ => exact tw_658
  | 22, _ => exact tw_660
  | 23, _ => exact tw_662
  | 24, _ => exact tw_664
  | 25, _ => exact tw_666
  | 26, _ => exact tw_668
  | 27, _ => exact tw_670
  | 28, _ => exact tw_672
  | n + 29, h => exact absurd h (by omega)
abbrev RLw : String := "ChannelledLinkLaw"
abbrev cRw_init : ByteArray := prog_5_method_1_code
abbrev cRw_add : ByteArray := prog_5_method_2_code
abbrev cRw_at : ByteArray := prog_5_method_3_code
abbrev cRw_drop : ByteArray := prog_5_method_4_code
abbrev cPk_of : ByteArray := prog_4_method_2_code
abbrev cPk_bare : ByteArray := prog_4_method_3_code
abbrev cPk_kindOf : ByteArray := prog_4_method_4_code
abbrev cPk_channelOf : ByteArray := prog_4_method_5_code
abbrev cPk_numberOf : ByteArray := prog_4_method_6_code
abbrev cPk_acknowledgementOf : ByteArray := prog_4_method_7_code
abbrev cPk_dataOf : ByteArray := prog_4_method_8_code
abbrev cFr_of : ByteArray := prog_3_method_2_code
abbrev cFr_kindOf : ByteArray := prog_3_method_3_code
abbrev cFr_numberOf : ByteArray := prog_3_method_4_code
abbrev cFr_acknowledgementOf : ByteArray := prog_3_method_5_code
abbrev cFr_packetOf : ByteArray := prog_3_method_6_code
abbrev cCh_init : ByteArray := prog_2_method_1_code
abbrev cCh_renewAs : ByteArray := prog_2_method_2_code
abbrev cCh_takeData : ByteArray := prog_2_method_3_code
abbrev cCh_answerTo : ByteArray := prog_2_method_4_code
abbrev cCh_renewFrom : ByteArray := prog_2_method_5_code
abbrev cCh_answerToCall : ByteArray := prog_2_method_6_code
abbrev cCh_answerToClear : ByteArray := prog_2_method_7_code
abbrev cCh_answerToReset : ByteArray := prog_2_method_8_code
abbrev cCh_answerToFlow : ByteArray := prog_2_method_9_code
abbrev cSt_init : ByteArray := prog_6_method_1_code
abbrev cSt_setUp : ByteArray := prog_6_method_2_code
abbrev cSt_waitsForAnswer : ByteArray := prog_6_method_3_code
abbrev cSt_takesCalls : ByteArray := prog_6_method_4_code
abbrev cSt_tryAgain : ByteArray := prog_6_method_5_code
abbrev cSt_giveUp : ByteArray := prog_6_method_6_code
abbrev cSt_hearFrame : ByteArray := prog_6_method_7_code
abbrev cSt_hearSetup : ByteArray := prog_6_method_8_code
abbrev cSt_hearAgreed : ByteArray := prog_6_method_9_code
abbrev cSt_confirm : ByteArray := prog_6_method_10_code
abbrev cSt_hearCarrier : ByteArray := prog_6_method_11_code
abbrev cSt_rejectOnce : ByteArray := prog_6_method_12_code
abbrev cSt_hearPacket : ByteArray := prog_6_method_13_code
abbrev cSt_sendPacket : ByteArray := prog_6_method_14_code
abbrev cSt_pump : ByteArray := prog_6_method_15_code
abbrev cSt_sendUnconfirmed : ByteArray := prog_6_method_16_code
abbrev cSt_sendUnnumbered : ByteArray := prog_6_method_17_code
abbrev cSt_sendAcknowledging : ByteArray := prog_6_method_18_code
abbrev cSt_unconfirmed : ByteArray := prog_6_method_19_code
abbrev cSt_cleanAs : ByteArray := prog_6_method_20_code
abbrev cCl_init : ByteArray := prog_1_method_1_code
abbrev cCl_open : ByteArray := prog_1_method_2_code
abbrev cCl_expire : ByteArray := prog_1_method_3_code
abbrev cCl_deliver : ByteArray := prog_1_method_4_code
abbrev cCl_lose : ByteArray := prog_1_method_5_code
abbrev cCl_hand : ByteArray := prog_1_method_6_code
abbrev cCl_call : ByteArray := prog_1_method_7_code
abbrev cCl_accept : ByteArray := prog_1_method_8_code
abbrev cCl_clear : ByteArray := prog_1_method_9_code
abbrev cCl_reset : ByteArray := prog_1_method_10_code
abbrev cCl_send : ByteArray := prog_1_method_11_code
abbrev cCl_receive : ByteArray := prog_1_method_12_code
abbrev cCl_link : ByteArray := prog_1_method_13_code
abbrev cCl_channel : ByteArray := prog_1_method_14_code
abbrev cCl_frame : ByteArray := prog_1_method_15_code
abbrev cCl_peek : ByteArray := prog_1_method_16_code
abbrev cCl_stationAt : ByteArray := prog_1_method_17_code
abbrev cCl_channelAt : ByteArray := prog_1_method_18_code
abbrev cCl_requireChannel : ByteArray := prog_1_method_19_code
abbrev cCl_requireValue : ByteArray := prog_1_method_20_code
abbrev cCl_requireState : ByteArray := prog_1_method_21_code
abbrev cCl_requireElement : ByteArray := prog_1_method_22_code
abbrev cCl_takeFrame : ByteArray := prog_1_method_23_code
abbrev cCl_isChannel : ByteArray := prog_1_method_24_code
abbrev cCl_isNumber : ByteArray := prog_1_method_25_code
abbrev cCl_after : ByteArray := prog_1_method_26_code
abbrev cCl_distance : ByteArray := prog_1_method_27_code
abbrev cMo_init : ByteArray := prog_8_method_1_code
abbrev cMo_thrown : ByteArray := prog_8_method_2_code
abbrev cMo_less : ByteArray := prog_8_method_3_code
abbrev cMo_grown : ByteArray := prog_8_method_4_code
abbrev cMo_transmit : ByteArray := prog_8_method_5_code
abbrev cMo_unconfirmed : ByteArray := prog_8_method_6_code
abbrev cMo_carry : ByteArray := prog_8_method_7_code
abbrev cMo_pump : ByteArray := prog_8_method_8_code
abbrev cMo_again : ByteArray := prog_8_method_9_code
abbrev cMo_post : ByteArray := prog_8_method_10_code
abbrev cMo_renew : ByteArray := prog_8_method_11_code
abbrev cMo_clean : ByteArray := prog_8_method_12_code
abbrev cMo_setUp : ByteArray := prog_8_method_13_code
abbrev cMo_confirm : ByteArray := prog_8_method_14_code
abbrev cMo_idle : ByteArray := prog_8_method_15_code
abbrev cMo_move : ByteArray := prog_8_method_16_code
abbrev cMo_hear : ByteArray := prog_8_method_17_code
abbrev cMo_hearCarrier : ByteArray := prog_8_method_18_code
abbrev cMo_hearLink : ByteArray := prog_8_method_19_code
abbrev cMo_takeFrame : ByteArray := prog_8_method_20_code
abbrev cMo_station : ByteArray := prog_8_method_21_code
abbrev cMo_channelOf : ByteArray := prog_8_method_22_code
abbrev cMo_deliver : ByteArray := prog_8_method_23_code
abbrev cMo_lose : ByteArray := prog_8_method_24_code
abbrev cMo_hand : ByteArray := prog_8_method_25_code
abbrev cMo_open : ByteArray := prog_8_method_26_code
abbrev cMo_expire : ByteArray := prog_8_method_27_code
abbrev cMo_bars : ByteArray := prog_8_method_28_code
abbrev cMo_become : ByteArray := prog_8_method_29_code
abbrev cMo_call : ByteArray := prog_8_method_30_code
abbrev cMo_accept : ByteArray := prog_8_method_31_code
abbrev cMo_clear : ByteArray := prog_8_method_32_code
abbrev cMo_reset : ByteArray := prog_8_method_33_code
abbrev cMo_send : ByteArray := prog_8_method_34_code
abbrev cMo_receive : ByteArray := prog_8_method_35_code
abbrev cMo_link : ByteArray := prog_8_method_36_code
abbrev cMo_channel : ByteArray := prog_8_method_37_code
abbrev cMo_frame : ByteArray := prog_8_method_38_code
abbrev cMo_peek : ByteArray := prog_8_method_39_code
abbrev cLw_open : ByteArray := method_3_code
abbrev cLw_expire : ByteArray := method_4_code
abbrev cLw_deliver : ByteArray := method_5_code
abbrev cLw_lose : ByteArray := method_6_code
abbrev cLw_hand : ByteArray := method_7_code
abbrev cLw_call : ByteArray := method_8_code
abbrev cLw_accept : ByteArray := method_9_code
abbrev cLw_clear : ByteArray := method_10_code
abbrev cLw_reset : ByteArray := method_11_code
abbrev cLw_send : ByteArray := method_12_code
abbrev cLw_receive : ByteArray := method_13_code
abbrev cLw_link : ByteArray := method_14_code
abbrev cLw_channel : ByteArray := method_15_code
abbrev cLw_frame : ByteArray := method_16_code
abbrev cLw_peek : ByteArray := method_17_code
abbrev cLw_law : ByteArray := code
end
section
theorem dRw_init_0 : decode cRw_init 0 = .ok (.aload_n 0, 1) := by decide +kernel
theorem dRw_init_1 : decode cRw_init 1 = .ok (.invokespecial 1, 3) := by decide +kernel
theorem dRw_init_4 : decode cRw_init 4 = .ok (.aload_n 0, 1) := by decide +kernel
theorem dRw_init_5 : decode cRw_init 5 = .ok (.iload_n 1, 1) := by decide +kernel
theorem dRw_init_6 : decode cRw_init 6 = .ok (.newarray .int, 2) := by decide +kernel
theorem dRw_init_8 : decode cRw_init 8 = .ok (.putfield 7, 3) := by decide +kernel
theorem dRw_init_11 : decode cRw_init 11 = .ok (.aload_n 0, 1) := by decide +kernel
theorem dRw_init_12 : decode cRw_init 12 = .ok (.iconst 0, 1) := by decide +kernel
theorem dRw_init_13 : decode cRw_init 13 = .ok (.putfield 13, 3) := by decide +kernel
theorem dRw_init_16 : decode cRw_init 16 = .ok (.return_, 1) := by decide +kernel
theorem dRw_add_0 : decode cRw_add 0 = .ok (.aload_n 0, 1) := by decide +kernel
theorem dRw_add_1 : decode cRw_add 1 = .ok (.getfield 13, 3) := by decide +kernel
theorem dRw_add_4 : decode cRw_add 4 = .ok (.aload_n 0, 1) := by decide +kernel
theorem dRw_add_5 : decode cRw_add 5 = .ok (.getfield 7, 3) := by decide +kernel
theorem dRw_add_8 : decode cRw_add 8 = .ok (.arraylength, 1) := by decide +kernel
theorem dRw_add_9 : decode cRw_add 9 = .ok (.if_icmp .ge 23, 3) := by decide +kernel
theorem dRw_add_12 : decode cRw_add 12 = .ok (.aload_n 0, 1) := by decide +kernel
theorem dRw_add_13 : decode cRw_add 13 = .ok (.getfield 7, 3) := by decide +kernel
theorem dRw_add_16 : decode cRw_add 16 = .ok (.aload_n 0, 1) := by decide +kernel
theorem dRw_add_17 : decode cRw_add 17 = .ok (.getfield 13, 3) := by decide +kernel
theorem dRw_add_20 : decode cRw_add 20 = .ok (.iload_n 1, 1) := by decide +kernel
theorem dRw_add_21 : decode cRw_add 21 = .ok (.iastore, 1) := by decide +kernel
theorem dRw_add_22 : decode cRw_add 22 = .ok (.aload_n 0, 1) := by decide +kernel
theorem dRw_add_23 : decode cRw_add 23 = .ok (.dup, 1) := by decide +kernel
theorem dRw_add_24 : decode cRw_add 24 = .ok (.getfield 13, 3) := by decide +kernel
theorem dRw_add_27 : decode cRw_add 27 = .ok (.iconst 1, 1) := by decide +kernel
theorem dRw_add_28 : decode cRw_add 28 = .ok (.iadd, 1) := by decide +kernel
theorem dRw_add_29 : decode cRw_add 29 = .ok (.putfield 13, 3) := by decide +kernel
theorem dRw_add_32 : decode cRw_add 32 = .ok (.return_, 1) := by decide +kernel
theorem dRw_at_0 : decode cRw_at 0 = .ok (.iload_n 1, 1) := by decide +kernel
theorem dRw_at_1 : decode cRw_at 1 = .ok (.ifCond .lt 20, 3) := by decide +kernel
theorem dRw_at_4 : decode cRw_at 4 = .ok (.iload_n 1, 1) := by decide +kernel
theorem dRw_at_5 : decode cRw_at 5 = .ok (.aload_n 0, 1) := by decide +kernel
theorem dRw_at_6 : decode cRw_at 6 = .ok (.getfield 13, 3) := by decide +kernel
theorem dRw_at_9 : decode cRw_at 9 = .ok (.if_icmp .ge 12, 3) := by decide +kernel
theorem dRw_at_12 : decode cRw_at 12 = .ok (.aload_n 0, 1) := by decide +kernel
theorem dRw_at_13 : decode cRw_at 13 = .ok (.getfield 7, 3) := by decide +kernel
theorem dRw_at_16 : decode cRw_at 16 = .ok (.iload_n 1, 1) := by decide +kernel
theorem dRw_at_17 : decode cRw_at 17 = .ok (.iaload, 1) := by decide +kernel
theorem dRw_at_18 : decode cRw_at 18 = .ok (.goto 4, 3) := by decide +kernel
theorem dRw_at_21 : decode cRw_at 21 = .ok (.iconst 0, 1) := by decide +kernel
theorem dRw_at_22 : decode cRw_at 22 = .ok (.ireturn, 1) := by decide +kernel
theorem dRw_drop_0 : decode cRw_drop 0 = .ok (.iload_n 1, 1) := by decide +kernel
theorem dRw_drop_1 : decode cRw_drop 1 = .ok (.ifCond .lt 11, 3) := by decide +kernel
theorem dRw_drop_4 : decode cRw_drop 4 = .ok (.iload_n 1, 1) := by decide +kernel
theorem dRw_drop_5 : decode cRw_drop 5 = .ok (.aload_n 0, 1) := by decide +kernel
theorem dRw_drop_6 : decode cRw_drop 6 = .ok (.getfield 13, 3) := by decide +kernel
theorem dRw_drop_9 : decode cRw_drop 9 = .ok (.if_icmp .le 4, 3) := by decide +kernel
theorem dRw_drop_12 : decode cRw_drop 12 = .ok (.return_, 1) := by decide +kernel
theorem dRw_drop_13 : decode cRw_drop 13 = .ok (.aload_n 0, 1) := by decide +kernel
theorem dRw_drop_14 : decode cRw_drop 14 = .ok (.getfield 7, 3) := by decide +kernel
theorem dRw_drop_17 : decode cRw_drop 17 = .ok (.iload_n 1, 1) := by decide +kernel
theorem dRw_drop_18 : decode cRw_drop 18 = .ok (.aload_n 0, 1) := by decide +kernel
theorem dRw_drop_19 : decode cRw_drop 19 = .ok (.getfield 7, 3) := by decide +kernel
theorem dRw_drop_22 : decode cRw_drop 22 = .ok (.iconst 0, 1) := by decide +kernel
theorem dRw_drop_23 : decode cRw_drop 23 = .ok (.aload_n 0, 1) := by decide +kernel
theorem dRw_drop_24 : decode cRw_drop 24 = .ok (.getfield 13, 3) := by decide +kernel
theorem dRw_drop_27 : decode cRw_drop 27 = .ok (.iload_n 1, 1) := by decide +kernel
theorem dRw_drop_28 : decode cRw_drop 28 = .ok (.isub, 1) := by decide +kernel
theorem dRw_drop_29 : decode cRw_drop 29 = .ok (.invokestatic 17, 3) := by decide +kernel
theorem dRw_drop_32 : decode cRw_drop 32 = .ok (.aload_n 0, 1) := by decide +kernel
theorem dRw_drop_33 : decode cRw_drop 33 = .ok (.dup, 1) := by decide +kernel
theorem dRw_drop_34 : decode cRw_drop 34 = .ok (.getfield 13, 3) := by decide +kernel
theorem dRw_drop_37 : decode cRw_drop 37 = .ok (.iload_n 1, 1) := by decide +kernel
theorem dRw_drop_38 : decode cRw_drop 38 = .ok (.isub, 1) := by decide +kernel
theorem dRw_drop_39 : decode cRw_drop 39 = .ok (.putfield 13, 3) := by decide +kernel
theorem dRw_drop_42 : decode cRw_drop 42 = .ok (.return_, 1) := by decide +kernel
end
section
theorem dPk_of_0 : decode cPk_of 0 = .ok (.iload_n 0, 1) := by decide +kernel
theorem dPk_of_1 : decode cPk_of 1 = .ok (.bipush 17, 2) := by decide +kernel
theorem dPk_of_3 : decode cPk_of 3 = .ok (.ishl, 1) := by decide +kernel
theorem dPk_of_4 : decode cPk_of 4 = .ok (.iload_n 1, 1) := by decide +kernel
theorem dPk_of_5 : decode cPk_of 5 = .ok (.bipush 15, 2) := by decide +kernel
theorem dPk_of_7 : decode cPk_of 7 = .ok (.ishl, 1) := by decide +kernel
theorem dPk_of_8 : decode cPk_of 8 = .ok (.ior, 1) := by decide +kernel
theorem dPk_of_9 : decode cPk_of 9 = .ok (.iload_n 2, 1) := by decide +kernel
theorem dPk_of_10 : decode cPk_of 10 = .ok (.bipush 12, 2) := by decide +kernel
theorem dPk_of_12 : decode cPk_of 12 = .ok (.ishl, 1) := by decide +kernel
theorem dPk_of_13 : decode cPk_of 13 = .ok (.ior, 1) := by decide +kernel
theorem dPk_of_14 : decode cPk_of 14 = .ok (.iload_n 3, 1) := by decide +kernel
theorem dPk_of_15 : decode cPk_of 15 = .ok (.bipush 9, 2) := by decide +kernel
theorem dPk_of_17 : decode cPk_of 17 = .ok (.ishl, 1) := by decide +kernel
theorem dPk_of_18 : decode cPk_of 18 = .ok (.ior, 1) := by decide +kernel
theorem dPk_of_19 : decode cPk_of 19 = .ok (.iload 4, 2) := by decide +kernel
theorem dPk_of_21 : decode cPk_of 21 = .ok (.ior, 1) := by decide +kernel
theorem dPk_of_22 : decode cPk_of 22 = .ok (.ireturn, 1) := by decide +kernel
theorem dPk_bare_0 : decode cPk_bare 0 = .ok (.iload_n 0, 1) := by decide +kernel
theorem dPk_bare_1 : decode cPk_bare 1 = .ok (.iload_n 1, 1) := by decide +kernel
theorem dPk_bare_2 : decode cPk_bare 2 = .ok (.iconst 0, 1) := by decide +kernel
theorem dPk_bare_3 : decode cPk_bare 3 = .ok (.iconst 0, 1) := by decide +kernel
theorem dPk_bare_4 : decode cPk_bare 4 = .ok (.iconst 0, 1) := by decide +kernel
theorem dPk_bare_5 : decode cPk_bare 5 = .ok (.invokestatic 7, 3) := by decide +kernel
theorem dPk_bare_8 : decode cPk_bare 8 = .ok (.ireturn, 1) := by decide +kernel
theorem dPk_kindOf_0 : decode cPk_kindOf 0 = .ok (.iload_n 0, 1) := by decide +kernel
theorem dPk_kindOf_1 : decode cPk_kindOf 1 = .ok (.bipush 17, 2) := by decide +kernel
theorem dPk_kindOf_3 : decode cPk_kindOf 3 = .ok (.ishr, 1) := by decide +kernel
theorem dPk_kindOf_4 : decode cPk_kindOf 4 = .ok (.bipush 15, 2) := by decide +kernel
theorem dPk_kindOf_6 : decode cPk_kindOf 6 = .ok (.iand, 1) := by decide +kernel
theorem dPk_kindOf_7 : decode cPk_kindOf 7 = .ok (.ireturn, 1) := by decide +kernel
theorem dPk_channelOf_0 : decode cPk_channelOf 0 = .ok (.iload_n 0, 1) := by decide +kernel
theorem dPk_channelOf_1 : decode cPk_channelOf 1 = .ok (.bipush 15, 2) := by decide +kernel
theorem dPk_channelOf_3 : decode cPk_channelOf 3 = .ok (.ishr, 1) := by decide +kernel
theorem dPk_channelOf_4 : decode cPk_channelOf 4 = .ok (.iconst 3, 1) := by decide +kernel
theorem dPk_channelOf_5 : decode cPk_channelOf 5 = .ok (.iand, 1) := by decide +kernel
theorem dPk_channelOf_6 : decode cPk_channelOf 6 = .ok (.ireturn, 1) := by decide +kernel
theorem dPk_numberOf_0 : decode cPk_numberOf 0 = .ok (.iload_n 0, 1) := by decide +kernel
theorem dPk_numberOf_1 : decode cPk_numberOf 1 = .ok (.bipush 12, 2) := by decide +kernel
theorem dPk_numberOf_3 : decode cPk_numberOf 3 = .ok (.ishr, 1) := by decide +kernel
theorem dPk_numberOf_4 : decode cPk_numberOf 4 = .ok (.bipush 7, 2) := by decide +kernel
theorem dPk_numberOf_6 : decode cPk_numberOf 6 = .ok (.iand, 1) := by decide +kernel
theorem dPk_numberOf_7 : decode cPk_numberOf 7 = .ok (.ireturn, 1) := by decide +kernel
theorem dPk_acknowledgementOf_0 : decode cPk_acknowledgementOf 0 = .ok (.iload_n 0, 1) := by decide +kernel
theorem dPk_acknowledgementOf_1 : decode cPk_acknowledgementOf 1 = .ok (.bipush 9, 2) := by decide +kernel
theorem dPk_acknowledgementOf_3 : decode cPk_acknowledgementOf 3 = .ok (.ishr, 1) := by decide +kernel
theorem dPk_acknowledgementOf_4 : decode cPk_acknowledgementOf 4 = .ok (.bipush 7, 2) := by decide +kernel
theorem dPk_acknowledgementOf_6 : decode cPk_acknowledgementOf 6 = .ok (.iand, 1) := by decide +kernel
theorem dPk_acknowledgementOf_7 : decode cPk_acknowledgementOf 7 = .ok (.ireturn, 1) := by decide +kernel
theorem dPk_dataOf_0 : decode cPk_dataOf 0 = .ok (.iload_n 0, 1) := by decide +kernel
theorem dPk_dataOf_1 : decode cPk_dataOf 1 = .ok (.sipush 511, 3) := by decide +kernel
theorem dPk_dataOf_4 : decode cPk_dataOf 4 = .ok (.iand, 1) := by decide +kernel
theorem dPk_dataOf_5 : decode cPk_dataOf 5 = .ok (.ireturn, 1) := by decide +kernel
end
section
theorem dFr_of_0 : decode cFr_of 0 = .ok (.iload_n 0, 1) := by decide +kernel
theorem dFr_of_1 : decode cFr_of 1 = .ok (.bipush 27, 2) := by decide +kernel
theorem dFr_of_3 : decode cFr_of 3 = .ok (.ishl, 1) := by decide +kernel
theorem dFr_of_4 : decode cFr_of 4 = .ok (.iload_n 1, 1) := by decide +kernel
theorem dFr_of_5 : decode cFr_of 5 = .ok (.bipush 24, 2) := by decide +kernel
theorem dFr_of_7 : decode cFr_of 7 = .ok (.ishl, 1) := by decide +kernel
theorem dFr_of_8 : decode cFr_of 8 = .ok (.ior, 1) := by decide +kernel
theorem dFr_of_9 : decode cFr_of 9 = .ok (.iload_n 2, 1) := by decide +kernel
theorem dFr_of_10 : decode cFr_of 10 = .ok (.bipush 21, 2) := by decide +kernel
theorem dFr_of_12 : decode cFr_of 12 = .ok (.ishl, 1) := by decide +kernel
theorem dFr_of_13 : decode cFr_of 13 = .ok (.ior, 1) := by decide +kernel
theorem dFr_of_14 : decode cFr_of 14 = .ok (.iload_n 3, 1) := by decide +kernel
theorem dFr_of_15 : decode cFr_of 15 = .ok (.ior, 1) := by decide +kernel
theorem dFr_of_16 : decode cFr_of 16 = .ok (.ireturn, 1) := by decide +kernel
theorem dFr_kindOf_0 : decode cFr_kindOf 0 = .ok (.iload_n 0, 1) := by decide +kernel
theorem dFr_kindOf_1 : decode cFr_kindOf 1 = .ok (.bipush 27, 2) := by decide +kernel
theorem dFr_kindOf_3 : decode cFr_kindOf 3 = .ok (.ishr, 1) := by decide +kernel
theorem dFr_kindOf_4 : decode cFr_kindOf 4 = .ok (.bipush 7, 2) := by decide +kernel
theorem dFr_kindOf_6 : decode cFr_kindOf 6 = .ok (.iand, 1) := by decide +kernel
theorem dFr_kindOf_7 : decode cFr_kindOf 7 = .ok (.ireturn, 1) := by decide +kernel
theorem dFr_numberOf_0 : decode cFr_numberOf 0 = .ok (.iload_n 0, 1) := by decide +kernel
theorem dFr_numberOf_1 : decode cFr_numberOf 1 = .ok (.bipush 24, 2) := by decide +kernel
theorem dFr_numberOf_3 : decode cFr_numberOf 3 = .ok (.ishr, 1) := by decide +kernel
theorem dFr_numberOf_4 : decode cFr_numberOf 4 = .ok (.bipush 7, 2) := by decide +kernel
theorem dFr_numberOf_6 : decode cFr_numberOf 6 = .ok (.iand, 1) := by decide +kernel
theorem dFr_numberOf_7 : decode cFr_numberOf 7 = .ok (.ireturn, 1) := by decide +kernel
theorem dFr_acknowledgementOf_0 : decode cFr_acknowledgementOf 0 = .ok (.iload_n 0, 1) := by decide +kernel
theorem dFr_acknowledgementOf_1 : decode cFr_acknowledgementOf 1 = .ok (.bipush 21, 2) := by decide +kernel
theorem dFr_acknowledgementOf_3 : decode cFr_acknowledgementOf 3 = .ok (.ishr, 1) := by decide +kernel
theorem dFr_acknowledgementOf_4 : decode cFr_acknowledgementOf 4 = .ok (.bipush 7, 2) := by decide +kernel
theorem dFr_acknowledgementOf_6 : decode cFr_acknowledgementOf 6 = .ok (.iand, 1) := by decide +kernel
theorem dFr_acknowledgementOf_7 : decode cFr_acknowledgementOf 7 = .ok (.ireturn, 1) := by decide +kernel
theorem dFr_packetOf_0 : decode cFr_packetOf 0 = .ok (.iload_n 0, 1) := by decide +kernel
theorem dFr_packetOf_1 : decode cFr_packetOf 1 = .ok (.ldc 7, 2) := by decide +kernel
theorem dFr_packetOf_3 : decode cFr_packetOf 3 = .ok (.iand, 1) := by decide +kernel
theorem dFr_packetOf_4 : decode cFr_packetOf 4 = .ok (.ireturn, 1) := by decide +kernel
end
section
theorem dCh_init_0 : decode cCh_init 0 = .ok (.aload_n 0, 1) := by decide +kernel
theorem dCh_init_1 : decode cCh_init 1 = .ok (.invokespecial 3, 3) := by decide +kernel
theorem dCh_init_4 : decode cCh_init 4 = .ok (.aload_n 0, 1) := by decide +kernel
theorem dCh_init_5 : decode cCh_init 5 = .ok (.iload_n 1, 1) := by decide +kernel
theorem dCh_init_6 : decode cCh_init 6 = .ok (.putfield 9, 3) := by decide +kernel
theorem dCh_init_9 : decode cCh_init 9 = .ok (.aload_n 0, 1) := by decide +kernel
theorem dCh_init_10 : decode cCh_init 10 = .ok (.new 15, 3) := by decide +kernel
theorem dCh_init_13 : decode cCh_init 13 = .ok (.dup, 1) := by decide +kernel
theorem dCh_init_14 : decode cCh_init 14 = .ok (.iconst 2, 1) := by decide +kernel
theorem dCh_init_15 : decode cCh_init 15 = .ok (.invokespecial 17, 3) := by decide +kernel
theorem dCh_init_18 : decode cCh_init 18 = .ok (.putfield 20, 3) := by decide +kernel
theorem dCh_init_21 : decode cCh_init 21 = .ok (.aload_n 0, 1) := by decide +kernel
theorem dCh_init_22 : decode cCh_init 22 = .ok (.iconst 0, 1) := by decide +kernel
theorem dCh_init_23 : decode cCh_init 23 = .ok (.putfield 24, 3) := by decide +kernel
theorem dCh_init_26 : decode cCh_init 26 = .ok (.return_, 1) := by decide +kernel
theorem dCh_renewAs_0 : decode cCh_renewAs 0 = .ok (.aload_n 0, 1) := by decide +kernel
theorem dCh_renewAs_1 : decode cCh_renewAs 1 = .ok (.iload_n 1, 1) := by decide +kernel
theorem dCh_renewAs_2 : decode cCh_renewAs 2 = .ok (.putfield 24, 3) := by decide +kernel
theorem dCh_renewAs_5 : decode cCh_renewAs 5 = .ok (.aload_n 0, 1) := by decide +kernel
theorem dCh_renewAs_6 : decode cCh_renewAs 6 = .ok (.iconst 0, 1) := by decide +kernel
theorem dCh_renewAs_7 : decode cCh_renewAs 7 = .ok (.putfield 28, 3) := by decide +kernel
theorem dCh_renewAs_10 : decode cCh_renewAs 10 = .ok (.aload_n 0, 1) := by decide +kernel
theorem dCh_renewAs_11 : decode cCh_renewAs 11 = .ok (.iconst 0, 1) := by decide +kernel
theorem dCh_renewAs_12 : decode cCh_renewAs 12 = .ok (.putfield 31, 3) := by decide +kernel
theorem dCh_renewAs_15 : decode cCh_renewAs 15 = .ok (.aload_n 0, 1) := by decide +kernel
theorem dCh_renewAs_16 : decode cCh_renewAs 16 = .ok (.iconst 0, 1) := by decide +kernel
theorem dCh_renewAs_17 : decode cCh_renewAs 17 = .ok (.putfield 34, 3) := by decide +kernel
theorem dCh_renewAs_20 : decode cCh_renewAs 20 = .ok (.aload_n 0, 1) := by decide +kernel
theorem dCh_renewAs_21 : decode cCh_renewAs 21 = .ok (.iconst 0, 1) := by decide +kernel
theorem dCh_renewAs_22 : decode cCh_renewAs 22 = .ok (.putfield 37, 3) := by decide +kernel
theorem dCh_renewAs_25 : decode cCh_renewAs 25 = .ok (.aload_n 0, 1) := by decide +kernel
theorem dCh_renewAs_26 : decode cCh_renewAs 26 = .ok (.getfield 20, 3) := by decide +kernel
theorem dCh_renewAs_29 : decode cCh_renewAs 29 = .ok (.iconst 0, 1) := by decide +kernel
theorem dCh_renewAs_30 : decode cCh_renewAs 30 = .ok (.putfield 40, 3) := by decide +kernel
theorem dCh_renewAs_33 : decode cCh_renewAs 33 = .ok (.return_, 1) := by decide +kernel
theorem dCh_takeData_0 : decode cCh_takeData 0 = .ok (.aload_n 0, 1) := by decide +kernel
theorem dCh_takeData_1 : decode cCh_takeData 1 = .ok (.getfield 20, 3) := by decide +kernel
theorem dCh_takeData_4 : decode cCh_takeData 4 = .ok (.iconst 0, 1) := by decide +kernel
theorem dCh_takeData_5 : decode cCh_takeData 5 = .ok (.invokevirtual 43, 3) := by decide +kernel
theorem dCh_takeData_8 : decode cCh_takeData 8 = .ok (.istore_n 1, 1) := by decide +kernel
theorem dCh_takeData_9 : decode cCh_takeData 9 = .ok (.aload_n 0, 1) := by decide +kernel
theorem dCh_takeData_10 : decode cCh_takeData 10 = .ok (.getfield 20, 3) := by decide +kernel
theorem dCh_takeData_13 : decode cCh_takeData 13 = .ok (.iconst 1, 1) := by decide +kernel
theorem dCh_takeData_14 : decode cCh_takeData 14 = .ok (.invokevirtual 47, 3) := by decide +kernel
theorem dCh_takeData_17 : decode cCh_takeData 17 = .ok (.aload_n 0, 1) := by decide +kernel
theorem dCh_takeData_18 : decode cCh_takeData 18 = .ok (.aload_n 0, 1) := by decide +kernel
theorem dCh_takeData_19 : decode cCh_takeData 19 = .ok (.getfield 37, 3) := by decide +kernel
theorem dCh_takeData_22 : decode cCh_takeData 22 = .ok (.invokestatic 50, 3) := by decide +kernel
theorem dCh_takeData_25 : decode cCh_takeData 25 = .ok (.putfield 37, 3) := by decide +kernel
theorem dCh_takeData_28 : decode cCh_takeData 28 = .ok (.iload_n 1, 1) := by decide +kernel
theorem dCh_takeData_29 : decode cCh_takeData 29 = .ok (.ireturn, 1) := by decide +kernel
theorem dCh_answerTo_0 : decode cCh_answerTo 0 = .ok (.iload_n 1, 1) := by decide +kernel
theorem dCh_answerTo_1 : decode cCh_answerTo 1 = .ok (.invokestatic 53, 3) := by decide +kernel
theorem dCh_answerTo_4 : decode cCh_answerTo 4 = .ok (.tableswitch 90 1 8 #[48, 53, 60, 65, 72, 72, 78, 83], 48) := by decide +kernel
theorem dCh_answerTo_52 : decode cCh_answerTo 52 = .ok (.aload_n 0, 1) := by decide +kernel
theorem dCh_answerTo_53 : decode cCh_answerTo 53 = .ok (.invokevirtual 58, 3) := by decide +kernel
theorem dCh_answerTo_56 : decode cCh_answerTo 56 = .ok (.ireturn, 1) := by decide +kernel
theorem dCh_answerTo_57 : decode cCh_answerTo 57 = .ok (.aload_n 0, 1) := by decide +kernel
theorem dCh_answerTo_58 : decode cCh_answerTo 58 = .ok (.iconst 1, 1) := by decide +kernel
theorem dCh_answerTo_59 : decode cCh_answerTo 59 = .ok (.iconst 3, 1) := by decide +kernel
theorem dCh_answerTo_60 : decode cCh_answerTo 60 = .ok (.invokevirtual 62, 3) := by decide +kernel
theorem dCh_answerTo_63 : decode cCh_answerTo 63 = .ok (.ireturn, 1) := by decide +kernel
theorem dCh_answerTo_64 : decode cCh_answerTo 64 = .ok (.aload_n 0, 1) := by decide +kernel
theorem dCh_answerTo_65 : decode cCh_answerTo 65 = .ok (.invokevirtual 66, 3) := by decide +kernel
theorem dCh_answerTo_68 : decode cCh_answerTo 68 = .ok (.ireturn, 1) := by decide +kernel
theorem dCh_answerTo_69 : decode cCh_answerTo 69 = .ok (.aload_n 0, 1) := by decide +kernel
theorem dCh_answerTo_70 : decode cCh_answerTo 70 = .ok (.iconst 4, 1) := by decide +kernel
theorem dCh_answerTo_71 : decode cCh_answerTo 71 = .ok (.iconst 0, 1) := by decide +kernel
theorem dCh_answerTo_72 : decode cCh_answerTo 72 = .ok (.invokevirtual 62, 3) := by decide +kernel
theorem dCh_answerTo_75 : decode cCh_answerTo 75 = .ok (.ireturn, 1) := by decide +kernel
theorem dCh_answerTo_76 : decode cCh_answerTo 76 = .ok (.aload_n 0, 1) := by decide +kernel
theorem dCh_answerTo_77 : decode cCh_answerTo 77 = .ok (.iload_n 1, 1) := by decide +kernel
theorem dCh_answerTo_78 : decode cCh_answerTo 78 = .ok (.invokevirtual 69, 3) := by decide +kernel
theorem dCh_answerTo_81 : decode cCh_answerTo 81 = .ok (.ireturn, 1) := by decide +kernel
theorem dCh_answerTo_82 : decode cCh_answerTo 82 = .ok (.aload_n 0, 1) := by decide +kernel
theorem dCh_answerTo_83 : decode cCh_answerTo 83 = .ok (.invokevirtual 72, 3) := by decide +kernel
theorem dCh_answerTo_86 : decode cCh_answerTo 86 = .ok (.ireturn, 1) := by decide +kernel
theorem dCh_answerTo_87 : decode cCh_answerTo 87 = .ok (.aload_n 0, 1) := by decide +kernel
theorem dCh_answerTo_88 : decode cCh_answerTo 88 = .ok (.iconst 5, 1) := by decide +kernel
theorem dCh_answerTo_89 : decode cCh_answerTo 89 = .ok (.iconst 3, 1) := by decide +kernel
theorem dCh_answerTo_90 : decode cCh_answerTo 90 = .ok (.invokevirtual 62, 3) := by decide +kernel
theorem dCh_answerTo_93 : decode cCh_answerTo 93 = .ok (.ireturn, 1) := by decide +kernel
theorem dCh_answerTo_94 : decode cCh_answerTo 94 = .ok (.iconst 0, 1) := by decide +kernel
theorem dCh_answerTo_95 : decode cCh_answerTo 95 = .ok (.ireturn, 1) := by decide +kernel
theorem dCh_renewFrom_0 : decode cCh_renewFrom 0 = .ok (.aload_n 0, 1) := by decide +kernel
theorem dCh_renewFrom_1 : decode cCh_renewFrom 1 = .ok (.getfield 24, 3) := by decide +kernel
theorem dCh_renewFrom_4 : decode cCh_renewFrom 4 = .ok (.iload_n 1, 1) := by decide +kernel
theorem dCh_renewFrom_5 : decode cCh_renewFrom 5 = .ok (.if_icmp .ne 8, 3) := by decide +kernel
theorem dCh_renewFrom_8 : decode cCh_renewFrom 8 = .ok (.aload_n 0, 1) := by decide +kernel
theorem dCh_renewFrom_9 : decode cCh_renewFrom 9 = .ok (.iload_n 2, 1) := by decide +kernel
theorem dCh_renewFrom_10 : decode cCh_renewFrom 10 = .ok (.invokevirtual 75, 3) := by decide +kernel
theorem dCh_renewFrom_13 : decode cCh_renewFrom 13 = .ok (.iconst 0, 1) := by decide +kernel
theorem dCh_renewFrom_14 : decode cCh_renewFrom 14 = .ok (.ireturn, 1) := by decide +kernel
theorem dCh_answerToCall_0 : decode cCh_answerToCall 0 = .ok (.aload_n 0, 1) := by decide +kernel
theorem dCh_answerToCall_1 : decode cCh_answerToCall 1 = .ok (.getfield 24, 3) := by decide +kernel
theorem dCh_answerToCall_4 : decode cCh_answerToCall 4 = .ok (.ifCond .eq 18, 3) := by decide +kernel
theorem dCh_answerToCall_7 : decode cCh_answerToCall 7 = .ok (.aload_n 0, 1) := by decide +kernel
theorem dCh_answerToCall_8 : decode cCh_answerToCall 8 = .ok (.getfield 24, 3) := by decide +kernel
theorem dCh_answerToCall_11 : decode cCh_answerToCall 11 = .ok (.iconst 1, 1) := by decide +kernel
theorem dCh_answerToCall_12 : decode cCh_answerToCall 12 = .ok (.if_icmp .ne 15, 3) := by decide +kernel
theorem dCh_answerToCall_15 : decode cCh_answerToCall 15 = .ok (.aload_n 0, 1) := by decide +kernel
theorem dCh_answerToCall_16 : decode cCh_answerToCall 16 = .ok (.getfield 9, 3) := by decide +kernel
theorem dCh_answerToCall_19 : decode cCh_answerToCall 19 = .ok (.ifCond .eq 8, 3) := by decide +kernel
theorem dCh_answerToCall_22 : decode cCh_answerToCall 22 = .ok (.aload_n 0, 1) := by decide +kernel
theorem dCh_answerToCall_23 : decode cCh_answerToCall 23 = .ok (.iconst 2, 1) := by decide +kernel
theorem dCh_answerToCall_24 : decode cCh_answerToCall 24 = .ok (.invokevirtual 75, 3) := by decide +kernel
theorem dCh_answerToCall_27 : decode cCh_answerToCall 27 = .ok (.iconst 0, 1) := by decide +kernel
theorem dCh_answerToCall_28 : decode cCh_answerToCall 28 = .ok (.ireturn, 1) := by decide +kernel
theorem dCh_answerToClear_0 : decode cCh_answerToClear 0 = .ok (.aload_n 0, 1) := by decide +kernel
theorem dCh_answerToClear_1 : decode cCh_answerToClear 1 = .ok (.getfield 24, 3) := by decide +kernel
theorem dCh_answerToClear_4 : decode cCh_answerToClear 4 = .ok (.ifCond .eq 15, 3) := by decide +kernel
theorem dCh_answerToClear_7 : decode cCh_answerToClear 7 = .ok (.aload_n 0, 1) := by decide +kernel
theorem dCh_answerToClear_8 : decode cCh_answerToClear 8 = .ok (.getfield 24, 3) := by decide +kernel
theorem dCh_answerToClear_11 : decode cCh_answerToClear 11 = .ok (.iconst 4, 1) := by decide +kernel
theorem dCh_answerToClear_12 : decode cCh_answerToClear 12 = .ok (.if_icmp .eq 7, 3) := by decide +kernel
theorem dCh_answerToClear_15 : decode cCh_answerToClear 15 = .ok (.iconst 1, 1) := by decide +kernel
theorem dCh_answerToClear_16 : decode cCh_answerToClear 16 = .ok (.goto 4, 3) := by decide +kernel
theorem dCh_answerToClear_19 : decode cCh_answerToClear 19 = .ok (.iconst 0, 1) := by decide +kernel
theorem dCh_answerToClear_20 : decode cCh_answerToClear 20 = .ok (.istore_n 1, 1) := by decide +kernel
theorem dCh_answerToClear_21 : decode cCh_answerToClear 21 = .ok (.aload_n 0, 1) := by decide +kernel
theorem dCh_answerToClear_22 : decode cCh_answerToClear 22 = .ok (.iconst 0, 1) := by decide +kernel
theorem dCh_answerToClear_23 : decode cCh_answerToClear 23 = .ok (.invokevirtual 75, 3) := by decide +kernel
theorem dCh_answerToClear_26 : decode cCh_answerToClear 26 = .ok (.iload_n 1, 1) := by decide +kernel
theorem dCh_answerToClear_27 : decode cCh_answerToClear 27 = .ok (.ifCond .eq 7, 3) := by decide +kernel
theorem dCh_answerToClear_30 : decode cCh_answerToClear 30 = .ok (.iconst 4, 1) := by decide +kernel
theorem dCh_answerToClear_31 : decode cCh_answerToClear 31 = .ok (.goto 4, 3) := by decide +kernel
theorem dCh_answerToClear_34 : decode cCh_answerToClear 34 = .ok (.iconst 0, 1) := by decide +kernel
theorem dCh_answerToClear_35 : decode cCh_answerToClear 35 = .ok (.ireturn, 1) := by decide +kernel
theorem dCh_answerToReset_0 : decode cCh_answerToReset 0 = .ok (.aload_n 0, 1) := by decide +kernel
theorem dCh_answerToReset_1 : decode cCh_answerToReset 1 = .ok (.getfield 24, 3) := by decide +kernel
theorem dCh_answerToReset_4 : decode cCh_answerToReset 4 = .ok (.iconst 3, 1) := by decide +kernel
theorem dCh_answerToReset_5 : decode cCh_answerToReset 5 = .ok (.if_icmp .ne 7, 3) := by decide +kernel
theorem dCh_answerToReset_8 : decode cCh_answerToReset 8 = .ok (.iconst 1, 1) := by decide +kernel
theorem dCh_answerToReset_9 : decode cCh_answerToReset 9 = .ok (.goto 4, 3) := by decide +kernel
theorem dCh_answerToReset_12 : decode cCh_answerToReset 12 = .ok (.iconst 0, 1) := by decide +kernel
theorem dCh_answerToReset_13 : decode cCh_answerToReset 13 = .ok (.istore_n 1, 1) := by decide +kernel
theorem dCh_answerToReset_14 : decode cCh_answerToReset 14 = .ok (.iload_n 1, 1) := by decide +kernel
theorem dCh_answerToReset_15 : decode cCh_answerToReset 15 = .ok (.ifCond .ne 11, 3) := by decide +kernel
theorem dCh_answerToReset_18 : decode cCh_answerToReset 18 = .ok (.aload_n 0, 1) := by decide +kernel
theorem dCh_answerToReset_19 : decode cCh_answerToReset 19 = .ok (.getfield 24, 3) := by decide +kernel
theorem dCh_answerToReset_22 : decode cCh_answerToReset 22 = .ok (.iconst 5, 1) := by decide +kernel
theorem dCh_answerToReset_23 : decode cCh_answerToReset 23 = .ok (.if_icmp .ne 8, 3) := by decide +kernel
theorem dCh_answerToReset_26 : decode cCh_answerToReset 26 = .ok (.aload_n 0, 1) := by decide +kernel
theorem dCh_answerToReset_27 : decode cCh_answerToReset 27 = .ok (.iconst 3, 1) := by decide +kernel
theorem dCh_answerToReset_28 : decode cCh_answerToReset 28 = .ok (.invokevirtual 75, 3) := by decide +kernel
theorem dCh_answerToReset_31 : decode cCh_answerToReset 31 = .ok (.iload_n 1, 1) := by decide +kernel
theorem dCh_answerToReset_32 : decode cCh_answerToReset 32 = .ok (.ifCond .eq 8, 3) := by decide +kernel
theorem dCh_answerToReset_35 : decode cCh_answerToReset 35 = .ok (.bipush 8, 2) := by decide +kernel
theorem dCh_answerToReset_37 : decode cCh_answerToReset 37 = .ok (.goto 4, 3) := by decide +kernel
theorem dCh_answerToReset_40 : decode cCh_answerToReset 40 = .ok (.iconst 0, 1) := by decide +kernel
theorem dCh_answerToReset_41 : decode cCh_answerToReset 41 = .ok (.ireturn, 1) := by decide +kernel
theorem dCh_answerToFlow_0 : decode cCh_answerToFlow 0 = .ok (.aload_n 0, 1) := by decide +kernel
theorem dCh_answerToFlow_1 : decode cCh_answerToFlow 1 = .ok (.getfield 24, 3) := by decide +kernel
theorem dCh_answerToFlow_4 : decode cCh_answerToFlow 4 = .ok (.iconst 3, 1) := by decide +kernel
theorem dCh_answerToFlow_5 : decode cCh_answerToFlow 5 = .ok (.if_icmp .eq 5, 3) := by decide +kernel
theorem dCh_answerToFlow_8 : decode cCh_answerToFlow 8 = .ok (.iconst 0, 1) := by decide +kernel
theorem dCh_answerToFlow_9 : decode cCh_answerToFlow 9 = .ok (.ireturn, 1) := by decide +kernel
theorem dCh_answerToFlow_10 : decode cCh_answerToFlow 10 = .ok (.iload_n 1, 1) := by decide +kernel
theorem dCh_answerToFlow_11 : decode cCh_answerToFlow 11 = .ok (.invokestatic 53, 3) := by decide +kernel
theorem dCh_answerToFlow_14 : decode cCh_answerToFlow 14 = .ok (.iconst 5, 1) := by decide +kernel
theorem dCh_answerToFlow_15 : decode cCh_answerToFlow 15 = .ok (.if_icmp .ne 7, 3) := by decide +kernel
theorem dCh_answerToFlow_18 : decode cCh_answerToFlow 18 = .ok (.iconst 1, 1) := by decide +kernel
theorem dCh_answerToFlow_19 : decode cCh_answerToFlow 19 = .ok (.goto 4, 3) := by decide +kernel
theorem dCh_answerToFlow_22 : decode cCh_answerToFlow 22 = .ok (.iconst 0, 1) := by decide +kernel
theorem dCh_answerToFlow_23 : decode cCh_answerToFlow 23 = .ok (.istore_n 2, 1) := by decide +kernel
theorem dCh_answerToFlow_24 : decode cCh_answerToFlow 24 = .ok (.iload_n 1, 1) := by decide +kernel
theorem dCh_answerToFlow_25 : decode cCh_answerToFlow 25 = .ok (.invokestatic 78, 3) := by decide +kernel
theorem dCh_answerToFlow_28 : decode cCh_answerToFlow 28 = .ok (.istore_n 3, 1) := by decide +kernel
theorem dCh_answerToFlow_29 : decode cCh_answerToFlow 29 = .ok (.aload_n 0, 1) := by decide +kernel
theorem dCh_answerToFlow_30 : decode cCh_answerToFlow 30 = .ok (.getfield 31, 3) := by decide +kernel
theorem dCh_answerToFlow_33 : decode cCh_answerToFlow 33 = .ok (.iload_n 3, 1) := by decide +kernel
theorem dCh_answerToFlow_34 : decode cCh_answerToFlow 34 = .ok (.invokestatic 81, 3) := by decide +kernel
theorem dCh_answerToFlow_37 : decode cCh_answerToFlow 37 = .ok (.aload_n 0, 1) := by decide +kernel
theorem dCh_answerToFlow_38 : decode cCh_answerToFlow 38 = .ok (.getfield 31, 3) := by decide +kernel
theorem dCh_answerToFlow_41 : decode cCh_answerToFlow 41 = .ok (.aload_n 0, 1) := by decide +kernel
theorem dCh_answerToFlow_42 : decode cCh_answerToFlow 42 = .ok (.getfield 28, 3) := by decide +kernel
theorem dCh_answerToFlow_45 : decode cCh_answerToFlow 45 = .ok (.invokestatic 81, 3) := by decide +kernel
theorem dCh_answerToFlow_48 : decode cCh_answerToFlow 48 = .ok (.if_icmp .le 7, 3) := by decide +kernel
theorem dCh_answerToFlow_51 : decode cCh_answerToFlow 51 = .ok (.iconst 1, 1) := by decide +kernel
theorem dCh_answerToFlow_52 : decode cCh_answerToFlow 52 = .ok (.goto 4, 3) := by decide +kernel
theorem dCh_answerToFlow_55 : decode cCh_answerToFlow 55 = .ok (.iconst 0, 1) := by decide +kernel
theorem dCh_answerToFlow_56 : decode cCh_answerToFlow 56 = .ok (.istore 4, 2) := by decide +kernel
theorem dCh_answerToFlow_58 : decode cCh_answerToFlow 58 = .ok (.iload_n 2, 1) := by decide +kernel
theorem dCh_answerToFlow_59 : decode cCh_answerToFlow 59 = .ok (.ifCond .eq 37, 3) := by decide +kernel
theorem dCh_answerToFlow_62 : decode cCh_answerToFlow 62 = .ok (.iload 4, 2) := by decide +kernel
theorem dCh_answerToFlow_64 : decode cCh_answerToFlow 64 = .ok (.ifCond .ne 25, 3) := by decide +kernel
theorem dCh_answerToFlow_67 : decode cCh_answerToFlow 67 = .ok (.iload_n 1, 1) := by decide +kernel
theorem dCh_answerToFlow_68 : decode cCh_answerToFlow 68 = .ok (.invokestatic 84, 3) := by decide +kernel
theorem dCh_answerToFlow_71 : decode cCh_answerToFlow 71 = .ok (.aload_n 0, 1) := by decide +kernel
theorem dCh_answerToFlow_72 : decode cCh_answerToFlow 72 = .ok (.getfield 34, 3) := by decide +kernel
theorem dCh_answerToFlow_75 : decode cCh_answerToFlow 75 = .ok (.if_icmp .ne 14, 3) := by decide +kernel
theorem dCh_answerToFlow_78 : decode cCh_answerToFlow 78 = .ok (.aload_n 0, 1) := by decide +kernel
theorem dCh_answerToFlow_79 : decode cCh_answerToFlow 79 = .ok (.getfield 20, 3) := by decide +kernel
theorem dCh_answerToFlow_82 : decode cCh_answerToFlow 82 = .ok (.getfield 40, 3) := by decide +kernel
theorem dCh_answerToFlow_85 : decode cCh_answerToFlow 85 = .ok (.iconst 2, 1) := by decide +kernel
theorem dCh_answerToFlow_86 : decode cCh_answerToFlow 86 = .ok (.if_icmp .lt 7, 3) := by decide +kernel
theorem dCh_answerToFlow_89 : decode cCh_answerToFlow 89 = .ok (.iconst 1, 1) := by decide +kernel
theorem dCh_answerToFlow_90 : decode cCh_answerToFlow 90 = .ok (.goto 4, 3) := by decide +kernel
theorem dCh_answerToFlow_93 : decode cCh_answerToFlow 93 = .ok (.iconst 0, 1) := by decide +kernel
theorem dCh_answerToFlow_94 : decode cCh_answerToFlow 94 = .ok (.istore 4, 2) := by decide +kernel
theorem dCh_answerToFlow_96 : decode cCh_answerToFlow 96 = .ok (.iload 4, 2) := by decide +kernel
theorem dCh_answerToFlow_98 : decode cCh_answerToFlow 98 = .ok (.ifCond .eq 11, 3) := by decide +kernel
theorem dCh_answerToFlow_101 : decode cCh_answerToFlow 101 = .ok (.aload_n 0, 1) := by decide +kernel
theorem dCh_answerToFlow_102 : decode cCh_answerToFlow 102 = .ok (.iconst 5, 1) := by decide +kernel
theorem dCh_answerToFlow_103 : decode cCh_answerToFlow 103 = .ok (.invokevirtual 75, 3) := by decide +kernel
theorem dCh_answerToFlow_106 : decode cCh_answerToFlow 106 = .ok (.bipush 7, 2) := by decide +kernel
theorem dCh_answerToFlow_108 : decode cCh_answerToFlow 108 = .ok (.ireturn, 1) := by decide +kernel
theorem dCh_answerToFlow_109 : decode cCh_answerToFlow 109 = .ok (.aload_n 0, 1) := by decide +kernel
theorem dCh_answerToFlow_110 : decode cCh_answerToFlow 110 = .ok (.iload_n 3, 1) := by decide +kernel
theorem dCh_answerToFlow_111 : decode cCh_answerToFlow 111 = .ok (.putfield 31, 3) := by decide +kernel
theorem dCh_answerToFlow_114 : decode cCh_answerToFlow 114 = .ok (.iload_n 2, 1) := by decide +kernel
theorem dCh_answerToFlow_115 : decode cCh_answerToFlow 115 = .ok (.ifCond .eq 25, 3) := by decide +kernel
theorem dCh_answerToFlow_118 : decode cCh_answerToFlow 118 = .ok (.aload_n 0, 1) := by decide +kernel
theorem dCh_answerToFlow_119 : decode cCh_answerToFlow 119 = .ok (.getfield 20, 3) := by decide +kernel
theorem dCh_answerToFlow_122 : decode cCh_answerToFlow 122 = .ok (.iload_n 1, 1) := by decide +kernel
theorem dCh_answerToFlow_123 : decode cCh_answerToFlow 123 = .ok (.invokestatic 87, 3) := by decide +kernel
theorem dCh_answerToFlow_126 : decode cCh_answerToFlow 126 = .ok (.invokevirtual 90, 3) := by decide +kernel
theorem dCh_answerToFlow_129 : decode cCh_answerToFlow 129 = .ok (.aload_n 0, 1) := by decide +kernel
theorem dCh_answerToFlow_130 : decode cCh_answerToFlow 130 = .ok (.aload_n 0, 1) := by decide +kernel
theorem dCh_answerToFlow_131 : decode cCh_answerToFlow 131 = .ok (.getfield 34, 3) := by decide +kernel
theorem dCh_answerToFlow_134 : decode cCh_answerToFlow 134 = .ok (.invokestatic 50, 3) := by decide +kernel
theorem dCh_answerToFlow_137 : decode cCh_answerToFlow 137 = .ok (.putfield 34, 3) := by decide +kernel
theorem dCh_answerToFlow_140 : decode cCh_answerToFlow 140 = .ok (.iconst 0, 1) := by decide +kernel
theorem dCh_answerToFlow_141 : decode cCh_answerToFlow 141 = .ok (.ireturn, 1) := by decide +kernel
end
section
theorem dSt_init_0 : decode cSt_init 0 = .ok (.aload_n 0, 1) := by decide +kernel
theorem dSt_init_1 : decode cSt_init 1 = .ok (.invokespecial 3, 3) := by decide +kernel
theorem dSt_init_4 : decode cSt_init 4 = .ok (.aload_n 0, 1) := by decide +kernel
theorem dSt_init_5 : decode cSt_init 5 = .ok (.aload_n 2, 1) := by decide +kernel
theorem dSt_init_6 : decode cSt_init 6 = .ok (.putfield 9, 3) := by decide +kernel
theorem dSt_init_9 : decode cSt_init 9 = .ok (.aload_n 0, 1) := by decide +kernel
theorem dSt_init_10 : decode cSt_init 10 = .ok (.aload_n 3, 1) := by decide +kernel
theorem dSt_init_11 : decode cSt_init 11 = .ok (.putfield 15, 3) := by decide +kernel
theorem dSt_init_14 : decode cSt_init 14 = .ok (.aload_n 0, 1) := by decide +kernel
theorem dSt_init_15 : decode cSt_init 15 = .ok (.new 18, 3) := by decide +kernel
theorem dSt_init_18 : decode cSt_init 18 = .ok (.dup, 1) := by decide +kernel
theorem dSt_init_19 : decode cSt_init 19 = .ok (.bipush 16, 2) := by decide +kernel
theorem dSt_init_21 : decode cSt_init 21 = .ok (.invokespecial 20, 3) := by decide +kernel
theorem dSt_init_24 : decode cSt_init 24 = .ok (.putfield 23, 3) := by decide +kernel
theorem dSt_init_27 : decode cSt_init 27 = .ok (.aload_n 0, 1) := by decide +kernel
theorem dSt_init_28 : decode cSt_init 28 = .ok (.iconst 3, 1) := by decide +kernel
theorem dSt_init_29 : decode cSt_init 29 = .ok (.anewarray 26, 3) := by decide +kernel
theorem dSt_init_32 : decode cSt_init 32 = .ok (.putfield 28, 3) := by decide +kernel
theorem dSt_init_35 : decode cSt_init 35 = .ok (.iconst 0, 1) := by decide +kernel
theorem dSt_init_36 : decode cSt_init 36 = .ok (.istore 4, 2) := by decide +kernel
theorem dSt_init_38 : decode cSt_init 38 = .ok (.iload 4, 2) := by decide +kernel
theorem dSt_init_40 : decode cSt_init 40 = .ok (.iconst 3, 1) := by decide +kernel
theorem dSt_init_41 : decode cSt_init 41 = .ok (.if_icmp .ge 24, 3) := by decide +kernel
theorem dSt_init_44 : decode cSt_init 44 = .ok (.aload_n 0, 1) := by decide +kernel
theorem dSt_init_45 : decode cSt_init 45 = .ok (.getfield 28, 3) := by decide +kernel
theorem dSt_init_48 : decode cSt_init 48 = .ok (.iload 4, 2) := by decide +kernel
theorem dSt_init_50 : decode cSt_init 50 = .ok (.new 26, 3) := by decide +kernel
theorem dSt_init_53 : decode cSt_init 53 = .ok (.dup, 1) := by decide +kernel
theorem dSt_init_54 : decode cSt_init 54 = .ok (.iload_n 1, 1) := by decide +kernel
theorem dSt_init_55 : decode cSt_init 55 = .ok (.invokespecial 32, 3) := by decide +kernel
theorem dSt_init_58 : decode cSt_init 58 = .ok (.aastore, 1) := by decide +kernel
theorem dSt_init_59 : decode cSt_init 59 = .ok (.iinc 4 1, 3) := by decide +kernel
theorem dSt_init_62 : decode cSt_init 62 = .ok (.goto (-24), 3) := by decide +kernel
theorem dSt_init_65 : decode cSt_init 65 = .ok (.aload_n 0, 1) := by decide +kernel
theorem dSt_init_66 : decode cSt_init 66 = .ok (.iconst 0, 1) := by decide +kernel
theorem dSt_init_67 : decode cSt_init 67 = .ok (.putfield 35, 3) := by decide +kernel
theorem dSt_init_70 : decode cSt_init 70 = .ok (.return_, 1) := by decide +kernel
theorem dSt_setUp_0 : decode cSt_setUp 0 = .ok (.aload_n 0, 1) := by decide +kernel
theorem dSt_setUp_1 : decode cSt_setUp 1 = .ok (.iconst 1, 1) := by decide +kernel
theorem dSt_setUp_2 : decode cSt_setUp 2 = .ok (.invokevirtual 39, 3) := by decide +kernel
theorem dSt_setUp_5 : decode cSt_setUp 5 = .ok (.aload_n 0, 1) := by decide +kernel
theorem dSt_setUp_6 : decode cSt_setUp 6 = .ok (.iconst 1, 1) := by decide +kernel
theorem dSt_setUp_7 : decode cSt_setUp 7 = .ok (.invokevirtual 44, 3) := by decide +kernel
theorem dSt_setUp_10 : decode cSt_setUp 10 = .ok (.return_, 1) := by decide +kernel
theorem dSt_waitsForAnswer_0 : decode cSt_waitsForAnswer 0 = .ok (.aload_n 0, 1) := by decide +kernel
theorem dSt_waitsForAnswer_1 : decode cSt_waitsForAnswer 1 = .ok (.getfield 35, 3) := by decide +kernel
theorem dSt_waitsForAnswer_4 : decode cSt_waitsForAnswer 4 = .ok (.iconst 1, 1) := by decide +kernel
theorem dSt_waitsForAnswer_5 : decode cSt_waitsForAnswer 5 = .ok (.if_icmp .eq 18, 3) := by decide +kernel
theorem dSt_waitsForAnswer_8 : decode cSt_waitsForAnswer 8 = .ok (.aload_n 0, 1) := by decide +kernel
theorem dSt_waitsForAnswer_9 : decode cSt_waitsForAnswer 9 = .ok (.getfield 35, 3) := by decide +kernel
theorem dSt_waitsForAnswer_12 : decode cSt_waitsForAnswer 12 = .ok (.iconst 2, 1) := by decide +kernel
theorem dSt_waitsForAnswer_13 : decode cSt_waitsForAnswer 13 = .ok (.if_icmp .ne 14, 3) := by decide +kernel
theorem dSt_waitsForAnswer_16 : decode cSt_waitsForAnswer 16 = .ok (.aload_n 0, 1) := by decide +kernel
theorem dSt_waitsForAnswer_17 : decode cSt_waitsForAnswer 17 = .ok (.invokevirtual 47, 3) := by decide +kernel
theorem dSt_waitsForAnswer_20 : decode cSt_waitsForAnswer 20 = .ok (.ifCond .le 7, 3) := by decide +kernel
theorem dSt_waitsForAnswer_23 : decode cSt_waitsForAnswer 23 = .ok (.iconst 1, 1) := by decide +kernel
theorem dSt_waitsForAnswer_24 : decode cSt_waitsForAnswer 24 = .ok (.goto 4, 3) := by decide +kernel
theorem dSt_waitsForAnswer_27 : decode cSt_waitsForAnswer 27 = .ok (.iconst 0, 1) := by decide +kernel
theorem dSt_waitsForAnswer_28 : decode cSt_waitsForAnswer 28 = .ok (.ireturn, 1) := by decide +kernel
theorem dSt_takesCalls_0 : decode cSt_takesCalls 0 = .ok (.aload_n 0, 1) := by decide +kernel
theorem dSt_takesCalls_1 : decode cSt_takesCalls 1 = .ok (.getfield 35, 3) := by decide +kernel
theorem dSt_takesCalls_4 : decode cSt_takesCalls 4 = .ok (.iconst 2, 1) := by decide +kernel
theorem dSt_takesCalls_5 : decode cSt_takesCalls 5 = .ok (.if_icmp .ne 19, 3) := by decide +kernel
theorem dSt_takesCalls_8 : decode cSt_takesCalls 8 = .ok (.aload_n 0, 1) := by decide +kernel
theorem dSt_takesCalls_9 : decode cSt_takesCalls 9 = .ok (.getfield 23, 3) := by decide +kernel
theorem dSt_takesCalls_12 : decode cSt_takesCalls 12 = .ok (.getfield 51, 3) := by decide +kernel
theorem dSt_takesCalls_15 : decode cSt_takesCalls 15 = .ok (.bipush 9, 2) := by decide +kernel
theorem dSt_takesCalls_17 : decode cSt_takesCalls 17 = .ok (.if_icmp .gt 7, 3) := by decide +kernel
theorem dSt_takesCalls_20 : decode cSt_takesCalls 20 = .ok (.iconst 1, 1) := by decide +kernel
theorem dSt_takesCalls_21 : decode cSt_takesCalls 21 = .ok (.goto 4, 3) := by decide +kernel
theorem dSt_takesCalls_24 : decode cSt_takesCalls 24 = .ok (.iconst 0, 1) := by decide +kernel
theorem dSt_takesCalls_25 : decode cSt_takesCalls 25 = .ok (.ireturn, 1) := by decide +kernel
theorem dSt_tryAgain_0 : decode cSt_tryAgain 0 = .ok (.aload_n 0, 1) := by decide +kernel
theorem dSt_tryAgain_1 : decode cSt_tryAgain 1 = .ok (.getfield 54, 3) := by decide +kernel
theorem dSt_tryAgain_4 : decode cSt_tryAgain 4 = .ok (.iconst 1, 1) := by decide +kernel
theorem dSt_tryAgain_5 : decode cSt_tryAgain 5 = .ok (.iadd, 1) := by decide +kernel
theorem dSt_tryAgain_6 : decode cSt_tryAgain 6 = .ok (.istore_n 1, 1) := by decide +kernel
theorem dSt_tryAgain_7 : decode cSt_tryAgain 7 = .ok (.aload_n 0, 1) := by decide +kernel
theorem dSt_tryAgain_8 : decode cSt_tryAgain 8 = .ok (.iload_n 1, 1) := by decide +kernel
theorem dSt_tryAgain_9 : decode cSt_tryAgain 9 = .ok (.putfield 54, 3) := by decide +kernel
theorem dSt_tryAgain_12 : decode cSt_tryAgain 12 = .ok (.iload_n 1, 1) := by decide +kernel
theorem dSt_tryAgain_13 : decode cSt_tryAgain 13 = .ok (.iconst 4, 1) := by decide +kernel
theorem dSt_tryAgain_14 : decode cSt_tryAgain 14 = .ok (.if_icmp .lt 10, 3) := by decide +kernel
theorem dSt_tryAgain_17 : decode cSt_tryAgain 17 = .ok (.aload_n 0, 1) := by decide +kernel
theorem dSt_tryAgain_18 : decode cSt_tryAgain 18 = .ok (.invokevirtual 57, 3) := by decide +kernel
theorem dSt_tryAgain_21 : decode cSt_tryAgain 21 = .ok (.goto 23, 3) := by decide +kernel
theorem dSt_tryAgain_24 : decode cSt_tryAgain 24 = .ok (.aload_n 0, 1) := by decide +kernel
theorem dSt_tryAgain_25 : decode cSt_tryAgain 25 = .ok (.getfield 35, 3) := by decide +kernel
theorem dSt_tryAgain_28 : decode cSt_tryAgain 28 = .ok (.iconst 1, 1) := by decide +kernel
theorem dSt_tryAgain_29 : decode cSt_tryAgain 29 = .ok (.if_icmp .ne 11, 3) := by decide +kernel
theorem dSt_tryAgain_32 : decode cSt_tryAgain 32 = .ok (.aload_n 0, 1) := by decide +kernel
theorem dSt_tryAgain_33 : decode cSt_tryAgain 33 = .ok (.iconst 1, 1) := by decide +kernel
theorem dSt_tryAgain_34 : decode cSt_tryAgain 34 = .ok (.invokevirtual 44, 3) := by decide +kernel
theorem dSt_tryAgain_37 : decode cSt_tryAgain 37 = .ok (.goto 7, 3) := by decide +kernel
theorem dSt_tryAgain_40 : decode cSt_tryAgain 40 = .ok (.aload_n 0, 1) := by decide +kernel
theorem dSt_tryAgain_41 : decode cSt_tryAgain 41 = .ok (.invokevirtual 60, 3) := by decide +kernel
theorem dSt_tryAgain_44 : decode cSt_tryAgain 44 = .ok (.iload_n 1, 1) := by decide +kernel
theorem dSt_tryAgain_45 : decode cSt_tryAgain 45 = .ok (.ireturn, 1) := by decide +kernel
theorem dSt_giveUp_0 : decode cSt_giveUp 0 = .ok (.aload_n 0, 1) := by decide +kernel
theorem dSt_giveUp_1 : decode cSt_giveUp 1 = .ok (.getfield 35, 3) := by decide +kernel
theorem dSt_giveUp_4 : decode cSt_giveUp 4 = .ok (.iconst 1, 1) := by decide +kernel
theorem dSt_giveUp_5 : decode cSt_giveUp 5 = .ok (.if_icmp .ne 16, 3) := by decide +kernel
theorem dSt_giveUp_8 : decode cSt_giveUp 8 = .ok (.aload_n 0, 1) := by decide +kernel
theorem dSt_giveUp_9 : decode cSt_giveUp 9 = .ok (.iconst 0, 1) := by decide +kernel
theorem dSt_giveUp_10 : decode cSt_giveUp 10 = .ok (.putfield 35, 3) := by decide +kernel
theorem dSt_giveUp_13 : decode cSt_giveUp 13 = .ok (.aload_n 0, 1) := by decide +kernel
theorem dSt_giveUp_14 : decode cSt_giveUp 14 = .ok (.iconst 0, 1) := by decide +kernel
theorem dSt_giveUp_15 : decode cSt_giveUp 15 = .ok (.putfield 54, 3) := by decide +kernel
theorem dSt_giveUp_18 : decode cSt_giveUp 18 = .ok (.goto 7, 3) := by decide +kernel
theorem dSt_giveUp_21 : decode cSt_giveUp 21 = .ok (.aload_n 0, 1) := by decide +kernel
theorem dSt_giveUp_22 : decode cSt_giveUp 22 = .ok (.invokevirtual 63, 3) := by decide +kernel
theorem dSt_giveUp_25 : decode cSt_giveUp 25 = .ok (.return_, 1) := by decide +kernel
theorem dSt_hearFrame_0 : decode cSt_hearFrame 0 = .ok (.iload_n 1, 1) := by decide +kernel
theorem dSt_hearFrame_1 : decode cSt_hearFrame 1 = .ok (.invokestatic 66, 3) := by decide +kernel
theorem dSt_hearFrame_4 : decode cSt_hearFrame 4 = .ok (.istore_n 2, 1) := by decide +kernel
theorem dSt_hearFrame_5 : decode cSt_hearFrame 5 = .ok (.iload_n 2, 1) := by decide +kernel
theorem dSt_hearFrame_6 : decode cSt_hearFrame 6 = .ok (.iconst 1, 1) := by decide +kernel
theorem dSt_hearFrame_7 : decode cSt_hearFrame 7 = .ok (.if_icmp .ne 10, 3) := by decide +kernel
theorem dSt_hearFrame_10 : decode cSt_hearFrame 10 = .ok (.aload_n 0, 1) := by decide +kernel
theorem dSt_hearFrame_11 : decode cSt_hearFrame 11 = .ok (.invokevirtual 70, 3) := by decide +kernel
theorem dSt_hearFrame_14 : decode cSt_hearFrame 14 = .ok (.goto 64, 3) := by decide +kernel
theorem dSt_hearFrame_17 : decode cSt_hearFrame 17 = .ok (.iload_n 2, 1) := by decide +kernel
theorem dSt_hearFrame_18 : decode cSt_hearFrame 18 = .ok (.iconst 2, 1) := by decide +kernel
theorem dSt_hearFrame_19 : decode cSt_hearFrame 19 = .ok (.if_icmp .ne 10, 3) := by decide +kernel
theorem dSt_hearFrame_22 : decode cSt_hearFrame 22 = .ok (.aload_n 0, 1) := by decide +kernel
theorem dSt_hearFrame_23 : decode cSt_hearFrame 23 = .ok (.invokevirtual 73, 3) := by decide +kernel
theorem dSt_hearFrame_26 : decode cSt_hearFrame 26 = .ok (.goto 52, 3) := by decide +kernel
theorem dSt_hearFrame_29 : decode cSt_hearFrame 29 = .ok (.aload_n 0, 1) := by decide +kernel
theorem dSt_hearFrame_30 : decode cSt_hearFrame 30 = .ok (.getfield 35, 3) := by decide +kernel
theorem dSt_hearFrame_33 : decode cSt_hearFrame 33 = .ok (.iconst 2, 1) := by decide +kernel
theorem dSt_hearFrame_34 : decode cSt_hearFrame 34 = .ok (.if_icmp .ne 44, 3) := by decide +kernel
theorem dSt_hearFrame_37 : decode cSt_hearFrame 37 = .ok (.aload_n 0, 1) := by decide +kernel
theorem dSt_hearFrame_38 : decode cSt_hearFrame 38 = .ok (.iload_n 1, 1) := by decide +kernel
theorem dSt_hearFrame_39 : decode cSt_hearFrame 39 = .ok (.invokestatic 76, 3) := by decide +kernel
theorem dSt_hearFrame_42 : decode cSt_hearFrame 42 = .ok (.invokevirtual 79, 3) := by decide +kernel
theorem dSt_hearFrame_45 : decode cSt_hearFrame 45 = .ok (.iload_n 2, 1) := by decide +kernel
theorem dSt_hearFrame_46 : decode cSt_hearFrame 46 = .ok (.iconst 3, 1) := by decide +kernel
theorem dSt_hearFrame_47 : decode cSt_hearFrame 47 = .ok (.if_icmp .ne 11, 3) := by decide +kernel
theorem dSt_hearFrame_50 : decode cSt_hearFrame 50 = .ok (.aload_n 0, 1) := by decide +kernel
theorem dSt_hearFrame_51 : decode cSt_hearFrame 51 = .ok (.iload_n 1, 1) := by decide +kernel
theorem dSt_hearFrame_52 : decode cSt_hearFrame 52 = .ok (.invokevirtual 82, 3) := by decide +kernel
theorem dSt_hearFrame_55 : decode cSt_hearFrame 55 = .ok (.goto 23, 3) := by decide +kernel
theorem dSt_hearFrame_58 : decode cSt_hearFrame 58 = .ok (.iload_n 2, 1) := by decide +kernel
theorem dSt_hearFrame_59 : decode cSt_hearFrame 59 = .ok (.iconst 5, 1) := by decide +kernel
theorem dSt_hearFrame_60 : decode cSt_hearFrame 60 = .ok (.if_icmp .ne 14, 3) := by decide +kernel
theorem dSt_hearFrame_63 : decode cSt_hearFrame 63 = .ok (.aload_n 0, 1) := by decide +kernel
theorem dSt_hearFrame_64 : decode cSt_hearFrame 64 = .ok (.invokevirtual 60, 3) := by decide +kernel
theorem dSt_hearFrame_67 : decode cSt_hearFrame 67 = .ok (.aload_n 0, 1) := by decide +kernel
theorem dSt_hearFrame_68 : decode cSt_hearFrame 68 = .ok (.invokevirtual 85, 3) := by decide +kernel
theorem dSt_hearFrame_71 : decode cSt_hearFrame 71 = .ok (.goto 7, 3) := by decide +kernel
theorem dSt_hearFrame_74 : decode cSt_hearFrame 74 = .ok (.aload_n 0, 1) := by decide +kernel
theorem dSt_hearFrame_75 : decode cSt_hearFrame 75 = .ok (.invokevirtual 85, 3) := by decide +kernel
theorem dSt_hearFrame_78 : decode cSt_hearFrame 78 = .ok (.return_, 1) := by decide +kernel
theorem dSt_hearSetup_0 : decode cSt_hearSetup 0 = .ok (.aload_n 0, 1) := by decide +kernel
theorem dSt_hearSetup_1 : decode cSt_hearSetup 1 = .ok (.getfield 35, 3) := by decide +kernel
theorem dSt_hearSetup_4 : decode cSt_hearSetup 4 = .ok (.iconst 1, 1) := by decide +kernel
theorem dSt_hearSetup_5 : decode cSt_hearSetup 5 = .ok (.if_icmp .eq 8, 3) := by decide +kernel
theorem dSt_hearSetup_8 : decode cSt_hearSetup 8 = .ok (.aload_n 0, 1) := by decide +kernel
theorem dSt_hearSetup_9 : decode cSt_hearSetup 9 = .ok (.iconst 2, 1) := by decide +kernel
theorem dSt_hearSetup_10 : decode cSt_hearSetup 10 = .ok (.invokevirtual 39, 3) := by decide +kernel
theorem dSt_hearSetup_13 : decode cSt_hearSetup 13 = .ok (.aload_n 0, 1) := by decide +kernel
theorem dSt_hearSetup_14 : decode cSt_hearSetup 14 = .ok (.iconst 2, 1) := by decide +kernel
theorem dSt_hearSetup_15 : decode cSt_hearSetup 15 = .ok (.invokevirtual 44, 3) := by decide +kernel
theorem dSt_hearSetup_18 : decode cSt_hearSetup 18 = .ok (.return_, 1) := by decide +kernel
theorem dSt_hearAgreed_0 : decode cSt_hearAgreed 0 = .ok (.aload_n 0, 1) := by decide +kernel
theorem dSt_hearAgreed_1 : decode cSt_hearAgreed 1 = .ok (.getfield 35, 3) := by decide +kernel
theorem dSt_hearAgreed_4 : decode cSt_hearAgreed 4 = .ok (.iconst 1, 1) := by decide +kernel
theorem dSt_hearAgreed_5 : decode cSt_hearAgreed 5 = .ok (.if_icmp .ne 11, 3) := by decide +kernel
theorem dSt_hearAgreed_8 : decode cSt_hearAgreed 8 = .ok (.aload_n 0, 1) := by decide +kernel
theorem dSt_hearAgreed_9 : decode cSt_hearAgreed 9 = .ok (.iconst 2, 1) := by decide +kernel
theorem dSt_hearAgreed_10 : decode cSt_hearAgreed 10 = .ok (.invokevirtual 39, 3) := by decide +kernel
theorem dSt_hearAgreed_13 : decode cSt_hearAgreed 13 = .ok (.goto 15, 3) := by decide +kernel
theorem dSt_hearAgreed_16 : decode cSt_hearAgreed 16 = .ok (.aload_n 0, 1) := by decide +kernel
theorem dSt_hearAgreed_17 : decode cSt_hearAgreed 17 = .ok (.getfield 35, 3) := by decide +kernel
theorem dSt_hearAgreed_20 : decode cSt_hearAgreed 20 = .ok (.iconst 2, 1) := by decide +kernel
theorem dSt_hearAgreed_21 : decode cSt_hearAgreed 21 = .ok (.if_icmp .ne 7, 3) := by decide +kernel
theorem dSt_hearAgreed_24 : decode cSt_hearAgreed 24 = .ok (.aload_n 0, 1) := by decide +kernel
theorem dSt_hearAgreed_25 : decode cSt_hearAgreed 25 = .ok (.invokevirtual 63, 3) := by decide +kernel
theorem dSt_hearAgreed_28 : decode cSt_hearAgreed 28 = .ok (.return_, 1) := by decide +kernel
theorem dSt_confirm_0 : decode cSt_confirm 0 = .ok (.aload_n 0, 1) := by decide +kernel
theorem dSt_confirm_1 : decode cSt_confirm 1 = .ok (.getfield 88, 3) := by decide +kernel
theorem dSt_confirm_4 : decode cSt_confirm 4 = .ok (.iload_n 1, 1) := by decide +kernel
theorem dSt_confirm_5 : decode cSt_confirm 5 = .ok (.invokestatic 91, 3) := by decide +kernel
theorem dSt_confirm_8 : decode cSt_confirm 8 = .ok (.istore_n 2, 1) := by decide +kernel
theorem dSt_confirm_9 : decode cSt_confirm 9 = .ok (.iload_n 2, 1) := by decide +kernel
theorem dSt_confirm_10 : decode cSt_confirm 10 = .ok (.ifCond .le 29, 3) := by decide +kernel
theorem dSt_confirm_13 : decode cSt_confirm 13 = .ok (.iload_n 2, 1) := by decide +kernel
theorem dSt_confirm_14 : decode cSt_confirm 14 = .ok (.aload_n 0, 1) := by decide +kernel
theorem dSt_confirm_15 : decode cSt_confirm 15 = .ok (.invokevirtual 47, 3) := by decide +kernel
theorem dSt_confirm_18 : decode cSt_confirm 18 = .ok (.if_icmp .gt 21, 3) := by decide +kernel
theorem dSt_confirm_21 : decode cSt_confirm 21 = .ok (.aload_n 0, 1) := by decide +kernel
theorem dSt_confirm_22 : decode cSt_confirm 22 = .ok (.getfield 23, 3) := by decide +kernel
theorem dSt_confirm_25 : decode cSt_confirm 25 = .ok (.iload_n 2, 1) := by decide +kernel
theorem dSt_confirm_26 : decode cSt_confirm 26 = .ok (.invokevirtual 95, 3) := by decide +kernel
theorem dSt_confirm_29 : decode cSt_confirm 29 = .ok (.aload_n 0, 1) := by decide +kernel
theorem dSt_confirm_30 : decode cSt_confirm 30 = .ok (.iload_n 1, 1) := by decide +kernel
theorem dSt_confirm_31 : decode cSt_confirm 31 = .ok (.putfield 88, 3) := by decide +kernel
theorem dSt_confirm_34 : decode cSt_confirm 34 = .ok (.aload_n 0, 1) := by decide +kernel
theorem dSt_confirm_35 : decode cSt_confirm 35 = .ok (.iconst 0, 1) := by decide +kernel
theorem dSt_confirm_36 : decode cSt_confirm 36 = .ok (.putfield 54, 3) := by decide +kernel
theorem dSt_confirm_39 : decode cSt_confirm 39 = .ok (.return_, 1) := by decide +kernel
theorem dSt_hearCarrier_0 : decode cSt_hearCarrier 0 = .ok (.iload_n 1, 1) := by decide +kernel
theorem dSt_hearCarrier_1 : decode cSt_hearCarrier 1 = .ok (.invokestatic 98, 3) := by decide +kernel
theorem dSt_hearCarrier_4 : decode cSt_hearCarrier 4 = .ok (.aload_n 0, 1) := by decide +kernel
theorem dSt_hearCarrier_5 : decode cSt_hearCarrier 5 = .ok (.getfield 101, 3) := by decide +kernel
theorem dSt_hearCarrier_8 : decode cSt_hearCarrier 8 = .ok (.if_icmp .eq 8, 3) := by decide +kernel
theorem dSt_hearCarrier_11 : decode cSt_hearCarrier 11 = .ok (.aload_n 0, 1) := by decide +kernel
theorem dSt_hearCarrier_12 : decode cSt_hearCarrier 12 = .ok (.invokevirtual 104, 3) := by decide +kernel
theorem dSt_hearCarrier_15 : decode cSt_hearCarrier 15 = .ok (.return_, 1) := by decide +kernel
theorem dSt_hearCarrier_16 : decode cSt_hearCarrier 16 = .ok (.aload_n 0, 1) := by decide +kernel
theorem dSt_hearCarrier_17 : decode cSt_hearCarrier 17 = .ok (.aload_n 0, 1) := by decide +kernel
theorem dSt_hearCarrier_18 : decode cSt_hearCarrier 18 = .ok (.getfield 101, 3) := by decide +kernel
theorem dSt_hearCarrier_21 : decode cSt_hearCarrier 21 = .ok (.invokestatic 107, 3) := by decide +kernel
theorem dSt_hearCarrier_24 : decode cSt_hearCarrier 24 = .ok (.putfield 101, 3) := by decide +kernel
theorem dSt_hearCarrier_27 : decode cSt_hearCarrier 27 = .ok (.aload_n 0, 1) := by decide +kernel
theorem dSt_hearCarrier_28 : decode cSt_hearCarrier 28 = .ok (.iconst 0, 1) := by decide +kernel
theorem dSt_hearCarrier_29 : decode cSt_hearCarrier 29 = .ok (.putfield 110, 3) := by decide +kernel
theorem dSt_hearCarrier_32 : decode cSt_hearCarrier 32 = .ok (.aload_n 0, 1) := by decide +kernel
theorem dSt_hearCarrier_33 : decode cSt_hearCarrier 33 = .ok (.getfield 114, 3) := by decide +kernel
theorem dSt_hearCarrier_36 : decode cSt_hearCarrier 36 = .ok (.istore_n 2, 1) := by decide +kernel
theorem dSt_hearCarrier_37 : decode cSt_hearCarrier 37 = .ok (.aload_n 0, 1) := by decide +kernel
theorem dSt_hearCarrier_38 : decode cSt_hearCarrier 38 = .ok (.iload_n 1, 1) := by decide +kernel
theorem dSt_hearCarrier_39 : decode cSt_hearCarrier 39 = .ok (.invokestatic 117, 3) := by decide +kernel
theorem dSt_hearCarrier_42 : decode cSt_hearCarrier 42 = .ok (.invokevirtual 120, 3) := by decide +kernel
theorem dSt_hearCarrier_45 : decode cSt_hearCarrier 45 = .ok (.aload_n 0, 1) := by decide +kernel
theorem dSt_hearCarrier_46 : decode cSt_hearCarrier 46 = .ok (.getfield 114, 3) := by decide +kernel
theorem dSt_hearCarrier_49 : decode cSt_hearCarrier 49 = .ok (.iload_n 2, 1) := by decide +kernel
theorem dSt_hearCarrier_50 : decode cSt_hearCarrier 50 = .ok (.if_icmp .ne 7, 3) := by decide +kernel
theorem dSt_hearCarrier_53 : decode cSt_hearCarrier 53 = .ok (.aload_n 0, 1) := by decide +kernel
theorem dSt_hearCarrier_54 : decode cSt_hearCarrier 54 = .ok (.invokevirtual 85, 3) := by decide +kernel
theorem dSt_hearCarrier_57 : decode cSt_hearCarrier 57 = .ok (.aload_n 0, 1) := by decide +kernel
theorem dSt_hearCarrier_58 : decode cSt_hearCarrier 58 = .ok (.getfield 114, 3) := by decide +kernel
theorem dSt_hearCarrier_61 : decode cSt_hearCarrier 61 = .ok (.iload_n 2, 1) := by decide +kernel
theorem dSt_hearCarrier_62 : decode cSt_hearCarrier 62 = .ok (.if_icmp .ne 8, 3) := by decide +kernel
theorem dSt_hearCarrier_65 : decode cSt_hearCarrier 65 = .ok (.aload_n 0, 1) := by decide +kernel
theorem dSt_hearCarrier_66 : decode cSt_hearCarrier 66 = .ok (.iconst 4, 1) := by decide +kernel
theorem dSt_hearCarrier_67 : decode cSt_hearCarrier 67 = .ok (.invokevirtual 123, 3) := by decide +kernel
theorem dSt_hearCarrier_70 : decode cSt_hearCarrier 70 = .ok (.return_, 1) := by decide +kernel
theorem dSt_rejectOnce_0 : decode cSt_rejectOnce 0 = .ok (.aload_n 0, 1) := by decide +kernel
theorem dSt_rejectOnce_1 : decode cSt_rejectOnce 1 = .ok (.getfield 110, 3) := by decide +kernel
theorem dSt_rejectOnce_4 : decode cSt_rejectOnce 4 = .ok (.ifCond .ne 13, 3) := by decide +kernel
theorem dSt_rejectOnce_7 : decode cSt_rejectOnce 7 = .ok (.aload_n 0, 1) := by decide +kernel
theorem dSt_rejectOnce_8 : decode cSt_rejectOnce 8 = .ok (.iconst 1, 1) := by decide +kernel
theorem dSt_rejectOnce_9 : decode cSt_rejectOnce 9 = .ok (.putfield 110, 3) := by decide +kernel
theorem dSt_rejectOnce_12 : decode cSt_rejectOnce 12 = .ok (.aload_n 0, 1) := by decide +kernel
theorem dSt_rejectOnce_13 : decode cSt_rejectOnce 13 = .ok (.iconst 5, 1) := by decide +kernel
theorem dSt_rejectOnce_14 : decode cSt_rejectOnce 14 = .ok (.invokevirtual 123, 3) := by decide +kernel
theorem dSt_rejectOnce_17 : decode cSt_rejectOnce 17 = .ok (.return_, 1) := by decide +kernel
theorem dSt_hearPacket_0 : decode cSt_hearPacket 0 = .ok (.iload_n 1, 1) := by decide +kernel
theorem dSt_hearPacket_1 : decode cSt_hearPacket 1 = .ok (.invokestatic 126, 3) := by decide +kernel
theorem dSt_hearPacket_4 : decode cSt_hearPacket 4 = .ok (.istore_n 2, 1) := by decide +kernel
theorem dSt_hearPacket_5 : decode cSt_hearPacket 5 = .ok (.iload_n 2, 1) := by decide +kernel
theorem dSt_hearPacket_6 : decode cSt_hearPacket 6 = .ok (.invokestatic 131, 3) := by decide +kernel
theorem dSt_hearPacket_9 : decode cSt_hearPacket 9 = .ok (.ifCond .ne 4, 3) := by decide +kernel
theorem dSt_hearPacket_12 : decode cSt_hearPacket 12 = .ok (.return_, 1) := by decide +kernel
theorem dSt_hearPacket_13 : decode cSt_hearPacket 13 = .ok (.aload_n 0, 1) := by decide +kernel
theorem dSt_hearPacket_14 : decode cSt_hearPacket 14 = .ok (.getfield 28, 3) := by decide +kernel
theorem dSt_hearPacket_17 : decode cSt_hearPacket 17 = .ok (.iload_n 2, 1) := by decide +kernel
theorem dSt_hearPacket_18 : decode cSt_hearPacket 18 = .ok (.aaload, 1) := by decide +kernel
theorem dSt_hearPacket_19 : decode cSt_hearPacket 19 = .ok (.iload_n 1, 1) := by decide +kernel
theorem dSt_hearPacket_20 : decode cSt_hearPacket 20 = .ok (.invokevirtual 135, 3) := by decide +kernel
theorem dSt_hearPacket_23 : decode cSt_hearPacket 23 = .ok (.istore_n 3, 1) := by decide +kernel
theorem dSt_hearPacket_24 : decode cSt_hearPacket 24 = .ok (.iload_n 3, 1) := by decide +kernel
theorem dSt_hearPacket_25 : decode cSt_hearPacket 25 = .ok (.ifCond .eq 12, 3) := by decide +kernel
theorem dSt_hearPacket_28 : decode cSt_hearPacket 28 = .ok (.aload_n 0, 1) := by decide +kernel
theorem dSt_hearPacket_29 : decode cSt_hearPacket 29 = .ok (.iload_n 3, 1) := by decide +kernel
theorem dSt_hearPacket_30 : decode cSt_hearPacket 30 = .ok (.iload_n 2, 1) := by decide +kernel
theorem dSt_hearPacket_31 : decode cSt_hearPacket 31 = .ok (.invokestatic 138, 3) := by decide +kernel
theorem dSt_hearPacket_34 : decode cSt_hearPacket 34 = .ok (.invokevirtual 141, 3) := by decide +kernel
theorem dSt_hearPacket_37 : decode cSt_hearPacket 37 = .ok (.return_, 1) := by decide +kernel
theorem dSt_sendPacket_0 : decode cSt_sendPacket 0 = .ok (.aload_n 0, 1) := by decide +kernel
theorem dSt_sendPacket_1 : decode cSt_sendPacket 1 = .ok (.getfield 23, 3) := by decide +kernel
theorem dSt_sendPacket_4 : decode cSt_sendPacket 4 = .ok (.iload_n 1, 1) := by decide +kernel
theorem dSt_sendPacket_5 : decode cSt_sendPacket 5 = .ok (.invokevirtual 144, 3) := by decide +kernel
theorem dSt_sendPacket_8 : decode cSt_sendPacket 8 = .ok (.aload_n 0, 1) := by decide +kernel
theorem dSt_sendPacket_9 : decode cSt_sendPacket 9 = .ok (.invokevirtual 85, 3) := by decide +kernel
theorem dSt_sendPacket_12 : decode cSt_sendPacket 12 = .ok (.return_, 1) := by decide +kernel
theorem dSt_pump_0 : decode cSt_pump 0 = .ok (.aload_n 0, 1) := by decide +kernel
theorem dSt_pump_1 : decode cSt_pump 1 = .ok (.getfield 35, 3) := by decide +kernel
theorem dSt_pump_4 : decode cSt_pump 4 = .ok (.iconst 2, 1) := by decide +kernel
theorem dSt_pump_5 : decode cSt_pump 5 = .ok (.if_icmp .ne 17, 3) := by decide +kernel
theorem dSt_pump_8 : decode cSt_pump 8 = .ok (.aload_n 0, 1) := by decide +kernel
theorem dSt_pump_9 : decode cSt_pump 9 = .ok (.getfield 23, 3) := by decide +kernel
theorem dSt_pump_12 : decode cSt_pump 12 = .ok (.getfield 51, 3) := by decide +kernel
theorem dSt_pump_15 : decode cSt_pump 15 = .ok (.iconst 3, 1) := by decide +kernel
theorem dSt_pump_16 : decode cSt_pump 16 = .ok (.invokestatic 147, 3) := by decide +kernel
theorem dSt_pump_19 : decode cSt_pump 19 = .ok (.goto 4, 3) := by decide +kernel
theorem dSt_pump_22 : decode cSt_pump 22 = .ok (.iconst 0, 1) := by decide +kernel
theorem dSt_pump_23 : decode cSt_pump 23 = .ok (.istore_n 1, 1) := by decide +kernel
theorem dSt_pump_24 : decode cSt_pump 24 = .ok (.aload_n 0, 1) := by decide +kernel
theorem dSt_pump_25 : decode cSt_pump 25 = .ok (.invokevirtual 47, 3) := by decide +kernel
theorem dSt_pump_28 : decode cSt_pump 28 = .ok (.istore_n 2, 1) := by decide +kernel
theorem dSt_pump_29 : decode cSt_pump 29 = .ok (.iload_n 2, 1) := by decide +kernel
theorem dSt_pump_30 : decode cSt_pump 30 = .ok (.iload_n 1, 1) := by decide +kernel
theorem dSt_pump_31 : decode cSt_pump 31 = .ok (.if_icmp .ge 47, 3) := by decide +kernel
theorem dSt_pump_34 : decode cSt_pump 34 = .ok (.aload_n 0, 1) := by decide +kernel
theorem dSt_pump_35 : decode cSt_pump 35 = .ok (.getfield 15, 3) := by decide +kernel
theorem dSt_pump_38 : decode cSt_pump 38 = .ok (.iconst 3, 1) := by decide +kernel
theorem dSt_pump_39 : decode cSt_pump 39 = .ok (.aload_n 0, 1) := by decide +kernel
theorem dSt_pump_40 : decode cSt_pump 40 = .ok (.getfield 114, 3) := by decide +kernel
theorem dSt_pump_43 : decode cSt_pump 43 = .ok (.aload_n 0, 1) := by decide +kernel
theorem dSt_pump_44 : decode cSt_pump 44 = .ok (.getfield 101, 3) := by decide +kernel
theorem dSt_pump_47 : decode cSt_pump 47 = .ok (.aload_n 0, 1) := by decide +kernel
theorem dSt_pump_48 : decode cSt_pump 48 = .ok (.getfield 23, 3) := by decide +kernel
theorem dSt_pump_51 : decode cSt_pump 51 = .ok (.iload_n 2, 1) := by decide +kernel
theorem dSt_pump_52 : decode cSt_pump 52 = .ok (.invokevirtual 152, 3) := by decide +kernel
theorem dSt_pump_55 : decode cSt_pump 55 = .ok (.invokestatic 155, 3) := by decide +kernel
theorem dSt_pump_58 : decode cSt_pump 58 = .ok (.invokevirtual 144, 3) := by decide +kernel
theorem dSt_pump_61 : decode cSt_pump 61 = .ok (.aload_n 0, 1) := by decide +kernel
theorem dSt_pump_62 : decode cSt_pump 62 = .ok (.aload_n 0, 1) := by decide +kernel
theorem dSt_pump_63 : decode cSt_pump 63 = .ok (.getfield 114, 3) := by decide +kernel
theorem dSt_pump_66 : decode cSt_pump 66 = .ok (.invokestatic 107, 3) := by decide +kernel
theorem dSt_pump_69 : decode cSt_pump 69 = .ok (.putfield 114, 3) := by decide +kernel
theorem dSt_pump_72 : decode cSt_pump 72 = .ok (.iinc 2 1, 3) := by decide +kernel
theorem dSt_pump_75 : decode cSt_pump 75 = .ok (.goto (-46), 3) := by decide +kernel
theorem dSt_pump_78 : decode cSt_pump 78 = .ok (.return_, 1) := by decide +kernel
theorem dSt_sendUnconfirmed_0 : decode cSt_sendUnconfirmed 0 = .ok (.aload_n 0, 1) := by decide +kernel
theorem dSt_sendUnconfirmed_1 : decode cSt_sendUnconfirmed 1 = .ok (.invokevirtual 47, 3) := by decide +kernel
theorem dSt_sendUnconfirmed_4 : decode cSt_sendUnconfirmed 4 = .ok (.istore_n 1, 1) := by decide +kernel
theorem dSt_sendUnconfirmed_5 : decode cSt_sendUnconfirmed 5 = .ok (.aload_n 0, 1) := by decide +kernel
theorem dSt_sendUnconfirmed_6 : decode cSt_sendUnconfirmed 6 = .ok (.getfield 88, 3) := by decide +kernel
theorem dSt_sendUnconfirmed_9 : decode cSt_sendUnconfirmed 9 = .ok (.istore_n 2, 1) := by decide +kernel
theorem dSt_sendUnconfirmed_10 : decode cSt_sendUnconfirmed 10 = .ok (.iconst 0, 1) := by decide +kernel
theorem dSt_sendUnconfirmed_11 : decode cSt_sendUnconfirmed 11 = .ok (.istore_n 3, 1) := by decide +kernel
theorem dSt_sendUnconfirmed_12 : decode cSt_sendUnconfirmed 12 = .ok (.iload_n 3, 1) := by decide +kernel
theorem dSt_sendUnconfirmed_13 : decode cSt_sendUnconfirmed 13 = .ok (.iload_n 1, 1) := by decide +kernel
theorem dSt_sendUnconfirmed_14 : decode cSt_sendUnconfirmed 14 = .ok (.if_icmp .ge 38, 3) := by decide +kernel
theorem dSt_sendUnconfirmed_17 : decode cSt_sendUnconfirmed 17 = .ok (.aload_n 0, 1) := by decide +kernel
theorem dSt_sendUnconfirmed_18 : decode cSt_sendUnconfirmed 18 = .ok (.getfield 15, 3) := by decide +kernel
theorem dSt_sendUnconfirmed_21 : decode cSt_sendUnconfirmed 21 = .ok (.iconst 3, 1) := by decide +kernel
theorem dSt_sendUnconfirmed_22 : decode cSt_sendUnconfirmed 22 = .ok (.iload_n 2, 1) := by decide +kernel
theorem dSt_sendUnconfirmed_23 : decode cSt_sendUnconfirmed 23 = .ok (.aload_n 0, 1) := by decide +kernel
theorem dSt_sendUnconfirmed_24 : decode cSt_sendUnconfirmed 24 = .ok (.getfield 101, 3) := by decide +kernel
theorem dSt_sendUnconfirmed_27 : decode cSt_sendUnconfirmed 27 = .ok (.aload_n 0, 1) := by decide +kernel
theorem dSt_sendUnconfirmed_28 : decode cSt_sendUnconfirmed 28 = .ok (.getfield 23, 3) := by decide +kernel
theorem dSt_sendUnconfirmed_31 : decode cSt_sendUnconfirmed 31 = .ok (.iload_n 3, 1) := by decide +kernel
theorem dSt_sendUnconfirmed_32 : decode cSt_sendUnconfirmed 32 = .ok (.invokevirtual 152, 3) := by decide +kernel
theorem dSt_sendUnconfirmed_35 : decode cSt_sendUnconfirmed 35 = .ok (.invokestatic 155, 3) := by decide +kernel
theorem dSt_sendUnconfirmed_38 : decode cSt_sendUnconfirmed 38 = .ok (.invokevirtual 144, 3) := by decide +kernel
theorem dSt_sendUnconfirmed_41 : decode cSt_sendUnconfirmed 41 = .ok (.iload_n 2, 1) := by decide +kernel
theorem dSt_sendUnconfirmed_42 : decode cSt_sendUnconfirmed 42 = .ok (.invokestatic 107, 3) := by decide +kernel
theorem dSt_sendUnconfirmed_45 : decode cSt_sendUnconfirmed 45 = .ok (.istore_n 2, 1) := by decide +kernel
theorem dSt_sendUnconfirmed_46 : decode cSt_sendUnconfirmed 46 = .ok (.iinc 3 1, 3) := by decide +kernel
theorem dSt_sendUnconfirmed_49 : decode cSt_sendUnconfirmed 49 = .ok (.goto (-37), 3) := by decide +kernel
theorem dSt_sendUnconfirmed_52 : decode cSt_sendUnconfirmed 52 = .ok (.return_, 1) := by decide +kernel
theorem dSt_sendUnnumbered_0 : decode cSt_sendUnnumbered 0 = .ok (.aload_n 0, 1) := by decide +kernel
theorem dSt_sendUnnumbered_1 : decode cSt_sendUnnumbered 1 = .ok (.getfield 15, 3) := by decide +kernel
theorem dSt_sendUnnumbered_4 : decode cSt_sendUnnumbered 4 = .ok (.iload_n 1, 1) := by decide +kernel
theorem dSt_sendUnnumbered_5 : decode cSt_sendUnnumbered 5 = .ok (.iconst 0, 1) := by decide +kernel
theorem dSt_sendUnnumbered_6 : decode cSt_sendUnnumbered 6 = .ok (.iconst 0, 1) := by decide +kernel
theorem dSt_sendUnnumbered_7 : decode cSt_sendUnnumbered 7 = .ok (.iconst 0, 1) := by decide +kernel
theorem dSt_sendUnnumbered_8 : decode cSt_sendUnnumbered 8 = .ok (.invokestatic 155, 3) := by decide +kernel
theorem dSt_sendUnnumbered_11 : decode cSt_sendUnnumbered 11 = .ok (.invokevirtual 144, 3) := by decide +kernel
theorem dSt_sendUnnumbered_14 : decode cSt_sendUnnumbered 14 = .ok (.return_, 1) := by decide +kernel
theorem dSt_sendAcknowledging_0 : decode cSt_sendAcknowledging 0 = .ok (.aload_n 0, 1) := by decide +kernel
theorem dSt_sendAcknowledging_1 : decode cSt_sendAcknowledging 1 = .ok (.getfield 15, 3) := by decide +kernel
theorem dSt_sendAcknowledging_4 : decode cSt_sendAcknowledging 4 = .ok (.iload_n 1, 1) := by decide +kernel
theorem dSt_sendAcknowledging_5 : decode cSt_sendAcknowledging 5 = .ok (.iconst 0, 1) := by decide +kernel
theorem dSt_sendAcknowledging_6 : decode cSt_sendAcknowledging 6 = .ok (.aload_n 0, 1) := by decide +kernel
theorem dSt_sendAcknowledging_7 : decode cSt_sendAcknowledging 7 = .ok (.getfield 101, 3) := by decide +kernel
theorem dSt_sendAcknowledging_10 : decode cSt_sendAcknowledging 10 = .ok (.iconst 0, 1) := by decide +kernel
theorem dSt_sendAcknowledging_11 : decode cSt_sendAcknowledging 11 = .ok (.invokestatic 155, 3) := by decide +kernel
theorem dSt_sendAcknowledging_14 : decode cSt_sendAcknowledging 14 = .ok (.invokevirtual 144, 3) := by decide +kernel
theorem dSt_sendAcknowledging_17 : decode cSt_sendAcknowledging 17 = .ok (.return_, 1) := by decide +kernel
theorem dSt_unconfirmed_0 : decode cSt_unconfirmed 0 = .ok (.aload_n 0, 1) := by decide +kernel
theorem dSt_unconfirmed_1 : decode cSt_unconfirmed 1 = .ok (.getfield 114, 3) := by decide +kernel
theorem dSt_unconfirmed_4 : decode cSt_unconfirmed 4 = .ok (.aload_n 0, 1) := by decide +kernel
theorem dSt_unconfirmed_5 : decode cSt_unconfirmed 5 = .ok (.getfield 88, 3) := by decide +kernel
theorem dSt_unconfirmed_8 : decode cSt_unconfirmed 8 = .ok (.isub, 1) := by decide +kernel
theorem dSt_unconfirmed_9 : decode cSt_unconfirmed 9 = .ok (.bipush 7, 2) := by decide +kernel
theorem dSt_unconfirmed_11 : decode cSt_unconfirmed 11 = .ok (.iand, 1) := by decide +kernel
theorem dSt_unconfirmed_12 : decode cSt_unconfirmed 12 = .ok (.ireturn, 1) := by decide +kernel
theorem dSt_cleanAs_0 : decode cSt_cleanAs 0 = .ok (.aload_n 0, 1) := by decide +kernel
theorem dSt_cleanAs_1 : decode cSt_cleanAs 1 = .ok (.iload_n 1, 1) := by decide +kernel
theorem dSt_cleanAs_2 : decode cSt_cleanAs 2 = .ok (.putfield 35, 3) := by decide +kernel
theorem dSt_cleanAs_5 : decode cSt_cleanAs 5 = .ok (.aload_n 0, 1) := by decide +kernel
theorem dSt_cleanAs_6 : decode cSt_cleanAs 6 = .ok (.iconst 0, 1) := by decide +kernel
theorem dSt_cleanAs_7 : decode cSt_cleanAs 7 = .ok (.putfield 114, 3) := by decide +kernel
theorem dSt_cleanAs_10 : decode cSt_cleanAs 10 = .ok (.aload_n 0, 1) := by decide +kernel
theorem dSt_cleanAs_11 : decode cSt_cleanAs 11 = .ok (.iconst 0, 1) := by decide +kernel
theorem dSt_cleanAs_12 : decode cSt_cleanAs 12 = .ok (.putfield 88, 3) := by decide +kernel
theorem dSt_cleanAs_15 : decode cSt_cleanAs 15 = .ok (.aload_n 0, 1) := by decide +kernel
theorem dSt_cleanAs_16 : decode cSt_cleanAs 16 = .ok (.iconst 0, 1) := by decide +kernel
theorem dSt_cleanAs_17 : decode cSt_cleanAs 17 = .ok (.putfield 101, 3) := by decide +kernel
theorem dSt_cleanAs_20 : decode cSt_cleanAs 20 = .ok (.aload_n 0, 1) := by decide +kernel
theorem dSt_cleanAs_21 : decode cSt_cleanAs 21 = .ok (.iconst 0, 1) := by decide +kernel
theorem dSt_cleanAs_22 : decode cSt_cleanAs 22 = .ok (.putfield 54, 3) := by decide +kernel
theorem dSt_cleanAs_25 : decode cSt_cleanAs 25 = .ok (.aload_n 0, 1) := by decide +kernel
theorem dSt_cleanAs_26 : decode cSt_cleanAs 26 = .ok (.iconst 0, 1) := by decide +kernel
theorem dSt_cleanAs_27 : decode cSt_cleanAs 27 = .ok (.putfield 110, 3) := by decide +kernel
theorem dSt_cleanAs_30 : decode cSt_cleanAs 30 = .ok (.aload_n 0, 1) := by decide +kernel
theorem dSt_cleanAs_31 : decode cSt_cleanAs 31 = .ok (.getfield 23, 3) := by decide +kernel
theorem dSt_cleanAs_34 : decode cSt_cleanAs 34 = .ok (.iconst 0, 1) := by decide +kernel
theorem dSt_cleanAs_35 : decode cSt_cleanAs 35 = .ok (.putfield 51, 3) := by decide +kernel
theorem dSt_cleanAs_38 : decode cSt_cleanAs 38 = .ok (.iconst 0, 1) := by decide +kernel
theorem dSt_cleanAs_39 : decode cSt_cleanAs 39 = .ok (.istore_n 2, 1) := by decide +kernel
theorem dSt_cleanAs_40 : decode cSt_cleanAs 40 = .ok (.iload_n 2, 1) := by decide +kernel
theorem dSt_cleanAs_41 : decode cSt_cleanAs 41 = .ok (.iconst 3, 1) := by decide +kernel
theorem dSt_cleanAs_42 : decode cSt_cleanAs 42 = .ok (.if_icmp .ge 19, 3) := by decide +kernel
theorem dSt_cleanAs_45 : decode cSt_cleanAs 45 = .ok (.aload_n 0, 1) := by decide +kernel
theorem dSt_cleanAs_46 : decode cSt_cleanAs 46 = .ok (.getfield 28, 3) := by decide +kernel
theorem dSt_cleanAs_49 : decode cSt_cleanAs 49 = .ok (.iload_n 2, 1) := by decide +kernel
theorem dSt_cleanAs_50 : decode cSt_cleanAs 50 = .ok (.aaload, 1) := by decide +kernel
theorem dSt_cleanAs_51 : decode cSt_cleanAs 51 = .ok (.iconst 0, 1) := by decide +kernel
theorem dSt_cleanAs_52 : decode cSt_cleanAs 52 = .ok (.invokevirtual 159, 3) := by decide +kernel
theorem dSt_cleanAs_55 : decode cSt_cleanAs 55 = .ok (.iinc 2 1, 3) := by decide +kernel
theorem dSt_cleanAs_58 : decode cSt_cleanAs 58 = .ok (.goto (-18), 3) := by decide +kernel
theorem dSt_cleanAs_61 : decode cSt_cleanAs 61 = .ok (.return_, 1) := by decide +kernel
end
section
theorem dCl_init_0 : decode cCl_init 0 = .ok (.aload_n 0, 1) := by decide +kernel
theorem dCl_init_1 : decode cCl_init 1 = .ok (.invokespecial 1, 3) := by decide +kernel
theorem dCl_init_4 : decode cCl_init 4 = .ok (.new 7, 3) := by decide +kernel
theorem dCl_init_7 : decode cCl_init 7 = .ok (.dup, 1) := by decide +kernel
theorem dCl_init_8 : decode cCl_init 8 = .ok (.bipush 12, 2) := by decide +kernel
theorem dCl_init_10 : decode cCl_init 10 = .ok (.invokespecial 11, 3) := by decide +kernel
theorem dCl_init_13 : decode cCl_init 13 = .ok (.astore_n 1, 1) := by decide +kernel
theorem dCl_init_14 : decode cCl_init 14 = .ok (.new 7, 3) := by decide +kernel
theorem dCl_init_17 : decode cCl_init 17 = .ok (.dup, 1) := by decide +kernel
theorem dCl_init_18 : decode cCl_init 18 = .ok (.bipush 12, 2) := by decide +kernel
theorem dCl_init_20 : decode cCl_init 20 = .ok (.invokespecial 11, 3) := by decide +kernel
theorem dCl_init_23 : decode cCl_init 23 = .ok (.astore_n 2, 1) := by decide +kernel
theorem dCl_init_24 : decode cCl_init 24 = .ok (.aload_n 0, 1) := by decide +kernel
theorem dCl_init_25 : decode cCl_init 25 = .ok (.iconst 2, 1) := by decide +kernel
theorem dCl_init_26 : decode cCl_init 26 = .ok (.anewarray 14, 3) := by decide +kernel
theorem dCl_init_29 : decode cCl_init 29 = .ok (.putfield 16, 3) := by decide +kernel
theorem dCl_init_32 : decode cCl_init 32 = .ok (.aload_n 0, 1) := by decide +kernel
theorem dCl_init_33 : decode cCl_init 33 = .ok (.getfield 16, 3) := by decide +kernel
theorem dCl_init_36 : decode cCl_init 36 = .ok (.iconst 0, 1) := by decide +kernel
theorem dCl_init_37 : decode cCl_init 37 = .ok (.new 14, 3) := by decide +kernel
theorem dCl_init_40 : decode cCl_init 40 = .ok (.dup, 1) := by decide +kernel
theorem dCl_init_41 : decode cCl_init 41 = .ok (.iconst 0, 1) := by decide +kernel
theorem dCl_init_42 : decode cCl_init 42 = .ok (.aload_n 1, 1) := by decide +kernel
theorem dCl_init_43 : decode cCl_init 43 = .ok (.aload_n 2, 1) := by decide +kernel
theorem dCl_init_44 : decode cCl_init 44 = .ok (.invokespecial 20, 3) := by decide +kernel
theorem dCl_init_47 : decode cCl_init 47 = .ok (.aastore, 1) := by decide +kernel
theorem dCl_init_48 : decode cCl_init 48 = .ok (.aload_n 0, 1) := by decide +kernel
theorem dCl_init_49 : decode cCl_init 49 = .ok (.getfield 16, 3) := by decide +kernel
theorem dCl_init_52 : decode cCl_init 52 = .ok (.iconst 1, 1) := by decide +kernel
theorem dCl_init_53 : decode cCl_init 53 = .ok (.new 14, 3) := by decide +kernel
theorem dCl_init_56 : decode cCl_init 56 = .ok (.dup, 1) := by decide +kernel
theorem dCl_init_57 : decode cCl_init 57 = .ok (.iconst 1, 1) := by decide +kernel
theorem dCl_init_58 : decode cCl_init 58 = .ok (.aload_n 2, 1) := by decide +kernel
theorem dCl_init_59 : decode cCl_init 59 = .ok (.aload_n 1, 1) := by decide +kernel
theorem dCl_init_60 : decode cCl_init 60 = .ok (.invokespecial 20, 3) := by decide +kernel
theorem dCl_init_63 : decode cCl_init 63 = .ok (.aastore, 1) := by decide +kernel
theorem dCl_init_64 : decode cCl_init 64 = .ok (.return_, 1) := by decide +kernel
theorem dCl_open_0 : decode cCl_open 0 = .ok (.aload_n 0, 1) := by decide +kernel
theorem dCl_open_1 : decode cCl_open 1 = .ok (.iload_n 1, 1) := by decide +kernel
theorem dCl_open_2 : decode cCl_open 2 = .ok (.invokevirtual 23, 3) := by decide +kernel
theorem dCl_open_5 : decode cCl_open 5 = .ok (.invokevirtual 27, 3) := by decide +kernel
theorem dCl_open_8 : decode cCl_open 8 = .ok (.return_, 1) := by decide +kernel
theorem dCl_expire_0 : decode cCl_expire 0 = .ok (.aload_n 0, 1) := by decide +kernel
theorem dCl_expire_1 : decode cCl_expire 1 = .ok (.iload_n 1, 1) := by decide +kernel
theorem dCl_expire_2 : decode cCl_expire 2 = .ok (.invokevirtual 23, 3) := by decide +kernel
theorem dCl_expire_5 : decode cCl_expire 5 = .ok (.astore_n 2, 1) := by decide +kernel
theorem dCl_expire_6 : decode cCl_expire 6 = .ok (.aload_n 2, 1) := by decide +kernel
theorem dCl_expire_7 : decode cCl_expire 7 = .ok (.invokevirtual 30, 3) := by decide +kernel
theorem dCl_expire_10 : decode cCl_expire 10 = .ok (.invokestatic 34, 3) := by decide +kernel
theorem dCl_expire_13 : decode cCl_expire 13 = .ok (.aload_n 2, 1) := by decide +kernel
theorem dCl_expire_14 : decode cCl_expire 14 = .ok (.invokevirtual 38, 3) := by decide +kernel
theorem dCl_expire_17 : decode cCl_expire 17 = .ok (.ireturn, 1) := by decide +kernel
theorem dCl_deliver_0 : decode cCl_deliver 0 = .ok (.aload_n 0, 1) := by decide +kernel
theorem dCl_deliver_1 : decode cCl_deliver 1 = .ok (.iload_n 1, 1) := by decide +kernel
theorem dCl_deliver_2 : decode cCl_deliver 2 = .ok (.invokevirtual 23, 3) := by decide +kernel
theorem dCl_deliver_5 : decode cCl_deliver 5 = .ok (.astore_n 2, 1) := by decide +kernel
theorem dCl_deliver_6 : decode cCl_deliver 6 = .ok (.aload_n 2, 1) := by decide +kernel
theorem dCl_deliver_7 : decode cCl_deliver 7 = .ok (.getfield 42, 3) := by decide +kernel
theorem dCl_deliver_10 : decode cCl_deliver 10 = .ok (.invokestatic 46, 3) := by decide +kernel
theorem dCl_deliver_13 : decode cCl_deliver 13 = .ok (.istore_n 3, 1) := by decide +kernel
theorem dCl_deliver_14 : decode cCl_deliver 14 = .ok (.aload_n 2, 1) := by decide +kernel
theorem dCl_deliver_15 : decode cCl_deliver 15 = .ok (.iload_n 3, 1) := by decide +kernel
theorem dCl_deliver_16 : decode cCl_deliver 16 = .ok (.invokevirtual 50, 3) := by decide +kernel
theorem dCl_deliver_19 : decode cCl_deliver 19 = .ok (.iload_n 3, 1) := by decide +kernel
theorem dCl_deliver_20 : decode cCl_deliver 20 = .ok (.invokestatic 53, 3) := by decide +kernel
theorem dCl_deliver_23 : decode cCl_deliver 23 = .ok (.ireturn, 1) := by decide +kernel
theorem dCl_lose_0 : decode cCl_lose 0 = .ok (.aload_n 0, 1) := by decide +kernel
theorem dCl_lose_1 : decode cCl_lose 1 = .ok (.iload_n 1, 1) := by decide +kernel
theorem dCl_lose_2 : decode cCl_lose 2 = .ok (.invokevirtual 23, 3) := by decide +kernel
theorem dCl_lose_5 : decode cCl_lose 5 = .ok (.getfield 42, 3) := by decide +kernel
theorem dCl_lose_8 : decode cCl_lose 8 = .ok (.invokestatic 46, 3) := by decide +kernel
theorem dCl_lose_11 : decode cCl_lose 11 = .ok (.invokestatic 53, 3) := by decide +kernel
theorem dCl_lose_14 : decode cCl_lose 14 = .ok (.ireturn, 1) := by decide +kernel
theorem dCl_hand_0 : decode cCl_hand 0 = .ok (.aload_n 0, 1) := by decide +kernel
theorem dCl_hand_1 : decode cCl_hand 1 = .ok (.iload_n 1, 1) := by decide +kernel
theorem dCl_hand_2 : decode cCl_hand 2 = .ok (.invokevirtual 23, 3) := by decide +kernel
theorem dCl_hand_5 : decode cCl_hand 5 = .ok (.astore 6, 2) := by decide +kernel
theorem dCl_hand_7 : decode cCl_hand 7 = .ok (.iload_n 2, 1) := by decide +kernel
theorem dCl_hand_8 : decode cCl_hand 8 = .ok (.invokestatic 59, 3) := by decide +kernel
theorem dCl_hand_11 : decode cCl_hand 11 = .ok (.iload_n 3, 1) := by decide +kernel
theorem dCl_hand_12 : decode cCl_hand 12 = .ok (.iconst 1, 1) := by decide +kernel
theorem dCl_hand_13 : decode cCl_hand 13 = .ok (.if_icmp .lt 25, 3) := by decide +kernel
theorem dCl_hand_16 : decode cCl_hand 16 = .ok (.iload_n 3, 1) := by decide +kernel
theorem dCl_hand_17 : decode cCl_hand 17 = .ok (.bipush 8, 2) := by decide +kernel
theorem dCl_hand_19 : decode cCl_hand 19 = .ok (.if_icmp .gt 19, 3) := by decide +kernel
theorem dCl_hand_22 : decode cCl_hand 22 = .ok (.iload 4, 2) := by decide +kernel
theorem dCl_hand_24 : decode cCl_hand 24 = .ok (.invokestatic 64, 3) := by decide +kernel
theorem dCl_hand_27 : decode cCl_hand 27 = .ok (.ifCond .eq 11, 3) := by decide +kernel
theorem dCl_hand_30 : decode cCl_hand 30 = .ok (.iload 5, 2) := by decide +kernel
theorem dCl_hand_32 : decode cCl_hand 32 = .ok (.invokestatic 64, 3) := by decide +kernel
theorem dCl_hand_35 : decode cCl_hand 35 = .ok (.ifCond .ne 5, 3) := by decide +kernel
theorem dCl_hand_38 : decode cCl_hand 38 = .ok (.iconst 0, 1) := by decide +kernel
theorem dCl_hand_39 : decode cCl_hand 39 = .ok (.ireturn, 1) := by decide +kernel
theorem dCl_hand_40 : decode cCl_hand 40 = .ok (.aload 6, 2) := by decide +kernel
theorem dCl_hand_42 : decode cCl_hand 42 = .ok (.iload_n 3, 1) := by decide +kernel
theorem dCl_hand_43 : decode cCl_hand 43 = .ok (.iload_n 2, 1) := by decide +kernel
theorem dCl_hand_44 : decode cCl_hand 44 = .ok (.iload 4, 2) := by decide +kernel
theorem dCl_hand_46 : decode cCl_hand 46 = .ok (.iload 5, 2) := by decide +kernel
theorem dCl_hand_48 : decode cCl_hand 48 = .ok (.iconst 0, 1) := by decide +kernel
theorem dCl_hand_49 : decode cCl_hand 49 = .ok (.invokestatic 68, 3) := by decide +kernel
theorem dCl_hand_52 : decode cCl_hand 52 = .ok (.invokevirtual 72, 3) := by decide +kernel
theorem dCl_hand_55 : decode cCl_hand 55 = .ok (.iconst 1, 1) := by decide +kernel
theorem dCl_hand_56 : decode cCl_hand 56 = .ok (.ireturn, 1) := by decide +kernel
theorem dCl_call_0 : decode cCl_call 0 = .ok (.aload_n 0, 1) := by decide +kernel
theorem dCl_call_1 : decode cCl_call 1 = .ok (.iload_n 1, 1) := by decide +kernel
theorem dCl_call_2 : decode cCl_call 2 = .ok (.invokevirtual 23, 3) := by decide +kernel
theorem dCl_call_5 : decode cCl_call 5 = .ok (.astore_n 3, 1) := by decide +kernel
theorem dCl_call_6 : decode cCl_call 6 = .ok (.aload_n 3, 1) := by decide +kernel
theorem dCl_call_7 : decode cCl_call 7 = .ok (.iload_n 2, 1) := by decide +kernel
theorem dCl_call_8 : decode cCl_call 8 = .ok (.invokestatic 75, 3) := by decide +kernel
theorem dCl_call_11 : decode cCl_call 11 = .ok (.astore 4, 2) := by decide +kernel
theorem dCl_call_13 : decode cCl_call 13 = .ok (.aload_n 3, 1) := by decide +kernel
theorem dCl_call_14 : decode cCl_call 14 = .ok (.invokevirtual 79, 3) := by decide +kernel
theorem dCl_call_17 : decode cCl_call 17 = .ok (.ifCond .eq 15, 3) := by decide +kernel
theorem dCl_call_20 : decode cCl_call 20 = .ok (.aload 4, 2) := by decide +kernel
theorem dCl_call_22 : decode cCl_call 22 = .ok (.getfield 82, 3) := by decide +kernel
theorem dCl_call_25 : decode cCl_call 25 = .ok (.ifCond .ne 7, 3) := by decide +kernel
theorem dCl_call_28 : decode cCl_call 28 = .ok (.iconst 1, 1) := by decide +kernel
theorem dCl_call_29 : decode cCl_call 29 = .ok (.goto 4, 3) := by decide +kernel
theorem dCl_call_32 : decode cCl_call 32 = .ok (.iconst 0, 1) := by decide +kernel
theorem dCl_call_33 : decode cCl_call 33 = .ok (.invokestatic 34, 3) := by decide +kernel
theorem dCl_call_36 : decode cCl_call 36 = .ok (.aload 4, 2) := by decide +kernel
theorem dCl_call_38 : decode cCl_call 38 = .ok (.iconst 1, 1) := by decide +kernel
theorem dCl_call_39 : decode cCl_call 39 = .ok (.invokevirtual 88, 3) := by decide +kernel
theorem dCl_call_42 : decode cCl_call 42 = .ok (.aload_n 3, 1) := by decide +kernel
theorem dCl_call_43 : decode cCl_call 43 = .ok (.iconst 1, 1) := by decide +kernel
theorem dCl_call_44 : decode cCl_call 44 = .ok (.iload_n 2, 1) := by decide +kernel
theorem dCl_call_45 : decode cCl_call 45 = .ok (.invokestatic 91, 3) := by decide +kernel
theorem dCl_call_48 : decode cCl_call 48 = .ok (.invokevirtual 95, 3) := by decide +kernel
theorem dCl_call_51 : decode cCl_call 51 = .ok (.return_, 1) := by decide +kernel
theorem dCl_accept_0 : decode cCl_accept 0 = .ok (.aload_n 0, 1) := by decide +kernel
theorem dCl_accept_1 : decode cCl_accept 1 = .ok (.iload_n 1, 1) := by decide +kernel
theorem dCl_accept_2 : decode cCl_accept 2 = .ok (.invokevirtual 23, 3) := by decide +kernel
theorem dCl_accept_5 : decode cCl_accept 5 = .ok (.astore_n 3, 1) := by decide +kernel
theorem dCl_accept_6 : decode cCl_accept 6 = .ok (.aload_n 3, 1) := by decide +kernel
theorem dCl_accept_7 : decode cCl_accept 7 = .ok (.iload_n 2, 1) := by decide +kernel
theorem dCl_accept_8 : decode cCl_accept 8 = .ok (.invokestatic 75, 3) := by decide +kernel
theorem dCl_accept_11 : decode cCl_accept 11 = .ok (.astore 4, 2) := by decide +kernel
theorem dCl_accept_13 : decode cCl_accept 13 = .ok (.aload_n 3, 1) := by decide +kernel
theorem dCl_accept_14 : decode cCl_accept 14 = .ok (.invokevirtual 79, 3) := by decide +kernel
theorem dCl_accept_17 : decode cCl_accept 17 = .ok (.ifCond .eq 16, 3) := by decide +kernel
theorem dCl_accept_20 : decode cCl_accept 20 = .ok (.aload 4, 2) := by decide +kernel
theorem dCl_accept_22 : decode cCl_accept 22 = .ok (.getfield 82, 3) := by decide +kernel
theorem dCl_accept_25 : decode cCl_accept 25 = .ok (.iconst 2, 1) := by decide +kernel
theorem dCl_accept_26 : decode cCl_accept 26 = .ok (.if_icmp .ne 7, 3) := by decide +kernel
theorem dCl_accept_29 : decode cCl_accept 29 = .ok (.iconst 1, 1) := by decide +kernel
theorem dCl_accept_30 : decode cCl_accept 30 = .ok (.goto 4, 3) := by decide +kernel
theorem dCl_accept_33 : decode cCl_accept 33 = .ok (.iconst 0, 1) := by decide +kernel
theorem dCl_accept_34 : decode cCl_accept 34 = .ok (.invokestatic 34, 3) := by decide +kernel
theorem dCl_accept_37 : decode cCl_accept 37 = .ok (.aload 4, 2) := by decide +kernel
theorem dCl_accept_39 : decode cCl_accept 39 = .ok (.iconst 3, 1) := by decide +kernel
theorem dCl_accept_40 : decode cCl_accept 40 = .ok (.invokevirtual 88, 3) := by decide +kernel
theorem dCl_accept_43 : decode cCl_accept 43 = .ok (.aload_n 3, 1) := by decide +kernel
theorem dCl_accept_44 : decode cCl_accept 44 = .ok (.iconst 2, 1) := by decide +kernel
theorem dCl_accept_45 : decode cCl_accept 45 = .ok (.iload_n 2, 1) := by decide +kernel
theorem dCl_accept_46 : decode cCl_accept 46 = .ok (.invokestatic 91, 3) := by decide +kernel
theorem dCl_accept_49 : decode cCl_accept 49 = .ok (.invokevirtual 95, 3) := by decide +kernel
theorem dCl_accept_52 : decode cCl_accept 52 = .ok (.return_, 1) := by decide +kernel
theorem dCl_clear_0 : decode cCl_clear 0 = .ok (.aload_n 0, 1) := by decide +kernel
theorem dCl_clear_1 : decode cCl_clear 1 = .ok (.iload_n 1, 1) := by decide +kernel
theorem dCl_clear_2 : decode cCl_clear 2 = .ok (.invokevirtual 23, 3) := by decide +kernel
theorem dCl_clear_5 : decode cCl_clear 5 = .ok (.astore_n 3, 1) := by decide +kernel
theorem dCl_clear_6 : decode cCl_clear 6 = .ok (.aload_n 3, 1) := by decide +kernel
theorem dCl_clear_7 : decode cCl_clear 7 = .ok (.iload_n 2, 1) := by decide +kernel
theorem dCl_clear_8 : decode cCl_clear 8 = .ok (.invokestatic 75, 3) := by decide +kernel
theorem dCl_clear_11 : decode cCl_clear 11 = .ok (.astore 4, 2) := by decide +kernel
theorem dCl_clear_13 : decode cCl_clear 13 = .ok (.aload 4, 2) := by decide +kernel
theorem dCl_clear_15 : decode cCl_clear 15 = .ok (.getfield 82, 3) := by decide +kernel
theorem dCl_clear_18 : decode cCl_clear 18 = .ok (.ifCond .eq 16, 3) := by decide +kernel
theorem dCl_clear_21 : decode cCl_clear 21 = .ok (.aload 4, 2) := by decide +kernel
theorem dCl_clear_23 : decode cCl_clear 23 = .ok (.getfield 82, 3) := by decide +kernel
theorem dCl_clear_26 : decode cCl_clear 26 = .ok (.iconst 4, 1) := by decide +kernel
theorem dCl_clear_27 : decode cCl_clear 27 = .ok (.if_icmp .eq 7, 3) := by decide +kernel
theorem dCl_clear_30 : decode cCl_clear 30 = .ok (.iconst 1, 1) := by decide +kernel
theorem dCl_clear_31 : decode cCl_clear 31 = .ok (.goto 4, 3) := by decide +kernel
theorem dCl_clear_34 : decode cCl_clear 34 = .ok (.iconst 0, 1) := by decide +kernel
theorem dCl_clear_35 : decode cCl_clear 35 = .ok (.istore 5, 2) := by decide +kernel
theorem dCl_clear_37 : decode cCl_clear 37 = .ok (.aload_n 3, 1) := by decide +kernel
theorem dCl_clear_38 : decode cCl_clear 38 = .ok (.invokevirtual 79, 3) := by decide +kernel
theorem dCl_clear_41 : decode cCl_clear 41 = .ok (.ifCond .eq 12, 3) := by decide +kernel
theorem dCl_clear_44 : decode cCl_clear 44 = .ok (.iload 5, 2) := by decide +kernel
theorem dCl_clear_46 : decode cCl_clear 46 = .ok (.ifCond .eq 7, 3) := by decide +kernel
theorem dCl_clear_49 : decode cCl_clear 49 = .ok (.iconst 1, 1) := by decide +kernel
theorem dCl_clear_50 : decode cCl_clear 50 = .ok (.goto 4, 3) := by decide +kernel
theorem dCl_clear_53 : decode cCl_clear 53 = .ok (.iconst 0, 1) := by decide +kernel
theorem dCl_clear_54 : decode cCl_clear 54 = .ok (.invokestatic 34, 3) := by decide +kernel
theorem dCl_clear_57 : decode cCl_clear 57 = .ok (.aload 4, 2) := by decide +kernel
theorem dCl_clear_59 : decode cCl_clear 59 = .ok (.iconst 4, 1) := by decide +kernel
theorem dCl_clear_60 : decode cCl_clear 60 = .ok (.invokevirtual 88, 3) := by decide +kernel
theorem dCl_clear_63 : decode cCl_clear 63 = .ok (.aload_n 3, 1) := by decide +kernel
theorem dCl_clear_64 : decode cCl_clear 64 = .ok (.iconst 3, 1) := by decide +kernel
theorem dCl_clear_65 : decode cCl_clear 65 = .ok (.iload_n 2, 1) := by decide +kernel
theorem dCl_clear_66 : decode cCl_clear 66 = .ok (.invokestatic 91, 3) := by decide +kernel
theorem dCl_clear_69 : decode cCl_clear 69 = .ok (.invokevirtual 95, 3) := by decide +kernel
theorem dCl_clear_72 : decode cCl_clear 72 = .ok (.return_, 1) := by decide +kernel
theorem dCl_reset_0 : decode cCl_reset 0 = .ok (.aload_n 0, 1) := by decide +kernel
theorem dCl_reset_1 : decode cCl_reset 1 = .ok (.iload_n 1, 1) := by decide +kernel
theorem dCl_reset_2 : decode cCl_reset 2 = .ok (.invokevirtual 23, 3) := by decide +kernel
theorem dCl_reset_5 : decode cCl_reset 5 = .ok (.astore_n 3, 1) := by decide +kernel
theorem dCl_reset_6 : decode cCl_reset 6 = .ok (.aload_n 3, 1) := by decide +kernel
theorem dCl_reset_7 : decode cCl_reset 7 = .ok (.iload_n 2, 1) := by decide +kernel
theorem dCl_reset_8 : decode cCl_reset 8 = .ok (.invokestatic 75, 3) := by decide +kernel
theorem dCl_reset_11 : decode cCl_reset 11 = .ok (.astore 4, 2) := by decide +kernel
theorem dCl_reset_13 : decode cCl_reset 13 = .ok (.aload_n 3, 1) := by decide +kernel
theorem dCl_reset_14 : decode cCl_reset 14 = .ok (.invokevirtual 79, 3) := by decide +kernel
theorem dCl_reset_17 : decode cCl_reset 17 = .ok (.ifCond .eq 16, 3) := by decide +kernel
theorem dCl_reset_20 : decode cCl_reset 20 = .ok (.aload 4, 2) := by decide +kernel
theorem dCl_reset_22 : decode cCl_reset 22 = .ok (.getfield 82, 3) := by decide +kernel
theorem dCl_reset_25 : decode cCl_reset 25 = .ok (.iconst 3, 1) := by decide +kernel
theorem dCl_reset_26 : decode cCl_reset 26 = .ok (.if_icmp .ne 7, 3) := by decide +kernel
theorem dCl_reset_29 : decode cCl_reset 29 = .ok (.iconst 1, 1) := by decide +kernel
theorem dCl_reset_30 : decode cCl_reset 30 = .ok (.goto 4, 3) := by decide +kernel
theorem dCl_reset_33 : decode cCl_reset 33 = .ok (.iconst 0, 1) := by decide +kernel
theorem dCl_reset_34 : decode cCl_reset 34 = .ok (.invokestatic 34, 3) := by decide +kernel
theorem dCl_reset_37 : decode cCl_reset 37 = .ok (.aload 4, 2) := by decide +kernel
theorem dCl_reset_39 : decode cCl_reset 39 = .ok (.iconst 5, 1) := by decide +kernel
theorem dCl_reset_40 : decode cCl_reset 40 = .ok (.invokevirtual 88, 3) := by decide +kernel
theorem dCl_reset_43 : decode cCl_reset 43 = .ok (.aload_n 3, 1) := by decide +kernel
theorem dCl_reset_44 : decode cCl_reset 44 = .ok (.bipush 7, 2) := by decide +kernel
theorem dCl_reset_46 : decode cCl_reset 46 = .ok (.iload_n 2, 1) := by decide +kernel
theorem dCl_reset_47 : decode cCl_reset 47 = .ok (.invokestatic 91, 3) := by decide +kernel
theorem dCl_reset_50 : decode cCl_reset 50 = .ok (.invokevirtual 95, 3) := by decide +kernel
theorem dCl_reset_53 : decode cCl_reset 53 = .ok (.return_, 1) := by decide +kernel
theorem dCl_send_0 : decode cCl_send 0 = .ok (.aload_n 0, 1) := by decide +kernel
theorem dCl_send_1 : decode cCl_send 1 = .ok (.iload_n 1, 1) := by decide +kernel
theorem dCl_send_2 : decode cCl_send 2 = .ok (.invokevirtual 23, 3) := by decide +kernel
theorem dCl_send_5 : decode cCl_send 5 = .ok (.astore 5, 2) := by decide +kernel
theorem dCl_send_7 : decode cCl_send 7 = .ok (.aload 5, 2) := by decide +kernel
theorem dCl_send_9 : decode cCl_send 9 = .ok (.iload_n 2, 1) := by decide +kernel
theorem dCl_send_10 : decode cCl_send 10 = .ok (.invokestatic 75, 3) := by decide +kernel
theorem dCl_send_13 : decode cCl_send 13 = .ok (.astore 6, 2) := by decide +kernel
theorem dCl_send_15 : decode cCl_send 15 = .ok (.iload_n 3, 1) := by decide +kernel
theorem dCl_send_16 : decode cCl_send 16 = .ok (.invokestatic 98, 3) := by decide +kernel
theorem dCl_send_19 : decode cCl_send 19 = .ok (.aload 5, 2) := by decide +kernel
theorem dCl_send_21 : decode cCl_send 21 = .ok (.invokevirtual 79, 3) := by decide +kernel
theorem dCl_send_24 : decode cCl_send 24 = .ok (.ifCond .eq 16, 3) := by decide +kernel
theorem dCl_send_27 : decode cCl_send 27 = .ok (.aload 6, 2) := by decide +kernel
theorem dCl_send_29 : decode cCl_send 29 = .ok (.getfield 82, 3) := by decide +kernel
theorem dCl_send_32 : decode cCl_send 32 = .ok (.iconst 3, 1) := by decide +kernel
theorem dCl_send_33 : decode cCl_send 33 = .ok (.if_icmp .ne 7, 3) := by decide +kernel
theorem dCl_send_36 : decode cCl_send 36 = .ok (.iconst 1, 1) := by decide +kernel
theorem dCl_send_37 : decode cCl_send 37 = .ok (.goto 4, 3) := by decide +kernel
theorem dCl_send_40 : decode cCl_send 40 = .ok (.iconst 0, 1) := by decide +kernel
theorem dCl_send_41 : decode cCl_send 41 = .ok (.invokestatic 34, 3) := by decide +kernel
theorem dCl_send_44 : decode cCl_send 44 = .ok (.aload 6, 2) := by decide +kernel
theorem dCl_send_46 : decode cCl_send 46 = .ok (.getfield 101, 3) := by decide +kernel
theorem dCl_send_49 : decode cCl_send 49 = .ok (.aload 6, 2) := by decide +kernel
theorem dCl_send_51 : decode cCl_send 51 = .ok (.getfield 104, 3) := by decide +kernel
theorem dCl_send_54 : decode cCl_send 54 = .ok (.invokestatic 107, 3) := by decide +kernel
theorem dCl_send_57 : decode cCl_send 57 = .ok (.iconst 2, 1) := by decide +kernel
theorem dCl_send_58 : decode cCl_send 58 = .ok (.if_icmp .lt 5, 3) := by decide +kernel
theorem dCl_send_61 : decode cCl_send 61 = .ok (.iconst 0, 1) := by decide +kernel
theorem dCl_send_62 : decode cCl_send 62 = .ok (.ireturn, 1) := by decide +kernel
theorem dCl_send_63 : decode cCl_send 63 = .ok (.iload 4, 2) := by decide +kernel
theorem dCl_send_65 : decode cCl_send 65 = .ok (.ifCond .eq 11, 3) := by decide +kernel
theorem dCl_send_68 : decode cCl_send 68 = .ok (.iload_n 3, 1) := by decide +kernel
theorem dCl_send_69 : decode cCl_send 69 = .ok (.sipush 256, 3) := by decide +kernel
theorem dCl_send_72 : decode cCl_send 72 = .ok (.iadd, 1) := by decide +kernel
theorem dCl_send_73 : decode cCl_send 73 = .ok (.goto 4, 3) := by decide +kernel
theorem dCl_send_76 : decode cCl_send 76 = .ok (.iload_n 3, 1) := by decide +kernel
theorem dCl_send_77 : decode cCl_send 77 = .ok (.istore 7, 2) := by decide +kernel
theorem dCl_send_79 : decode cCl_send 79 = .ok (.iconst 5, 1) := by decide +kernel
theorem dCl_send_80 : decode cCl_send 80 = .ok (.iload_n 2, 1) := by decide +kernel
theorem dCl_send_81 : decode cCl_send 81 = .ok (.aload 6, 2) := by decide +kernel
theorem dCl_send_83 : decode cCl_send 83 = .ok (.getfield 104, 3) := by decide +kernel
theorem dCl_send_86 : decode cCl_send 86 = .ok (.aload 6, 2) := by decide +kernel
theorem dCl_send_88 : decode cCl_send 88 = .ok (.getfield 110, 3) := by decide +kernel
theorem dCl_send_91 : decode cCl_send 91 = .ok (.iload 7, 2) := by decide +kernel
theorem dCl_send_93 : decode cCl_send 93 = .ok (.invokestatic 68, 3) := by decide +kernel
theorem dCl_send_96 : decode cCl_send 96 = .ok (.istore 8, 2) := by decide +kernel
theorem dCl_send_98 : decode cCl_send 98 = .ok (.aload 6, 2) := by decide +kernel
theorem dCl_send_100 : decode cCl_send 100 = .ok (.aload 6, 2) := by decide +kernel
theorem dCl_send_102 : decode cCl_send 102 = .ok (.getfield 104, 3) := by decide +kernel
theorem dCl_send_105 : decode cCl_send 105 = .ok (.invokestatic 113, 3) := by decide +kernel
theorem dCl_send_108 : decode cCl_send 108 = .ok (.putfield 104, 3) := by decide +kernel
theorem dCl_send_111 : decode cCl_send 111 = .ok (.aload 5, 2) := by decide +kernel
theorem dCl_send_113 : decode cCl_send 113 = .ok (.iload 8, 2) := by decide +kernel
theorem dCl_send_115 : decode cCl_send 115 = .ok (.invokevirtual 95, 3) := by decide +kernel
theorem dCl_send_118 : decode cCl_send 118 = .ok (.iconst 1, 1) := by decide +kernel
theorem dCl_send_119 : decode cCl_send 119 = .ok (.ireturn, 1) := by decide +kernel
theorem dCl_receive_0 : decode cCl_receive 0 = .ok (.aload_n 0, 1) := by decide +kernel
theorem dCl_receive_1 : decode cCl_receive 1 = .ok (.iload_n 1, 1) := by decide +kernel
theorem dCl_receive_2 : decode cCl_receive 2 = .ok (.invokevirtual 23, 3) := by decide +kernel
theorem dCl_receive_5 : decode cCl_receive 5 = .ok (.astore_n 3, 1) := by decide +kernel
theorem dCl_receive_6 : decode cCl_receive 6 = .ok (.aload_n 3, 1) := by decide +kernel
theorem dCl_receive_7 : decode cCl_receive 7 = .ok (.iload_n 2, 1) := by decide +kernel
theorem dCl_receive_8 : decode cCl_receive 8 = .ok (.invokestatic 75, 3) := by decide +kernel
theorem dCl_receive_11 : decode cCl_receive 11 = .ok (.astore 4, 2) := by decide +kernel
theorem dCl_receive_13 : decode cCl_receive 13 = .ok (.aload_n 3, 1) := by decide +kernel
theorem dCl_receive_14 : decode cCl_receive 14 = .ok (.invokevirtual 79, 3) := by decide +kernel
theorem dCl_receive_17 : decode cCl_receive 17 = .ok (.ifCond .eq 16, 3) := by decide +kernel
theorem dCl_receive_20 : decode cCl_receive 20 = .ok (.aload 4, 2) := by decide +kernel
theorem dCl_receive_22 : decode cCl_receive 22 = .ok (.getfield 82, 3) := by decide +kernel
theorem dCl_receive_25 : decode cCl_receive 25 = .ok (.iconst 3, 1) := by decide +kernel
theorem dCl_receive_26 : decode cCl_receive 26 = .ok (.if_icmp .ne 7, 3) := by decide +kernel
theorem dCl_receive_29 : decode cCl_receive 29 = .ok (.iconst 1, 1) := by decide +kernel
theorem dCl_receive_30 : decode cCl_receive 30 = .ok (.goto 4, 3) := by decide +kernel
theorem dCl_receive_33 : decode cCl_receive 33 = .ok (.iconst 0, 1) := by decide +kernel
theorem dCl_receive_34 : decode cCl_receive 34 = .ok (.invokestatic 34, 3) := by decide +kernel
theorem dCl_receive_37 : decode cCl_receive 37 = .ok (.aload 4, 2) := by decide +kernel
theorem dCl_receive_39 : decode cCl_receive 39 = .ok (.getfield 116, 3) := by decide +kernel
theorem dCl_receive_42 : decode cCl_receive 42 = .ok (.invokestatic 119, 3) := by decide +kernel
theorem dCl_receive_45 : decode cCl_receive 45 = .ok (.aload 4, 2) := by decide +kernel
theorem dCl_receive_47 : decode cCl_receive 47 = .ok (.invokevirtual 123, 3) := by decide +kernel
theorem dCl_receive_50 : decode cCl_receive 50 = .ok (.istore 5, 2) := by decide +kernel
theorem dCl_receive_52 : decode cCl_receive 52 = .ok (.aload_n 3, 1) := by decide +kernel
theorem dCl_receive_53 : decode cCl_receive 53 = .ok (.bipush 6, 2) := by decide +kernel
theorem dCl_receive_55 : decode cCl_receive 55 = .ok (.iload_n 2, 1) := by decide +kernel
theorem dCl_receive_56 : decode cCl_receive 56 = .ok (.iconst 0, 1) := by decide +kernel
theorem dCl_receive_57 : decode cCl_receive 57 = .ok (.aload 4, 2) := by decide +kernel
theorem dCl_receive_59 : decode cCl_receive 59 = .ok (.getfield 110, 3) := by decide +kernel
theorem dCl_receive_62 : decode cCl_receive 62 = .ok (.iconst 0, 1) := by decide +kernel
theorem dCl_receive_63 : decode cCl_receive 63 = .ok (.invokestatic 68, 3) := by decide +kernel
theorem dCl_receive_66 : decode cCl_receive 66 = .ok (.invokevirtual 95, 3) := by decide +kernel
theorem dCl_receive_69 : decode cCl_receive 69 = .ok (.iload 5, 2) := by decide +kernel
theorem dCl_receive_71 : decode cCl_receive 71 = .ok (.ireturn, 1) := by decide +kernel
theorem dCl_link_0 : decode cCl_link 0 = .ok (.aload_n 0, 1) := by decide +kernel
theorem dCl_link_1 : decode cCl_link 1 = .ok (.iload_n 1, 1) := by decide +kernel
theorem dCl_link_2 : decode cCl_link 2 = .ok (.invokevirtual 23, 3) := by decide +kernel
theorem dCl_link_5 : decode cCl_link 5 = .ok (.astore_n 3, 1) := by decide +kernel
theorem dCl_link_6 : decode cCl_link 6 = .ok (.iload_n 2, 1) := by decide +kernel
theorem dCl_link_7 : decode cCl_link 7 = .ok (.tableswitch 99 0 7 #[45, 50, 55, 60, 65, 70, 83, 91], 45) := by decide +kernel
theorem dCl_link_52 : decode cCl_link 52 = .ok (.aload_n 3, 1) := by decide +kernel
theorem dCl_link_53 : decode cCl_link 53 = .ok (.getfield 126, 3) := by decide +kernel
theorem dCl_link_56 : decode cCl_link 56 = .ok (.ireturn, 1) := by decide +kernel
theorem dCl_link_57 : decode cCl_link 57 = .ok (.aload_n 3, 1) := by decide +kernel
theorem dCl_link_58 : decode cCl_link 58 = .ok (.getfield 129, 3) := by decide +kernel
theorem dCl_link_61 : decode cCl_link 61 = .ok (.ireturn, 1) := by decide +kernel
theorem dCl_link_62 : decode cCl_link 62 = .ok (.aload_n 3, 1) := by decide +kernel
theorem dCl_link_63 : decode cCl_link 63 = .ok (.getfield 132, 3) := by decide +kernel
theorem dCl_link_66 : decode cCl_link 66 = .ok (.ireturn, 1) := by decide +kernel
theorem dCl_link_67 : decode cCl_link 67 = .ok (.aload_n 3, 1) := by decide +kernel
theorem dCl_link_68 : decode cCl_link 68 = .ok (.getfield 135, 3) := by decide +kernel
theorem dCl_link_71 : decode cCl_link 71 = .ok (.ireturn, 1) := by decide +kernel
theorem dCl_link_72 : decode cCl_link 72 = .ok (.aload_n 3, 1) := by decide +kernel
theorem dCl_link_73 : decode cCl_link 73 = .ok (.getfield 138, 3) := by decide +kernel
theorem dCl_link_76 : decode cCl_link 76 = .ok (.ireturn, 1) := by decide +kernel
theorem dCl_link_77 : decode cCl_link 77 = .ok (.aload_n 3, 1) := by decide +kernel
theorem dCl_link_78 : decode cCl_link 78 = .ok (.getfield 141, 3) := by decide +kernel
theorem dCl_link_81 : decode cCl_link 81 = .ok (.ifCond .eq 7, 3) := by decide +kernel
theorem dCl_link_84 : decode cCl_link 84 = .ok (.iconst 1, 1) := by decide +kernel
theorem dCl_link_85 : decode cCl_link 85 = .ok (.goto 4, 3) := by decide +kernel
theorem dCl_link_88 : decode cCl_link 88 = .ok (.iconst 0, 1) := by decide +kernel
theorem dCl_link_89 : decode cCl_link 89 = .ok (.ireturn, 1) := by decide +kernel
theorem dCl_link_90 : decode cCl_link 90 = .ok (.aload_n 3, 1) := by decide +kernel
theorem dCl_link_91 : decode cCl_link 91 = .ok (.getfield 145, 3) := by decide +kernel
theorem dCl_link_94 : decode cCl_link 94 = .ok (.getfield 148, 3) := by decide +kernel
theorem dCl_link_97 : decode cCl_link 97 = .ok (.ireturn, 1) := by decide +kernel
theorem dCl_link_98 : decode cCl_link 98 = .ok (.aload_n 3, 1) := by decide +kernel
theorem dCl_link_99 : decode cCl_link 99 = .ok (.getfield 42, 3) := by decide +kernel
theorem dCl_link_102 : decode cCl_link 102 = .ok (.getfield 148, 3) := by decide +kernel
theorem dCl_link_105 : decode cCl_link 105 = .ok (.ireturn, 1) := by decide +kernel
theorem dCl_link_106 : decode cCl_link 106 = .ok (.iconst (-1), 1) := by decide +kernel
theorem dCl_link_107 : decode cCl_link 107 = .ok (.ireturn, 1) := by decide +kernel
theorem dCl_channel_0 : decode cCl_channel 0 = .ok (.aload_n 0, 1) := by decide +kernel
theorem dCl_channel_1 : decode cCl_channel 1 = .ok (.iload_n 1, 1) := by decide +kernel
theorem dCl_channel_2 : decode cCl_channel 2 = .ok (.invokevirtual 23, 3) := by decide +kernel
theorem dCl_channel_5 : decode cCl_channel 5 = .ok (.iload_n 2, 1) := by decide +kernel
theorem dCl_channel_6 : decode cCl_channel 6 = .ok (.invokestatic 75, 3) := by decide +kernel
theorem dCl_channel_9 : decode cCl_channel 9 = .ok (.astore 4, 2) := by decide +kernel
theorem dCl_channel_11 : decode cCl_channel 11 = .ok (.iload_n 3, 1) := by decide +kernel
theorem dCl_channel_12 : decode cCl_channel 12 = .ok (.tableswitch 66 0 4 #[36, 42, 48, 54, 60], 36) := by decide +kernel
theorem dCl_channel_48 : decode cCl_channel 48 = .ok (.aload 4, 2) := by decide +kernel
theorem dCl_channel_50 : decode cCl_channel 50 = .ok (.getfield 82, 3) := by decide +kernel
theorem dCl_channel_53 : decode cCl_channel 53 = .ok (.ireturn, 1) := by decide +kernel
theorem dCl_channel_54 : decode cCl_channel 54 = .ok (.aload 4, 2) := by decide +kernel
theorem dCl_channel_56 : decode cCl_channel 56 = .ok (.getfield 104, 3) := by decide +kernel
theorem dCl_channel_59 : decode cCl_channel 59 = .ok (.ireturn, 1) := by decide +kernel
theorem dCl_channel_60 : decode cCl_channel 60 = .ok (.aload 4, 2) := by decide +kernel
theorem dCl_channel_62 : decode cCl_channel 62 = .ok (.getfield 101, 3) := by decide +kernel
theorem dCl_channel_65 : decode cCl_channel 65 = .ok (.ireturn, 1) := by decide +kernel
theorem dCl_channel_66 : decode cCl_channel 66 = .ok (.aload 4, 2) := by decide +kernel
theorem dCl_channel_68 : decode cCl_channel 68 = .ok (.getfield 151, 3) := by decide +kernel
theorem dCl_channel_71 : decode cCl_channel 71 = .ok (.ireturn, 1) := by decide +kernel
theorem dCl_channel_72 : decode cCl_channel 72 = .ok (.aload 4, 2) := by decide +kernel
theorem dCl_channel_74 : decode cCl_channel 74 = .ok (.getfield 110, 3) := by decide +kernel
theorem dCl_channel_77 : decode cCl_channel 77 = .ok (.ireturn, 1) := by decide +kernel
theorem dCl_channel_78 : decode cCl_channel 78 = .ok (.iconst (-1), 1) := by decide +kernel
theorem dCl_channel_79 : decode cCl_channel 79 = .ok (.ireturn, 1) := by decide +kernel
theorem dCl_frame_0 : decode cCl_frame 0 = .ok (.aload_n 0, 1) := by decide +kernel
theorem dCl_frame_1 : decode cCl_frame 1 = .ok (.iload_n 1, 1) := by decide +kernel
theorem dCl_frame_2 : decode cCl_frame 2 = .ok (.invokevirtual 23, 3) := by decide +kernel
theorem dCl_frame_5 : decode cCl_frame 5 = .ok (.getfield 42, 3) := by decide +kernel
theorem dCl_frame_8 : decode cCl_frame 8 = .ok (.astore 4, 2) := by decide +kernel
theorem dCl_frame_10 : decode cCl_frame 10 = .ok (.iload_n 2, 1) := by decide +kernel
theorem dCl_frame_11 : decode cCl_frame 11 = .ok (.ifCond .lt 12, 3) := by decide +kernel
theorem dCl_frame_14 : decode cCl_frame 14 = .ok (.iload_n 2, 1) := by decide +kernel
theorem dCl_frame_15 : decode cCl_frame 15 = .ok (.aload 4, 2) := by decide +kernel
theorem dCl_frame_17 : decode cCl_frame 17 = .ok (.getfield 148, 3) := by decide +kernel
theorem dCl_frame_20 : decode cCl_frame 20 = .ok (.if_icmp .lt 5, 3) := by decide +kernel
theorem dCl_frame_23 : decode cCl_frame 23 = .ok (.iconst (-1), 1) := by decide +kernel
theorem dCl_frame_24 : decode cCl_frame 24 = .ok (.ireturn, 1) := by decide +kernel
theorem dCl_frame_25 : decode cCl_frame 25 = .ok (.aload 4, 2) := by decide +kernel
theorem dCl_frame_27 : decode cCl_frame 27 = .ok (.iload_n 2, 1) := by decide +kernel
theorem dCl_frame_28 : decode cCl_frame 28 = .ok (.invokevirtual 154, 3) := by decide +kernel
theorem dCl_frame_31 : decode cCl_frame 31 = .ok (.istore 5, 2) := by decide +kernel
theorem dCl_frame_33 : decode cCl_frame 33 = .ok (.iload 5, 2) := by decide +kernel
theorem dCl_frame_35 : decode cCl_frame 35 = .ok (.invokestatic 157, 3) := by decide +kernel
theorem dCl_frame_38 : decode cCl_frame 38 = .ok (.istore 6, 2) := by decide +kernel
theorem dCl_frame_40 : decode cCl_frame 40 = .ok (.iload_n 3, 1) := by decide +kernel
theorem dCl_frame_41 : decode cCl_frame 41 = .ok (.tableswitch 95 0 7 #[47, 53, 59, 65, 71, 77, 83, 89], 47) := by decide +kernel
theorem dCl_frame_88 : decode cCl_frame 88 = .ok (.iload 5, 2) := by decide +kernel
theorem dCl_frame_90 : decode cCl_frame 90 = .ok (.invokestatic 53, 3) := by decide +kernel
theorem dCl_frame_93 : decode cCl_frame 93 = .ok (.ireturn, 1) := by decide +kernel
theorem dCl_frame_94 : decode cCl_frame 94 = .ok (.iload 5, 2) := by decide +kernel
theorem dCl_frame_96 : decode cCl_frame 96 = .ok (.invokestatic 160, 3) := by decide +kernel
theorem dCl_frame_99 : decode cCl_frame 99 = .ok (.ireturn, 1) := by decide +kernel
theorem dCl_frame_100 : decode cCl_frame 100 = .ok (.iload 5, 2) := by decide +kernel
theorem dCl_frame_102 : decode cCl_frame 102 = .ok (.invokestatic 163, 3) := by decide +kernel
theorem dCl_frame_105 : decode cCl_frame 105 = .ok (.ireturn, 1) := by decide +kernel
theorem dCl_frame_106 : decode cCl_frame 106 = .ok (.iload 6, 2) := by decide +kernel
theorem dCl_frame_108 : decode cCl_frame 108 = .ok (.invokestatic 166, 3) := by decide +kernel
theorem dCl_frame_111 : decode cCl_frame 111 = .ok (.ireturn, 1) := by decide +kernel
theorem dCl_frame_112 : decode cCl_frame 112 = .ok (.iload 6, 2) := by decide +kernel
theorem dCl_frame_114 : decode cCl_frame 114 = .ok (.invokestatic 167, 3) := by decide +kernel
theorem dCl_frame_117 : decode cCl_frame 117 = .ok (.ireturn, 1) := by decide +kernel
theorem dCl_frame_118 : decode cCl_frame 118 = .ok (.iload 6, 2) := by decide +kernel
theorem dCl_frame_120 : decode cCl_frame 120 = .ok (.invokestatic 170, 3) := by decide +kernel
theorem dCl_frame_123 : decode cCl_frame 123 = .ok (.ireturn, 1) := by decide +kernel
theorem dCl_frame_124 : decode cCl_frame 124 = .ok (.iload 6, 2) := by decide +kernel
theorem dCl_frame_126 : decode cCl_frame 126 = .ok (.invokestatic 171, 3) := by decide +kernel
theorem dCl_frame_129 : decode cCl_frame 129 = .ok (.ireturn, 1) := by decide +kernel
theorem dCl_frame_130 : decode cCl_frame 130 = .ok (.iload 6, 2) := by decide +kernel
theorem dCl_frame_132 : decode cCl_frame 132 = .ok (.invokestatic 172, 3) := by decide +kernel
theorem dCl_frame_135 : decode cCl_frame 135 = .ok (.ireturn, 1) := by decide +kernel
theorem dCl_frame_136 : decode cCl_frame 136 = .ok (.iconst (-1), 1) := by decide +kernel
theorem dCl_frame_137 : decode cCl_frame 137 = .ok (.ireturn, 1) := by decide +kernel
theorem dCl_peek_0 : decode cCl_peek 0 = .ok (.aload_n 0, 1) := by decide +kernel
theorem dCl_peek_1 : decode cCl_peek 1 = .ok (.iload_n 1, 1) := by decide +kernel
theorem dCl_peek_2 : decode cCl_peek 2 = .ok (.invokevirtual 23, 3) := by decide +kernel
theorem dCl_peek_5 : decode cCl_peek 5 = .ok (.iload_n 2, 1) := by decide +kernel
theorem dCl_peek_6 : decode cCl_peek 6 = .ok (.invokestatic 75, 3) := by decide +kernel
theorem dCl_peek_9 : decode cCl_peek 9 = .ok (.getfield 116, 3) := by decide +kernel
theorem dCl_peek_12 : decode cCl_peek 12 = .ok (.astore_n 3, 1) := by decide +kernel
theorem dCl_peek_13 : decode cCl_peek 13 = .ok (.aload_n 3, 1) := by decide +kernel
theorem dCl_peek_14 : decode cCl_peek 14 = .ok (.getfield 148, 3) := by decide +kernel
theorem dCl_peek_17 : decode cCl_peek 17 = .ok (.ifCond .ne 7, 3) := by decide +kernel
theorem dCl_peek_20 : decode cCl_peek 20 = .ok (.iconst (-1), 1) := by decide +kernel
theorem dCl_peek_21 : decode cCl_peek 21 = .ok (.goto 8, 3) := by decide +kernel
theorem dCl_peek_24 : decode cCl_peek 24 = .ok (.aload_n 3, 1) := by decide +kernel
theorem dCl_peek_25 : decode cCl_peek 25 = .ok (.iconst 0, 1) := by decide +kernel
theorem dCl_peek_26 : decode cCl_peek 26 = .ok (.invokevirtual 154, 3) := by decide +kernel
theorem dCl_peek_29 : decode cCl_peek 29 = .ok (.ireturn, 1) := by decide +kernel
theorem dCl_stationAt_0 : decode cCl_stationAt 0 = .ok (.iload_n 1, 1) := by decide +kernel
theorem dCl_stationAt_1 : decode cCl_stationAt 1 = .ok (.ifCond .lt 8, 3) := by decide +kernel
theorem dCl_stationAt_4 : decode cCl_stationAt 4 = .ok (.iload_n 1, 1) := by decide +kernel
theorem dCl_stationAt_5 : decode cCl_stationAt 5 = .ok (.iconst 2, 1) := by decide +kernel
theorem dCl_stationAt_6 : decode cCl_stationAt 6 = .ok (.if_icmp .lt 13, 3) := by decide +kernel
theorem dCl_stationAt_9 : decode cCl_stationAt 9 = .ok (.new 175, 3) := by decide +kernel
theorem dCl_stationAt_12 : decode cCl_stationAt 12 = .ok (.dup, 1) := by decide +kernel
end
section
theorem dCl_stationAt_13 : decode cCl_stationAt 13 = .ok (.ldc 177, 2) := by decide +kernel
theorem dCl_stationAt_15 : decode cCl_stationAt 15 = .ok (.invokespecial 179, 3) := by decide +kernel
theorem dCl_stationAt_18 : decode cCl_stationAt 18 = .ok (.athrow, 1) := by decide +kernel
theorem dCl_stationAt_19 : decode cCl_stationAt 19 = .ok (.aload_n 0, 1) := by decide +kernel
theorem dCl_stationAt_20 : decode cCl_stationAt 20 = .ok (.getfield 16, 3) := by decide +kernel
theorem dCl_stationAt_23 : decode cCl_stationAt 23 = .ok (.iload_n 1, 1) := by decide +kernel
theorem dCl_stationAt_24 : decode cCl_stationAt 24 = .ok (.aaload, 1) := by decide +kernel
theorem dCl_stationAt_25 : decode cCl_stationAt 25 = .ok (.areturn, 1) := by decide +kernel
theorem dCl_channelAt_0 : decode cCl_channelAt 0 = .ok (.iload_n 1, 1) := by decide +kernel
theorem dCl_channelAt_1 : decode cCl_channelAt 1 = .ok (.invokestatic 59, 3) := by decide +kernel
theorem dCl_channelAt_4 : decode cCl_channelAt 4 = .ok (.aload_n 0, 1) := by decide +kernel
theorem dCl_channelAt_5 : decode cCl_channelAt 5 = .ok (.getfield 182, 3) := by decide +kernel
theorem dCl_channelAt_8 : decode cCl_channelAt 8 = .ok (.iload_n 1, 1) := by decide +kernel
theorem dCl_channelAt_9 : decode cCl_channelAt 9 = .ok (.aaload, 1) := by decide +kernel
theorem dCl_channelAt_10 : decode cCl_channelAt 10 = .ok (.areturn, 1) := by decide +kernel
theorem dCl_requireChannel_0 : decode cCl_requireChannel 0 = .ok (.iload_n 0, 1) := by decide +kernel
theorem dCl_requireChannel_1 : decode cCl_requireChannel 1 = .ok (.invokestatic 186, 3) := by decide +kernel
theorem dCl_requireChannel_4 : decode cCl_requireChannel 4 = .ok (.ifCond .ne 13, 3) := by decide +kernel
theorem dCl_requireChannel_7 : decode cCl_requireChannel 7 = .ok (.new 175, 3) := by decide +kernel
theorem dCl_requireChannel_10 : decode cCl_requireChannel 10 = .ok (.dup, 1) := by decide +kernel
theorem dCl_requireChannel_11 : decode cCl_requireChannel 11 = .ok (.ldc 189, 2) := by decide +kernel
theorem dCl_requireChannel_13 : decode cCl_requireChannel 13 = .ok (.invokespecial 179, 3) := by decide +kernel
theorem dCl_requireChannel_16 : decode cCl_requireChannel 16 = .ok (.athrow, 1) := by decide +kernel
theorem dCl_requireChannel_17 : decode cCl_requireChannel 17 = .ok (.return_, 1) := by decide +kernel
theorem dCl_requireValue_0 : decode cCl_requireValue 0 = .ok (.iload_n 0, 1) := by decide +kernel
theorem dCl_requireValue_1 : decode cCl_requireValue 1 = .ok (.ifCond .lt 10, 3) := by decide +kernel
theorem dCl_requireValue_4 : decode cCl_requireValue 4 = .ok (.iload_n 0, 1) := by decide +kernel
theorem dCl_requireValue_5 : decode cCl_requireValue 5 = .ok (.sipush 255, 3) := by decide +kernel
theorem dCl_requireValue_8 : decode cCl_requireValue 8 = .ok (.if_icmp .le 13, 3) := by decide +kernel
theorem dCl_requireValue_11 : decode cCl_requireValue 11 = .ok (.new 191, 3) := by decide +kernel
theorem dCl_requireValue_14 : decode cCl_requireValue 14 = .ok (.dup, 1) := by decide +kernel
theorem dCl_requireValue_15 : decode cCl_requireValue 15 = .ok (.ldc 193, 2) := by decide +kernel
theorem dCl_requireValue_17 : decode cCl_requireValue 17 = .ok (.invokespecial 195, 3) := by decide +kernel
theorem dCl_requireValue_20 : decode cCl_requireValue 20 = .ok (.athrow, 1) := by decide +kernel
theorem dCl_requireValue_21 : decode cCl_requireValue 21 = .ok (.return_, 1) := by decide +kernel
theorem dCl_requireState_0 : decode cCl_requireState 0 = .ok (.iload_n 0, 1) := by decide +kernel
theorem dCl_requireState_1 : decode cCl_requireState 1 = .ok (.ifCond .ne 13, 3) := by decide +kernel
theorem dCl_requireState_4 : decode cCl_requireState 4 = .ok (.new 196, 3) := by decide +kernel
theorem dCl_requireState_7 : decode cCl_requireState 7 = .ok (.dup, 1) := by decide +kernel
theorem dCl_requireState_8 : decode cCl_requireState 8 = .ok (.ldc 198, 2) := by decide +kernel
theorem dCl_requireState_10 : decode cCl_requireState 10 = .ok (.invokespecial 200, 3) := by decide +kernel
theorem dCl_requireState_13 : decode cCl_requireState 13 = .ok (.athrow, 1) := by decide +kernel
theorem dCl_requireState_14 : decode cCl_requireState 14 = .ok (.return_, 1) := by decide +kernel
theorem dCl_requireElement_0 : decode cCl_requireElement 0 = .ok (.aload_n 0, 1) := by decide +kernel
theorem dCl_requireElement_1 : decode cCl_requireElement 1 = .ok (.getfield 148, 3) := by decide +kernel
theorem dCl_requireElement_4 : decode cCl_requireElement 4 = .ok (.ifCond .ne 13, 3) := by decide +kernel
theorem dCl_requireElement_7 : decode cCl_requireElement 7 = .ok (.new 201, 3) := by decide +kernel
theorem dCl_requireElement_10 : decode cCl_requireElement 10 = .ok (.dup, 1) := by decide +kernel
theorem dCl_requireElement_11 : decode cCl_requireElement 11 = .ok (.ldc 203, 2) := by decide +kernel
theorem dCl_requireElement_13 : decode cCl_requireElement 13 = .ok (.invokespecial 205, 3) := by decide +kernel
theorem dCl_requireElement_16 : decode cCl_requireElement 16 = .ok (.athrow, 1) := by decide +kernel
theorem dCl_requireElement_17 : decode cCl_requireElement 17 = .ok (.return_, 1) := by decide +kernel
theorem dCl_takeFrame_0 : decode cCl_takeFrame 0 = .ok (.aload_n 0, 1) := by decide +kernel
theorem dCl_takeFrame_1 : decode cCl_takeFrame 1 = .ok (.invokestatic 119, 3) := by decide +kernel
theorem dCl_takeFrame_4 : decode cCl_takeFrame 4 = .ok (.aload_n 0, 1) := by decide +kernel
theorem dCl_takeFrame_5 : decode cCl_takeFrame 5 = .ok (.iconst 0, 1) := by decide +kernel
theorem dCl_takeFrame_6 : decode cCl_takeFrame 6 = .ok (.invokevirtual 154, 3) := by decide +kernel
theorem dCl_takeFrame_9 : decode cCl_takeFrame 9 = .ok (.istore_n 1, 1) := by decide +kernel
theorem dCl_takeFrame_10 : decode cCl_takeFrame 10 = .ok (.aload_n 0, 1) := by decide +kernel
theorem dCl_takeFrame_11 : decode cCl_takeFrame 11 = .ok (.iconst 1, 1) := by decide +kernel
theorem dCl_takeFrame_12 : decode cCl_takeFrame 12 = .ok (.invokevirtual 206, 3) := by decide +kernel
theorem dCl_takeFrame_15 : decode cCl_takeFrame 15 = .ok (.iload_n 1, 1) := by decide +kernel
theorem dCl_takeFrame_16 : decode cCl_takeFrame 16 = .ok (.ireturn, 1) := by decide +kernel
theorem dCl_isChannel_0 : decode cCl_isChannel 0 = .ok (.iload_n 0, 1) := by decide +kernel
theorem dCl_isChannel_1 : decode cCl_isChannel 1 = .ok (.ifCond .lt 12, 3) := by decide +kernel
theorem dCl_isChannel_4 : decode cCl_isChannel 4 = .ok (.iload_n 0, 1) := by decide +kernel
theorem dCl_isChannel_5 : decode cCl_isChannel 5 = .ok (.iconst 3, 1) := by decide +kernel
theorem dCl_isChannel_6 : decode cCl_isChannel 6 = .ok (.if_icmp .ge 7, 3) := by decide +kernel
theorem dCl_isChannel_9 : decode cCl_isChannel 9 = .ok (.iconst 1, 1) := by decide +kernel
theorem dCl_isChannel_10 : decode cCl_isChannel 10 = .ok (.goto 4, 3) := by decide +kernel
theorem dCl_isChannel_13 : decode cCl_isChannel 13 = .ok (.iconst 0, 1) := by decide +kernel
theorem dCl_isChannel_14 : decode cCl_isChannel 14 = .ok (.ireturn, 1) := by decide +kernel
theorem dCl_isNumber_0 : decode cCl_isNumber 0 = .ok (.iload_n 0, 1) := by decide +kernel
theorem dCl_isNumber_1 : decode cCl_isNumber 1 = .ok (.ifCond .lt 13, 3) := by decide +kernel
theorem dCl_isNumber_4 : decode cCl_isNumber 4 = .ok (.iload_n 0, 1) := by decide +kernel
theorem dCl_isNumber_5 : decode cCl_isNumber 5 = .ok (.bipush 7, 2) := by decide +kernel
theorem dCl_isNumber_7 : decode cCl_isNumber 7 = .ok (.if_icmp .gt 7, 3) := by decide +kernel
theorem dCl_isNumber_10 : decode cCl_isNumber 10 = .ok (.iconst 1, 1) := by decide +kernel
theorem dCl_isNumber_11 : decode cCl_isNumber 11 = .ok (.goto 4, 3) := by decide +kernel
theorem dCl_isNumber_14 : decode cCl_isNumber 14 = .ok (.iconst 0, 1) := by decide +kernel
theorem dCl_isNumber_15 : decode cCl_isNumber 15 = .ok (.ireturn, 1) := by decide +kernel
theorem dCl_after_0 : decode cCl_after 0 = .ok (.iload_n 0, 1) := by decide +kernel
theorem dCl_after_1 : decode cCl_after 1 = .ok (.iconst 1, 1) := by decide +kernel
theorem dCl_after_2 : decode cCl_after 2 = .ok (.iadd, 1) := by decide +kernel
theorem dCl_after_3 : decode cCl_after 3 = .ok (.bipush 7, 2) := by decide +kernel
theorem dCl_after_5 : decode cCl_after 5 = .ok (.iand, 1) := by decide +kernel
theorem dCl_after_6 : decode cCl_after 6 = .ok (.ireturn, 1) := by decide +kernel
theorem dCl_distance_0 : decode cCl_distance 0 = .ok (.iload_n 1, 1) := by decide +kernel
theorem dCl_distance_1 : decode cCl_distance 1 = .ok (.iload_n 0, 1) := by decide +kernel
theorem dCl_distance_2 : decode cCl_distance 2 = .ok (.isub, 1) := by decide +kernel
theorem dCl_distance_3 : decode cCl_distance 3 = .ok (.bipush 7, 2) := by decide +kernel
theorem dCl_distance_5 : decode cCl_distance 5 = .ok (.iand, 1) := by decide +kernel
theorem dCl_distance_6 : decode cCl_distance 6 = .ok (.ireturn, 1) := by decide +kernel
end
section
/-! A layer of my own over the kit: one environment, contracts over cells, a call and an end in one row each. Numbers are Nat, seen through nI. -/
def nestW : Cond → Bool
  | .methodLinkNest _ _ _ _ => true
  | .fieldLinkNest _ _ _ _ _ _ => true
  | _ => false
def nx_ : List Cond := lw_tbl.filter nestW
theorem nx_in {w : Cond} (h : w ∈ lw_tbl) (g : nestW w = true) : w ∈ nx_ := List.mem_filter.mpr ⟨h, g⟩
theorem nest_warm {w : Cond} (g : nestW w = true) {s U : State} (hW : s.WarmedH U.vm) (h : va_Nw w s) : va_Nw w U := by
  unfold nestW at g
  split at g
  · exact va_Nw.warmM hW h
  · exact va_Nw.warmF hW h
  · cases g
theorem nest_tabs {w : Cond} (g : nestW w = true) : w.onTables = true := by
  unfold nestW at g
  split at g
  · rfl
  · rfl
  · cases g
/-- the classes whose objects the worlds hold -/
abbrev cls_ : List vw_C := [(RRw, TRw, 2), (RCh, TCh, 7), (RSt, TSt, 10), (RCl, TCl, 1), (RMo, TMo, 29)]
/-- the arrays' classes -/
abbrev tyL (ca : Nat → ClassId) : List (ClassId × FieldType) := [(ca 0, .int), (ca 1, .boolean), (ca 2, .object RSt), (ca 3, .object RCh), (ca 4, .long)]
def Ev (D : va_G) (ca : Nat → ClassId) (U : State) : Prop := va_K D cls_ (tyL ca) U ∧ (∀ w ∈ nx_, va_Nw w U) ∧ va_AO RSt U ∧ va_AO RCh U
theorem Ev.warm {D : va_G} {ca : Nat → ClassId} {s U : State} (h : Ev D ca s) (hW : s.WarmedH U.vm) : Ev D ca U := ⟨va_K.moved hW.alike h.1, fun w hw => nest_warm (List.mem_filter.mp hw).2 hW (h.2.1 w hw), va_AO.moved hW.alike h.2.2.1, va_AO.moved hW.alike h.2.2.2⟩
theorem Ev.calling {D : va_G} {ca : Nat → ClassId} {U : State} (g : JFrame) (mk : MethodId) (a : Array Value) (h : Ev D ca U) : Ev D ca (U.calling g mk a) := ⟨va_K.moved (u := U) (U := U.calling g mk a) (Vm.Alike.refl U.vm) h.1, fun w hw => va_Nw.same (nest_tabs (List.mem_filter.mp hw).2) (u := U) (U := U.calling g mk a) rfl (h.2.1 w hw), va_AO.moved (u := U) (U := U.calling g mk a) (Vm.Alike.refl U.vm) h.2.2.1, va_AO.moved (u := U) (U := U.calling g mk a) (Vm.Alike.refl U.vm) h.2.2.2⟩
theorem Ev.nest {D : va_G} {ca : Nat → ClassId} {s : State} (h : Ev D ca s) {w : Cond} (hw : w ∈ lw_tbl) (g : nestW w = true) : va_Nw w s := h.2.1 w (nx_in hw g)
theorem Ev.nestU {D : va_G} {ca : Nat → ClassId} {s : State} {args : Array Value} (h : Ev D ca s) {w : Cond} (hw : w ∈ lw_tbl) (g : nestW w = true) : w.before args s = true := va_Nw.use (nest_tabs g) (h.2.1 w (nx_in hw g))
theorem Ev.over2 {D : va_G} {ca : Nat → ClassId} {s : State} (h : Ev D ca s) : va_AO RSt s := h.2.2.1
theorem Ev.over3 {D : va_G} {ca : Nat → ClassId} {s : State} (h : Ev D ca s) : va_AO RCh s := h.2.2.2
theorem ra_eq {U : State} {C : String} {c1 c2 : ClassId} (h1 : va_RA U c1 (.object C)) (h2 : va_RA U c2 (.object C)) : c1 = c2 := by
  obtain ⟨_, _, _, _, _, g1⟩ := h1
  obtain ⟨_, _, _, _, _, g2⟩ := h2
  exact Option.some.inj (g1.symm.trans g2)
def CoP (D : va_G) (ca : Nat → ClassId) (wc : va_W) (sz : Nat) : State → Prop := fun U => U.heap.size = sz ∧ va_P D cls_ wc U.heap ∧ Ev D ca U ∧ va_D (fun _ => True) wc
def CoQ {S : Type} (D : va_G) (rv : S → Option Value) (post : S → Prop) (w1 : S → va_W) (A : Nat → Prop) : Array Value → State → Outcome → State → Prop := fun _ st oc t => (∃ u : S, oc = .returned (rv u) ∧ post u ∧ va_P D cls_ (w1 u) t.heap ∧ va_D A (w1 u)) ∧ va_F A st t
/-- a contract: from the cells wc with the arguments av it returns rv and leaves the cells w1 -/
def Co {S : Type} (l : Launch) (y : MethodName) (ws : List Cond) (rm : Room) (D : va_G) (ca : Nat → ClassId) (av : List Value) (wc : va_W) (rv : S → Option Value) (post : S → Prop) (w1 : S → va_W) (mc ms : Nat) : Prop :=
  ∀ sz : Nat, Met l y ws rm (va_Pc av (CoP D ca wc sz)) (CoQ D rv post w1 (va_A wc sz)) mc ms (va_A wc sz)
theorem CoP.blind {D : va_G} {ca : Nat → ClassId} {av : List Value} {wc : va_W} {sz : Nat} : FrameBlind (va_Pc av (CoP D ca wc sz)) := fun a U g mk h => ⟨h.1, h.2.1, h.2.2.1, Ev.calling g mk a h.2.2.2.1, h.2.2.2.2⟩
theorem Co.of {S : Type} {l : Launch} {y : MethodName} {ws' : List Cond} {rm : Room} {D : va_G} {ca : Nat → ClassId} {av : List Value} {wc : va_W} {rv : S → Option Value} {post : S → Prop} {w1 : S → va_W} {mc ms : Nat} (cc : ByteArray) (maxL : Nat) (ret : Option FieldType) (hy : plainName y.cls = true) (hlen : (lg_sl av).length ≤ maxL)
    (body : ∀ (p : Program) (e : Env) (s : State) (m : MethodId) (args : Array Value) (below : List Frame) (meth : Method) (c : Code) (A : Nat → Prop) (ls : Array Slot), CallFix p m c cc maxL s args (Cond.code y cc maxL ret :: ws') y.cls → meth.sig.returnType = ret → meth.locks = false → meth.name = y.name → Ev D ca s → va_P D cls_ wc s.heap → va_D A wc → va_S A s.heap s.heap [] → (∀ q : Nat, s.heap.size ≤ q → A q) → lv_has ls maxL (lv_args 0 av) →
      W p l e rm s m args below meth c s.heap [] 0 0 (MQ below (CoQ D rv post w1 A) args s mc ms A) (F0 m 0 ls [])) :
    Co l y (Cond.code y cc maxL ret :: ws') rm D ca av wc rv post w1 mc ms := by
  intro sz
  refine Met.ofW (cc := cc) (maxL := maxL) (ret := ret) hy rfl ?_
  intro p e s m args below meth c s₁ B hml hv
  obtain ⟨rfl, rfl, hP, hE, hD⟩ := hv
  rw [lg_entry_eq]
  exact body p e s m _ below meth c _ _ ⟨B.exec, B.bytes, hml, findClass_of_methodNamed B.named, atoms_spec B.pre⟩ B.returns B.notSynchronized (name_of_methodNamed B.named B.method).1 hE hP hD.self va_S.rf (fun q h => Or.inr h) (lv_entry av hlen)
theorem fm_of {is : List Nat} {ws wc : va_W} (h : is.map (fun i => ws[i]?) = wc.map some) : is.filterMap (fun i => ws[i]?) = wc := by
  have e : is.filterMap (fun i => ws[i]?) = (is.map (fun i => ws[i]?)).filterMap id := by rw [List.filterMap_map]; rfl
  rw [e, h, List.filterMap_map]
  simp
section KA
variable {p : Program} {l : Launch} {e : Env} {R : Room} {s : State} {m : MethodId} {args : Array Value} {below : List Frame} {meth : Method} {c : Code} {H : Heap} {locs : List Loc} {cells slots : Nat} {Q : State → Prop}
variable {cc : ByteArray} {pc : Nat} {ls : Array Slot} {rest st0 : List Value} {D : va_G} {ca : Nat → ClassId} {A : Nat → Prop} {S : Type} {rv : S → Option Value} {post : S → Prop} {w1 : S → va_W} {mc ms : Nat}
theorem Co.end_ {g : JFrame} {v : Option Value} (u : S) (hv : rv u = v) (hp : post u) {wx : va_W} (hw : w1 u = wx) (hP : va_P D cls_ wx H) (hD : va_D A wx) (hS : va_S A s.heap H locs) (hc : cells ≤ mc) (hs : slots ≤ ms)
    (k : (∀ t : State, t.heap = H → s.WarmedH t.vm → CoQ D rv post w1 A args s (.returned v) t) → (∀ q ∈ locs, A q.base) → W p l e R s m args below meth c H locs mc ms (MQ below (CoQ D rv post w1 A) args s mc ms A) g) :
    W p l e R s m args below meth c H locs cells slots (MQ below (CoQ D rv post w1 A) args s mc ms A) g :=
  W.widen hc hs (k (fun t ht _ => ⟨⟨u, by rw [hv], hp, by rw [ht, hw]; exact hP, by rw [hw]; exact hD⟩, hS.F ht⟩) hS.2.2)
theorem Co.reti (hx : p.tables.exec = Jvm.exec) (hb : c.code = cc) (hr : meth.sig.returnType = some .int) (hlk : meth.locks = false) {v : Int32} (hdg : decode cc pc = .ok (.ireturn, 1)) (hS : va_S A s.heap H locs) {wx : va_W} (hP : va_P D cls_ wx H) (hD : va_D A wx) (u : S) (hv : rv u = some (.int v)) (hp : post u) (hw : w1 u = wx) (hc : cells ≤ mc) (hs : slots ≤ ms) :
    W p l e R s m args below meth c H locs cells slots (MQ below (CoQ D rv post w1 A) args s mc ms A) (F0 m pc ls [.int v]) :=
  Co.end_ u hv hp hw hP hD hS hc hs (fun h1 h2 => W.iret hx hb hr h1 h2 hdg hlk)
theorem Co.retz (hx : p.tables.exec = Jvm.exec) (hb : c.code = cc) (hr : meth.sig.returnType = some .boolean) (hlk : meth.locks = false) {v : Int32} (hn : narrow .boolean (.int v) = .int v) (hdg : decode cc pc = .ok (.ireturn, 1)) (hS : va_S A s.heap H locs) {wx : va_W} (hP : va_P D cls_ wx H) (hD : va_D A wx) (u : S) (hv : rv u = some (.int v)) (hp : post u) (hw : w1 u = wx) (hc : cells ≤ mc) (hs : slots ≤ ms) :
    W p l e R s m args below meth c H locs cells slots (MQ below (CoQ D rv post w1 A) args s mc ms A) (F0 m pc ls [.int v]) :=
  Co.end_ u hv hp hw hP hD hS hc hs (fun h1 h2 => W.zret hx hb hr hn h1 h2 hdg hlk)
theorem Co.retv (hx : p.tables.exec = Jvm.exec) (hb : c.code = cc) (hr : meth.sig.returnType = none) (hlk : meth.locks = false) (hdg : decode cc pc = .ok (.return_, 1)) (hS : va_S A s.heap H locs) {wx : va_W} (hP : va_P D cls_ wx H) (hD : va_D A wx) (u : S) (hv : rv u = none) (hp : post u) (hw : w1 u = wx) (hc : cells ≤ mc) (hs : slots ≤ ms) :
    W p l e R s m args below meth c H locs cells slots (MQ below (CoQ D rv post w1 A) args s mc ms A) (F0 m pc ls []) :=
  Co.end_ u hv hp hw hP hD hS hc hs (fun h1 h2 => W.vret hx hb hr h1 h2 hdg hlk)
theorem Co.reta (hx : p.tables.exec = Jvm.exec) (hb : c.code = cc) {rt : FieldType} (hr : meth.sig.returnType = some rt) (hrt : (∃ n, rt = .object n) ∨ ∃ t, rt = .array t) (hlk : meth.locks = false) {v : Nat} (hdg : decode cc pc = .ok (.areturn, 1)) (hS : va_S A s.heap H locs) {wx : va_W} (hP : va_P D cls_ wx H) (hD : va_D A wx) (u : S) (hv : rv u = some (.ref v)) (hp : post u) (hw : w1 u = wx) (hc : cells ≤ mc) (hs : slots ≤ ms) :
    W p l e R s m args below meth c H locs cells slots (MQ below (CoQ D rv post w1 A) args s mc ms A) (F0 m pc ls [.ref v]) :=
  Co.end_ u hv hp hw hP hD hS hc hs (fun h1 h2 => W.aret hx hb hr hrt (Or.inr ⟨v, rfl⟩) h1 h2 hdg hlk)
variable {H0 : Heap} {wx wc : va_W} {a : Array Value}
/-- behind a call: what the caller kept beside what came back -/
theorem kV (hr : va_Run p l e R s m args below meth c H locs cells slots mc ms (F0 m pc ls st0) rest (CoQ D (fun _ : S => none) post w1 (va_A wc H.size) a) (va_A wc H.size)) (hP : va_P D cls_ wx H) (hD : va_D A wx) (hS : va_S A H0 H locs) (hA : ∀ q : Nat, H0.size ≤ q → A q) (isC isR : List Nat) (hC : isC.map (fun i => wx[i]?) = wc.map some) (hR : isR.map (fun i => wx[i]?) = (isR.filterMap (fun i => wx[i]?)).map some) (hn : va_nd isR = true) (hdis : ∀ i ∈ isR, i ∉ isC)
    (kk : ∀ (u : S) (H1 : Heap) (locs1 : List Loc), post u → va_P D cls_ (isR.filterMap (fun i => wx[i]?) ++ w1 u) H1 → va_D A (isR.filterMap (fun i => wx[i]?) ++ w1 u) → va_S A H0 H1 locs1 → W p l e R s m args below meth c H1 locs1 (cells + mc) (slots + ms) Q (F0 m (pc + 3) ls rest)) : W p l e R s m args below meth c H locs cells slots Q (F0 m pc ls st0) := by
  have hF := va_free hD hS hA isC hC
  refine va_callv (S := S) (post := post) (B := fun u t => va_P D cls_ (w1 u) t.heap ∧ va_D (va_A wc H.size) (w1 u)) (A1 := va_A wc H.size) (a := a) hr hS (fun q _ h => hF q h) hF ?_
  intro u t H1 locs1 ht hal hp hB hz hk hS1
  obtain ⟨hP1, hD1⟩ := hB
  rw [ht] at hP1
  obtain ⟨hP2, hD2⟩ := va_join hP hD isC isR hC hR hn hdis hk hF hP1 hD1
  exact kk u H1 locs1 hp hP2 hD2 hS1
theorem kI {r : S → Int32} (hr : va_Run p l e R s m args below meth c H locs cells slots mc ms (F0 m pc ls st0) rest (CoQ D (fun u : S => some (.int (r u))) post w1 (va_A wc H.size) a) (va_A wc H.size)) (hP : va_P D cls_ wx H) (hD : va_D A wx) (hS : va_S A H0 H locs) (hA : ∀ q : Nat, H0.size ≤ q → A q) (isC isR : List Nat) (hC : isC.map (fun i => wx[i]?) = wc.map some) (hR : isR.map (fun i => wx[i]?) = (isR.filterMap (fun i => wx[i]?)).map some) (hn : va_nd isR = true) (hdis : ∀ i ∈ isR, i ∉ isC)
    (kk : ∀ (u : S) (H1 : Heap) (locs1 : List Loc), post u → va_P D cls_ (isR.filterMap (fun i => wx[i]?) ++ w1 u) H1 → va_D A (isR.filterMap (fun i => wx[i]?) ++ w1 u) → va_S A H0 H1 locs1 → W p l e R s m args below meth c H1 locs1 (cells + mc) (slots + ms) Q (F0 m (pc + 3) ls (.int (r u) :: rest))) : W p l e R s m args below meth c H locs cells slots Q (F0 m pc ls st0) := by
  have hF := va_free hD hS hA isC hC
  refine va_calli (S := S) (post := fun x u => x = r u ∧ post u) (B := fun u t => va_P D cls_ (w1 u) t.heap ∧ va_D (va_A wc H.size) (w1 u)) (A1 := va_A wc H.size) (a := a) (rest := rest) (free := va_A wc H.size) (mc := mc) (ms := ms) ?_ hS (fun q _ h => hF q h) hF ?_
  · intro T hT X
    obtain ⟨v, st₀, t, T', L, h0, X', hL, e1, e2, ⟨⟨u, hv, hp, hB⟩, hFr⟩, st⟩ := hr T hT X
    exact ⟨v, st₀, t, T', L, h0, X', hL, e1, e2, ⟨⟨r u, u, hv, ⟨rfl, hp⟩, hB⟩, hFr⟩, st⟩
  intro x u t H1 locs1 ht hal hp hB hz hk hS1
  obtain ⟨rfl, hp⟩ := hp
  obtain ⟨hP1, hD1⟩ := hB
  rw [ht] at hP1
  obtain ⟨hP2, hD2⟩ := va_join hP hD isC isR hC hR hn hdis hk hF hP1 hD1
  exact kk u H1 locs1 hp hP2 hD2 hS1
theorem kA {r : S → Nat} (hr : va_Run p l e R s m args below meth c H locs cells slots mc ms (F0 m pc ls st0) rest (CoQ D (fun u : S => some (.ref (r u))) post w1 (va_A wc H.size) a) (va_A wc H.size)) (hP : va_P D cls_ wx H) (hD : va_D A wx) (hS : va_S A H0 H locs) (hA : ∀ q : Nat, H0.size ≤ q → A q) (isC isR : List Nat) (hC : isC.map (fun i => wx[i]?) = wc.map some) (hR : isR.map (fun i => wx[i]?) = (isR.filterMap (fun i => wx[i]?)).map some) (hn : va_nd isR = true) (hdis : ∀ i ∈ isR, i ∉ isC)
    (kk : ∀ (u : S) (H1 : Heap) (locs1 : List Loc), post u → va_P D cls_ (isR.filterMap (fun i => wx[i]?) ++ w1 u) H1 → va_D A (isR.filterMap (fun i => wx[i]?) ++ w1 u) → va_S A H0 H1 locs1 → W p l e R s m args below meth c H1 locs1 (cells + mc) (slots + ms) Q (F0 m (pc + 3) ls (.ref (r u) :: rest))) : W p l e R s m args below meth c H locs cells slots Q (F0 m pc ls st0) := by
  have hF := va_free hD hS hA isC hC
  refine va_callr (S := S) (post := post) (B := fun u a t => a = r u ∧ va_P D cls_ (w1 u) t.heap ∧ va_D (va_A wc H.size) (w1 u)) (A1 := va_A wc H.size) (a := a) (rest := rest) (free := va_A wc H.size) (mc := mc) (ms := ms) ?_ hS (fun q _ h => hF q h) hF ?_
  · intro T hT X
    obtain ⟨v, st₀, t, T', L, h0, X', hL, e1, e2, ⟨⟨u, hv, hp, hB⟩, hFr⟩, st⟩ := hr T hT X
    exact ⟨v, st₀, t, T', L, h0, X', hL, e1, e2, ⟨⟨u, r u, hv, hp, rfl, hB⟩, hFr⟩, st⟩
  intro u ra t H1 locs1 ht hal hp hB hz hk hS1
  obtain ⟨rfl, hP1, hD1⟩ := hB
  rw [ht] at hP1
  obtain ⟨hP2, hD2⟩ := va_join hP hD isC isR hC hR hn hdis hk hF hP1 hD1
  exact kk u H1 locs1 hp hP2 hD2 hS1
variable {y : MethodName} {bytes : ByteArray} {maxL nL n index : Nat} {ret : Option FieldType} {ws Ts : List Cond} {rm : Room} {own host C : String} {av As : List Value} {b : Addr}
theorem co_pre (hE : Ev D ca s) (hP : va_P D cls_ wx H) (hD : va_D A wx) (isC : List Nat) (hC : isC.map (fun i => wx[i]?) = wc.map some) (hnC : va_nd isC = true) : ∀ U : State, U.heap = H → s.WarmedH U.vm → va_Pc av (CoP D ca wc H.size) av.toArray U := fun U hU hW =>
  ⟨rfl, by rw [hU], by rw [hU]; exact hP.sub isC (fm_of hC), hE.warm hW, (hD.sub isC hnC hC).weaken (fun _ _ _ _ => trivial)⟩
theorem rSN (fx : CallFix p m c cc nL s args Ts own) (hM : Co l y ws rm D ca av wc rv post w1 mc ms) (cw : va_CN R s args own index y host bytes maxL ret ws rm mc ms n ∧ (Cond.static y).before args s = true ∧ True) (hE : Ev D ca s) (hP : va_P D cls_ wx H) (hD : va_D A wx) (isC : List Nat) (hC : isC.map (fun i => wx[i]?) = wc.map some) (hnC : va_nd isC = true) (hn : av.length = n) (hsz : ls.size = nL) (hst : st0 = av.reverse ++ rest) (hW : (rest.map fun v => v.category).sum ≤ 8) (hdg : decode cc pc = .ok (.invokestatic index, 3)) (hf : cells + mc ≤ R.cells ∧ slots + ms ≤ R.slots) :
    va_Run p l e R s m args below meth c H locs cells slots mc ms (F0 m pc ls st0) rest (CoQ D rv post w1 (va_A wc H.size) av.toArray) (va_A wc H.size) :=
  va_runSN fx (hM H.size) cw ⟨CoP.blind, co_pre hE hP hD isC hC hnC⟩ rfl hn hsz hst (lv_room hW) hdg hf
theorem rS (fx : CallFix p m c cc nL s args Ts own) (hM : Co l y ws rm D ca av wc rv post w1 mc ms) (cw : CallB R s args own index y bytes maxL ret ws rm mc ms n ∧ (Cond.static y).before args s = true) (hE : Ev D ca s) (hP : va_P D cls_ wx H) (hD : va_D A wx) (isC : List Nat) (hC : isC.map (fun i => wx[i]?) = wc.map some) (hnC : va_nd isC = true) (hn : av.length = n) (hsz : ls.size = nL) (hst : st0 = av.reverse ++ rest) (hW : (rest.map fun v => v.category).sum ≤ 8) (hdg : decode cc pc = .ok (.invokestatic index, 3)) (hf : cells + mc ≤ R.cells ∧ slots + ms ≤ R.slots) :
    va_Run p l e R s m args below meth c H locs cells slots mc ms (F0 m pc ls st0) rest (CoQ D rv post w1 (va_A wc H.size) av.toArray) (va_A wc H.size) :=
  va_runS fx (hM H.size) cw ⟨CoP.blind, co_pre hE hP hD isC hC hnC⟩ rfl hn hsz hst (lv_room hW) hdg hf
theorem rVN (fx : CallFix p m c cc nL s args Ts own) (hM : Co l y ws rm D ca (.ref b :: As) wc rv post w1 mc ms) (cw : va_CN R s args own index y host bytes maxL ret ws rm mc ms n ∧ (Cond.instanceMethod y).before args s = true ∧ (Cond.selects C y y).before args s = true) (hE : Ev D ca s) (hP : va_P D cls_ wx H) (hD : va_D A wx) (q0 : Nat) {ci : Nat} {fs : List Value} {q : vw_C} (he : wx[q0]? = some (b, .inr (ci, fs))) (hc : cls_[ci]? = some q) (hqC : q.1 = C) (isC : List Nat) (hC : isC.map (fun i => wx[i]?) = wc.map some) (hnC : va_nd isC = true) (hn : As.length = n) (hsz : ls.size = nL) (hst : st0 = As.reverse ++ .ref b :: rest) (hW : (rest.map fun v => v.category).sum ≤ 8) (hdg : decode cc pc = .ok (.invokevirtual index, 3)) (hf : cells + mc ≤ R.cells ∧ slots + ms ≤ R.slots) :
    va_Run p l e R s m args below meth c H locs cells slots mc ms (F0 m pc ls st0) rest (CoQ D rv post w1 (va_A wc H.size) (Value.ref b :: As).toArray) (va_A wc H.size) :=
  va_runVN fx (hM H.size) cw ⟨CoP.blind, hqC ▸ va_recv hE.1 hP hc he, co_pre hE hP hD isC hC hnC⟩ rfl hn hsz hst (lv_room hW) hdg hf
theorem rV (fx : CallFix p m c cc nL s args Ts own) (hM : Co l y ws rm D ca (.ref b :: As) wc rv post w1 mc ms) (cw : CallW R s args own C index y bytes maxL ret ws rm mc ms n) (hE : Ev D ca s) (hP : va_P D cls_ wx H) (hD : va_D A wx) (q0 : Nat) {ci : Nat} {fs : List Value} {q : vw_C} (he : wx[q0]? = some (b, .inr (ci, fs))) (hc : cls_[ci]? = some q) (hqC : q.1 = C) (isC : List Nat) (hC : isC.map (fun i => wx[i]?) = wc.map some) (hnC : va_nd isC = true) (hn : As.length = n) (hsz : ls.size = nL) (hst : st0 = As.reverse ++ .ref b :: rest) (hW : (rest.map fun v => v.category).sum ≤ 8) (hdg : decode cc pc = .ok (.invokevirtual index, 3)) (hf : cells + mc ≤ R.cells ∧ slots + ms ≤ R.slots) :
    va_Run p l e R s m args below meth c H locs cells slots mc ms (F0 m pc ls st0) rest (CoQ D rv post w1 (va_A wc H.size) (Value.ref b :: As).toArray) (va_A wc H.size) :=
  va_runV fx (hM H.size) cw ⟨CoP.blind, hqC ▸ va_recv hE.1 hP hc he, co_pre hE hP hD isC hC hnC⟩ rfl hn hsz hst (lv_room hW) hdg hf
theorem rI (fx : CallFix p m c cc nL s args Ts own) (hM : Co l y ws rm D ca (.ref b :: As) wc rv post w1 mc ms) (cw : CallB R s args own index y bytes maxL none ws rm mc ms n ∧ y.name = "<init>" ∧ (Cond.instanceMethod y).before args s = true) (hE : Ev D ca s) (hP : va_P D cls_ wx H) (hD : va_D A wx) (isC : List Nat) (hC : isC.map (fun i => wx[i]?) = wc.map some) (hnC : va_nd isC = true) (hn : As.length = n) (hsz : ls.size = nL) (hst : st0 = As.reverse ++ .ref b :: rest) (hW : (rest.map fun v => v.category).sum ≤ 8) (hdg : decode cc pc = .ok (.invokespecial index, 3)) (hf : cells + mc ≤ R.cells ∧ slots + ms ≤ R.slots) :
    va_Run p l e R s m args below meth c H locs cells slots mc ms (F0 m pc ls st0) rest (CoQ D rv post w1 (va_A wc H.size) (Value.ref b :: As).toArray) (va_A wc H.size) :=
  va_runI fx (hM H.size) cw ⟨CoP.blind, co_pre hE hP hD isC hC hnC⟩ rfl hn hsz hst (lv_room hW) hdg hf
end KA
end
section
/-! Rows over numbers that are Nat behind nI. -/
section KB
variable {p : Program} {l : Launch} {e : Env} {R : Room} {s : State} {m : MethodId} {args : Array Value} {below : List Frame} {meth : Method} {c : Code} {H : Heap} {locs : List Loc} {cells slots : Nat} {Q : State → Prop}
variable {cc : ByteArray} {pc : Nat} {ls : Array Slot} {rest : List Value}
theorem k_iadd (hx : p.tables.exec = Jvm.exec) (hb : c.code = cc) {a b : Nat} (hdg : decode cc pc = .ok (.iadd, 1)) (k : W p l e R s m args below meth c H locs cells slots Q (F0 m (pc + 1) ls (.int (nI (a + b)) :: rest))) : W p l e R s m args below meth c H locs cells slots Q (F0 m pc ls (.int (nI b) :: .int (nI a) :: rest)) :=
  lv_iadd hx hb hdg (by rw [nI_add]; exact k)
theorem k_imul (hx : p.tables.exec = Jvm.exec) (hb : c.code = cc) {a b : Nat} (hdg : decode cc pc = .ok (.imul, 1)) (k : W p l e R s m args below meth c H locs cells slots Q (F0 m (pc + 1) ls (.int (nI (a * b)) :: rest))) : W p l e R s m args below meth c H locs cells slots Q (F0 m pc ls (.int (nI b) :: .int (nI a) :: rest)) :=
  lv_imul hx hb hdg (by rw [pk_mul]; exact k)
theorem k_isub (hx : p.tables.exec = Jvm.exec) (hb : c.code = cc) {a b : Nat} (h : b ≤ a) (hdg : decode cc pc = .ok (.isub, 1)) (k : W p l e R s m args below meth c H locs cells slots Q (F0 m (pc + 1) ls (.int (nI (a - b)) :: rest))) : W p l e R s m args below meth c H locs cells slots Q (F0 m pc ls (.int (nI b) :: .int (nI a) :: rest)) :=
  lv_isub hx hb hdg (by rw [pk_sub h]; exact k)
theorem k_icmp_ge (hx : p.tables.exec = Jvm.exec) (hb : c.code = cc) {a b : Nat} (ha : a < 2 ^ 31) (hb2 : b < 2 ^ 31) {off : Int} {tgt : Nat} (hdg : decode cc pc = .ok (.if_icmp .ge off, 3)) (ht : (pc : Int) + off = (tgt : Int)) (kt : b ≤ a → W p l e R s m args below meth c H locs cells slots Q (F0 m tgt ls rest)) (kf : a < b → W p l e R s m args below meth c H locs cells slots Q (F0 m (pc + 3) ls rest)) : W p l e R s m args below meth c H locs cells slots Q (F0 m pc ls (.int (nI b) :: .int (nI a) :: rest)) :=
  lv_icmp_ge hx hb hdg ht (fun h => kt ((nI_leI hb2 ha).mp h)) (fun h => kf (Nat.not_le.mp fun z => h ((nI_leI hb2 ha).mpr z)))
theorem k_icmp_lt (hx : p.tables.exec = Jvm.exec) (hb : c.code = cc) {a b : Nat} (ha : a < 2 ^ 31) (hb2 : b < 2 ^ 31) {off : Int} {tgt : Nat} (hdg : decode cc pc = .ok (.if_icmp .lt off, 3)) (ht : (pc : Int) + off = (tgt : Int)) (kt : a < b → W p l e R s m args below meth c H locs cells slots Q (F0 m tgt ls rest)) (kf : b ≤ a → W p l e R s m args below meth c H locs cells slots Q (F0 m (pc + 3) ls rest)) : W p l e R s m args below meth c H locs cells slots Q (F0 m pc ls (.int (nI b) :: .int (nI a) :: rest)) :=
  lv_icmp_lt hx hb hdg ht (fun h => kt ((nI_ltI ha hb2).mp h)) (fun h => kf (Nat.not_lt.mp fun z => h ((nI_ltI ha hb2).mpr z)))
theorem k_icmp_gt (hx : p.tables.exec = Jvm.exec) (hb : c.code = cc) {a b : Nat} (ha : a < 2 ^ 31) (hb2 : b < 2 ^ 31) {off : Int} {tgt : Nat} (hdg : decode cc pc = .ok (.if_icmp .gt off, 3)) (ht : (pc : Int) + off = (tgt : Int)) (kt : b < a → W p l e R s m args below meth c H locs cells slots Q (F0 m tgt ls rest)) (kf : a ≤ b → W p l e R s m args below meth c H locs cells slots Q (F0 m (pc + 3) ls rest)) : W p l e R s m args below meth c H locs cells slots Q (F0 m pc ls (.int (nI b) :: .int (nI a) :: rest)) :=
  lv_icmp_gt hx hb hdg ht (fun h => kt ((nI_ltI hb2 ha).mp h)) (fun h => kf (Nat.not_lt.mp fun z => h ((nI_ltI hb2 ha).mpr z)))
theorem k_icmp_le (hx : p.tables.exec = Jvm.exec) (hb : c.code = cc) {a b : Nat} (ha : a < 2 ^ 31) (hb2 : b < 2 ^ 31) {off : Int} {tgt : Nat} (hdg : decode cc pc = .ok (.if_icmp .le off, 3)) (ht : (pc : Int) + off = (tgt : Int)) (kt : a ≤ b → W p l e R s m args below meth c H locs cells slots Q (F0 m tgt ls rest)) (kf : b < a → W p l e R s m args below meth c H locs cells slots Q (F0 m (pc + 3) ls rest)) : W p l e R s m args below meth c H locs cells slots Q (F0 m pc ls (.int (nI b) :: .int (nI a) :: rest)) :=
  lv_icmp_le hx hb hdg ht (fun h => kt ((nI_leI ha hb2).mp h)) (fun h => kf (Nat.not_le.mp fun z => h ((nI_leI ha hb2).mpr z)))
theorem k_icmp_eq (hx : p.tables.exec = Jvm.exec) (hb : c.code = cc) {a b : Nat} (ha : a < 2 ^ 31) (hb2 : b < 2 ^ 31) {off : Int} {tgt : Nat} (hdg : decode cc pc = .ok (.if_icmp .eq off, 3)) (ht : (pc : Int) + off = (tgt : Int)) (kt : a = b → W p l e R s m args below meth c H locs cells slots Q (F0 m tgt ls rest)) (kf : a ≠ b → W p l e R s m args below meth c H locs cells slots Q (F0 m (pc + 3) ls rest)) : W p l e R s m args below meth c H locs cells slots Q (F0 m pc ls (.int (nI b) :: .int (nI a) :: rest)) :=
  lv_icmp_eq hx hb hdg ht (fun h => kt ((nI_eq ha hb2).mp h)) (fun h => kf (fun z => h ((nI_eq ha hb2).mpr z)))
theorem k_icmp_ne (hx : p.tables.exec = Jvm.exec) (hb : c.code = cc) {a b : Nat} (ha : a < 2 ^ 31) (hb2 : b < 2 ^ 31) {off : Int} {tgt : Nat} (hdg : decode cc pc = .ok (.if_icmp .ne off, 3)) (ht : (pc : Int) + off = (tgt : Int)) (kt : a ≠ b → W p l e R s m args below meth c H locs cells slots Q (F0 m tgt ls rest)) (kf : a = b → W p l e R s m args below meth c H locs cells slots Q (F0 m (pc + 3) ls rest)) : W p l e R s m args below meth c H locs cells slots Q (F0 m pc ls (.int (nI b) :: .int (nI a) :: rest)) :=
  lv_icmp_ne hx hb hdg ht (fun h => kt (fun z => h ((nI_eq ha hb2).mpr z))) (fun h => kf ((nI_eq ha hb2).mp h))
theorem k_if_eq (hx : p.tables.exec = Jvm.exec) (hb : c.code = cc) {a : Nat} (ha : a < 2 ^ 31) {off : Int} {tgt : Nat} (hdg : decode cc pc = .ok (.ifCond .eq off, 3)) (ht : (pc : Int) + off = (tgt : Int)) (kt : a = 0 → W p l e R s m args below meth c H locs cells slots Q (F0 m tgt ls rest)) (kf : a ≠ 0 → W p l e R s m args below meth c H locs cells slots Q (F0 m (pc + 3) ls rest)) : W p l e R s m args below meth c H locs cells slots Q (F0 m pc ls (.int (nI a) :: rest)) :=
  lv_if_eq hx hb hdg ht (fun h => kt ((nI_eq ha (by decide)).mp h)) (fun h => kf (fun z => h ((nI_eq ha (by decide)).mpr z)))
theorem k_if_ne (hx : p.tables.exec = Jvm.exec) (hb : c.code = cc) {a : Nat} (ha : a < 2 ^ 31) {off : Int} {tgt : Nat} (hdg : decode cc pc = .ok (.ifCond .ne off, 3)) (ht : (pc : Int) + off = (tgt : Int)) (kt : a ≠ 0 → W p l e R s m args below meth c H locs cells slots Q (F0 m tgt ls rest)) (kf : a = 0 → W p l e R s m args below meth c H locs cells slots Q (F0 m (pc + 3) ls rest)) : W p l e R s m args below meth c H locs cells slots Q (F0 m pc ls (.int (nI a) :: rest)) :=
  lv_if_ne hx hb hdg ht (fun h => kt (fun z => h ((nI_eq ha (by decide)).mpr z))) (fun h => kf ((nI_eq ha (by decide)).mp h))
theorem k_if_gt (hx : p.tables.exec = Jvm.exec) (hb : c.code = cc) {a : Nat} (ha : a < 2 ^ 31) {off : Int} {tgt : Nat} (hdg : decode cc pc = .ok (.ifCond .gt off, 3)) (ht : (pc : Int) + off = (tgt : Int)) (kt : 0 < a → W p l e R s m args below meth c H locs cells slots Q (F0 m tgt ls rest)) (kf : a = 0 → W p l e R s m args below meth c H locs cells slots Q (F0 m (pc + 3) ls rest)) : W p l e R s m args below meth c H locs cells slots Q (F0 m pc ls (.int (nI a) :: rest)) :=
  lv_if_gt hx hb hdg ht (fun h => kt ((nI_ltI (by decide) ha).mp h)) (fun h => kf (Nat.eq_zero_of_not_pos fun z => h ((nI_ltI (by decide) ha).mpr z)))
theorem k_if_le (hx : p.tables.exec = Jvm.exec) (hb : c.code = cc) {a : Nat} (ha : a < 2 ^ 31) {off : Int} {tgt : Nat} (hdg : decode cc pc = .ok (.ifCond .le off, 3)) (ht : (pc : Int) + off = (tgt : Int)) (kt : a = 0 → W p l e R s m args below meth c H locs cells slots Q (F0 m tgt ls rest)) (kf : 0 < a → W p l e R s m args below meth c H locs cells slots Q (F0 m (pc + 3) ls rest)) : W p l e R s m args below meth c H locs cells slots Q (F0 m pc ls (.int (nI a) :: rest)) :=
  lv_if_le hx hb hdg ht (fun h => kt (Nat.le_zero.mp ((nI_leI ha (by decide)).mp h))) (fun h => kf (Nat.pos_of_ne_zero fun z => h ((nI_leI ha (by decide)).mpr (Nat.le_of_eq z))))
theorem k_if_lt (hx : p.tables.exec = Jvm.exec) (hb : c.code = cc) {a : Nat} (ha : a < 2 ^ 31) {off : Int} {tgt : Nat} (hdg : decode cc pc = .ok (.ifCond .lt off, 3)) (ht : (pc : Int) + off = (tgt : Int)) (kf : W p l e R s m args below meth c H locs cells slots Q (F0 m (pc + 3) ls rest)) : W p l e R s m args below meth c H locs cells slots Q (F0 m pc ls (.int (nI a) :: rest)) :=
  lv_if_lt hx hb hdg ht (fun h => absurd h (nI_pos ha)) (fun _ => kf)
theorem k_if_ge (hx : p.tables.exec = Jvm.exec) (hb : c.code = cc) {a : Nat} (ha : a < 2 ^ 31) {off : Int} {tgt : Nat} (hdg : decode cc pc = .ok (.ifCond .ge off, 3)) (ht : (pc : Int) + off = (tgt : Int)) (kt : W p l e R s m args below meth c H locs cells slots Q (F0 m tgt ls rest)) : W p l e R s m args below meth c H locs cells slots Q (F0 m pc ls (.int (nI a) :: rest)) :=
  lv_if_ge hx hb hdg ht (fun _ => kt) (fun h => absurd (nI_pos' ha) h)
variable {D : va_G} {cl : List vw_C} {A : Nat → Prop} {a : Nat} {tys : List (ClassId × FieldType)} {ws : va_W} {H0 : Heap}
theorem updN {g : Nat → Nat} {i x : Nat} : upd (fun j => nI (g j)) i (nI x) = fun j => nI (va_up g i x j) := by
  funext j
  unfold upd va_up
  split <;> rfl
theorem k_iald (hx : p.tables.exec = Jvm.exec) (hb : c.code = cc) (hK : va_K D cl tys s) (hP : va_P D cl ws H) (q0 t0 : Nat) {cA : ClassId} {n : Nat} {g : Nat → Nat} (ha : ws[q0]? = some (a, .inl (cA, n, .inl (fun j => nI (g j))))) (ht : tys[t0]? = some (cA, .int)) {i : Nat} (hi : i < n) (hn : n < 2 ^ 31) (hdg : decode cc pc = .ok (.iaload, 1)) (kk : W p l e R s m args below meth c H locs cells slots Q (F0 m (pc + 1) ls (.int (nI (g i)) :: rest))) : W p l e R s m args below meth c H locs cells slots Q (F0 m pc ls (.int (nI i) :: .ref a :: rest)) :=
  va_iald hx hb hK hP q0 t0 ha ht (vp_in_nI hi hn) hdg (by rw [nI_clamp (Nat.lt_trans hi hn)]; exact kk)
theorem k_iast (hx : p.tables.exec = Jvm.exec) (hb : c.code = cc) (hK : va_K D cl tys s) (hP : va_P D cl ws H) (hD : va_D A ws) (hS : va_S A H0 H locs) (q0 t0 : Nat) {cA : ClassId} {n : Nat} {g : Nat → Nat} (ha : ws[q0]? = some (a, .inl (cA, n, .inl (fun j => nI (g j))))) (ht : tys[t0]? = some (cA, .int)) {i x : Nat} (hi : i < n) (hn : n < 2 ^ 31) (hdg : decode cc pc = .ok (.iastore, 1)) (kk : ∀ (H1 : Heap) (locs1 : List Loc), va_P D cl (ws.set q0 (a, .inl (cA, n, .inl (fun j => nI (va_up g i x j))))) H1 → va_D A (ws.set q0 (a, .inl (cA, n, .inl (fun j => nI (va_up g i x j))))) → va_S A H0 H1 locs1 → W p l e R s m args below meth c H1 locs1 cells slots Q (F0 m (pc + 1) ls rest)) : W p l e R s m args below meth c H locs cells slots Q (F0 m pc ls (.int (nI x) :: .int (nI i) :: .ref a :: rest)) := by
  refine va_iast hx hb hK hP hD hS q0 t0 ha ht (vp_in_nI hi hn) hdg (fun H1 locs1 h1 h2 h3 => ?_)
  rw [nI_clamp (Nat.lt_trans hi hn), updN] at h1 h2; exact kk H1 locs1 h1 h2 h3
theorem k_zald (hx : p.tables.exec = Jvm.exec) (hb : c.code = cc) (hK : va_K D cl tys s) (hP : va_P D cl ws H) (q0 t0 : Nat) {cA : ClassId} {n : Nat} {g : Nat → Nat} (ha : ws[q0]? = some (a, .inl (cA, n, .inl (fun j => nI (g j))))) (ht : tys[t0]? = some (cA, .boolean)) {i : Nat} (hi : i < n) (hn : n < 2 ^ 31) (hdg : decode cc pc = .ok (.baload, 1)) (kk : W p l e R s m args below meth c H locs cells slots Q (F0 m (pc + 1) ls (.int (nI (g i)) :: rest))) : W p l e R s m args below meth c H locs cells slots Q (F0 m pc ls (.int (nI i) :: .ref a :: rest)) :=
  va_zald hx hb hK hP q0 t0 ha ht (vp_in_nI hi hn) hdg (by rw [nI_clamp (Nat.lt_trans hi hn)]; exact kk)
theorem k_zast (hx : p.tables.exec = Jvm.exec) (hb : c.code = cc) (hK : va_K D cl tys s) (hP : va_P D cl ws H) (hD : va_D A ws) (hS : va_S A H0 H locs) (q0 t0 : Nat) {cA : ClassId} {n : Nat} {g : Nat → Nat} (ha : ws[q0]? = some (a, .inl (cA, n, .inl (fun j => nI (g j))))) (ht : tys[t0]? = some (cA, .boolean)) {i x : Nat} (hx2 : x < 2) (hi : i < n) (hn : n < 2 ^ 31) (hdg : decode cc pc = .ok (.bastore, 1)) (kk : ∀ (H1 : Heap) (locs1 : List Loc), va_P D cl (ws.set q0 (a, .inl (cA, n, .inl (fun j => nI (va_up g i x j))))) H1 → va_D A (ws.set q0 (a, .inl (cA, n, .inl (fun j => nI (va_up g i x j))))) → va_S A H0 H1 locs1 → W p l e R s m args below meth c H1 locs1 cells slots Q (F0 m (pc + 1) ls rest)) : W p l e R s m args below meth c H locs cells slots Q (F0 m pc ls (.int (nI x) :: .int (nI i) :: .ref a :: rest)) := by
  refine va_zast hx hb hK hP hD hS q0 t0 ha ht (vp_in_nI hi hn) hdg (fun H1 locs1 h1 h2 h3 => ?_)
  have e : vp_nar .boolean (nI x) = nI x := by rcases (show x = 0 ∨ x = 1 by omega) with rfl | rfl <;> decide
  rw [e, nI_clamp (Nat.lt_trans hi hn), updN] at h1 h2
  exact kk H1 locs1 h1 h2 h3
theorem k_aald (hx : p.tables.exec = Jvm.exec) (hb : c.code = cc) (hK : va_K D cl tys s) (hP : va_P D cl ws H) (q0 t0 : Nat) {cA : ClassId} {C : String} {n : Nat} {f : Nat → Option Nat} (ha : ws[q0]? = some (a, .inl (cA, n, .inr (.inr (.inr (.inr f)))))) (ht : tys[t0]? = some (cA, .object C)) {i : Nat} (hi : i < n) (hn : n < 2 ^ 31) {q : Nat} (hq : f i = some q) (hdg : decode cc pc = .ok (.aaload, 1)) (kk : W p l e R s m args below meth c H locs cells slots Q (F0 m (pc + 1) ls (.ref q :: rest))) : W p l e R s m args below meth c H locs cells slots Q (F0 m pc ls (.int (nI i) :: .ref a :: rest)) :=
  va_aldq hx hb hK hP q0 t0 ha ht (vp_in_nI hi hn) hdg (by rw [nI_clamp (Nat.lt_trans hi hn), hq]; exact kk)
theorem k_tab (hx : p.tables.exec = Jvm.exec) (hb : c.code = cc) {a : Nat} (j : Nat) (hk : a = j) {dflt lo hi : Int} {offs : Array Int} {len : Nat} {off : Int} {tgt : Nat} (hdg : decode cc pc = .ok (.tableswitch dflt lo hi offs, len)) (h1 : ¬ (nI j).toInt < lo) (h2 : ¬ hi < (nI j).toInt) (ho : offs[((nI j).toInt - lo).toNat]? = some off) (ht : (pc : Int) + off = (tgt : Int)) (k : W p l e R s m args below meth c H locs cells slots Q (F0 m tgt ls rest)) : W p l e R s m args below meth c H locs cells slots Q (F0 m pc ls (.int (nI a) :: rest)) := by
  subst hk
  exact lv_tableIn hx hb hdg h1 h2 ho ht k
theorem k_tabD (hx : p.tables.exec = Jvm.exec) (hb : c.code = cc) {a : Nat} (ha : a < 2 ^ 31) {dflt lo hi : Int} {offs : Array Int} {len : Nat} {tgt : Nat} (hdg : decode cc pc = .ok (.tableswitch dflt lo hi offs, len)) (h : (a : Int) < lo ∨ hi < (a : Int)) (ht : (pc : Int) + dflt = (tgt : Int)) (k : W p l e R s m args below meth c H locs cells slots Q (F0 m tgt ls rest)) : W p l e R s m args below meth c H locs cells slots Q (F0 m pc ls (.int (nI a) :: rest)) :=
  lv_tableOut hx hb hdg (by rw [nI_toInt ha]; exact h) ht k
theorem n_inc (a : Nat) : nI a + Int32.ofInt 1 = nI (a + 1) := by
  rw [show Int32.ofInt 1 = 1 from by decide]
  exact nI_1 a
theorem cpyN {g : Nat → Nat} {i j n : Nat} : va_cpy (fun j => nI (g j)) (fun j => nI (g j)) i j n = fun q => nI (va_cpy g g i j n q) := by
  funext q
  unfold va_cpy
  split <;> rfl
theorem k_copy (hx : p.tables.exec = Jvm.exec) (hb : c.code = cc) (hml : c.maxLocals = ls.size) {own : String} {index : Nat} (hown : s.vm.findClass own = some m.cls) (hlink : (Cond.methodLink own index arraycopyName).before args s = true) (hnat : (Cond.native arraycopyName).before args s = true) (hstat : (Cond.static arraycopyName).before args s = true) (hini : (Cond.initialized "java/lang/System").before args s = true)
    (hK : va_K D cl tys s) (hP : va_P D cl ws H) (hD : va_D A ws) (hS : va_S A H0 H locs) (q0 t0 : Nat) {c0 : ClassId} {n0 : Nat} {g : Nat → Nat} (ha : ws[q0]? = some (a, .inl (c0, n0, .inl (fun j => nI (g j))))) (ht0 : tys[t0]? = some (c0, .int)) {k nn : Nat} (h4 : k + nn ≤ n0) (hn0 : n0 < 2 ^ 31)
    (hframes : 1 ≤ R.frames) (hlocals : (rest.map fun v => v.category).sum + (nativeFrameWords "java/lang/System" "arraycopy" 5 + 11) ≤ R.locals) (hdg : decode cc pc = .ok (.invokestatic index, 3))
    (kk : ∀ (H1 : Heap) (locs1 : List Loc), va_P D cl (ws.set q0 (a, .inl (c0, n0, .inl (fun j => nI (va_cpy g g k 0 nn j))))) H1 → va_D A (ws.set q0 (a, .inl (c0, n0, .inl (fun j => nI (va_cpy g g k 0 nn j))))) → va_S A H0 H1 locs1 → W p l e R s m args below meth c H1 locs1 cells slots Q (F0 m (pc + 3) ls rest)) : W p l e R s m args below meth c H locs cells slots Q (F0 m pc ls (.int (nI nn) :: .int (nI 0) :: .ref a :: .int (nI k) :: .ref a :: rest)) := by
  have e1 : (nI k).toNatClampNeg = k := nI_clamp (by omega)
  have e2 : (nI nn).toNatClampNeg = nn := nI_clamp (by omega)
  have e3 : (nI 0).toNatClampNeg = 0 := nI_clamp (by decide)
  refine va_copyi (ty := .int) hx hb hml hown hlink hnat hstat hini hK hP hD hS q0 q0 t0 t0 ha ha ht0 ht0 rfl (nI_pos (by omega)) (nI_pos (by decide)) (nI_pos (by omega)) (by rw [e1, e2]; exact h4) (by rw [e3, e2]; omega) (fun _ _ => rfl) hframes hlocals hdg (fun H1 locs1 h1 h2 h3 => ?_)
  rw [e1, e2, e3, cpyN] at h1 h2
  exact kk H1 locs1 h1 h2 h3
theorem k_is {x y : Int32} (h : x = y) (k : W p l e R s m args below meth c H locs cells slots Q (F0 m pc ls (.int y :: rest))) : W p l e R s m args below meth c H locs cells slots Q (F0 m pc ls (.int x :: rest)) := h ▸ k
end KB
end
section
/-! What the class does, as functions over Nat: rows (contents, count), packed packets and frames, channels, stations. -/
abbrev Rw_ : Type := (Nat → Nat) × Nat
def rAdd (N : Nat) (r : Rw_) (v : Nat) : Rw_ := if r.2 < N then (va_up r.1 r.2 v, r.2 + 1) else r
def rDrop (r : Rw_) (k : Nat) : Rw_ := (va_cpy r.1 r.1 k 0 (r.2 - k), r.2 - k)
def rNone (r : Rw_) : Rw_ := (r.1, 0)
def af (n : Nat) : Nat := (n + 1) % 8
def ds (a b : Nat) : Nat := (b + 8 - a) % 8
def pk5 (k c n a d : Nat) : Nat := k * 131072 + c * 32768 + n * 4096 + a * 512 + d
def fr4 (k n a p : Nat) : Nat := k * 134217728 + n * 16777216 + a * 2097152 + p
def pKind (p : Nat) : Nat := p / 131072 % 16
def pChan (p : Nat) : Nat := p / 32768 % 4
def pNumb (p : Nat) : Nat := p / 4096 % 8
def pAckn (p : Nat) : Nat := p / 512 % 8
def pData (p : Nat) : Nat := p % 512
def fKind (f : Nat) : Nat := f / 134217728 % 8
def fNumb (f : Nat) : Nat := f / 16777216 % 8
def fAckn (f : Nat) : Nat := f / 2097152 % 8
def fPack (f : Nat) : Nat := f % 2097152
/-- a channel: state, next, passed, due, taken, data -/
abbrev Cn_ : Type := Nat × Nat × Nat × Nat × Nat × Rw_
def cNew (ns : Nat) (r : Rw_) : Cn_ := (ns, 0, 0, 0, 0, rNone r)
def cFlow (st nx pa du ta : Nat) (r : Rw_) (p : Nat) : Nat × Cn_ :=
  if st ≠ 3 then (0, st, nx, pa, du, ta, r)
  else if ds pa nx < ds pa (pAckn p) ∨ (pKind p = 5 ∧ (pNumb p ≠ du ∨ 2 ≤ r.2)) then (7, cNew 5 r)
  else if pKind p = 5 then (0, st, nx, pAckn p, af du, ta, rAdd 2 r (pData p))
  else (0, st, nx, pAckn p, du, ta, r)
def cAns (y st nx pa du ta : Nat) (r : Rw_) (p : Nat) : Nat × Cn_ :=
  if pKind p = 1 then (if st = 0 ∨ (st = 1 ∧ y ≠ 0) then (0, cNew 2 r) else (0, st, nx, pa, du, ta, r))
  else if pKind p = 2 then (if st = 1 then (0, cNew 3 r) else (0, st, nx, pa, du, ta, r))
  else if pKind p = 3 then (if st ≠ 0 ∧ st ≠ 4 then (4, cNew 0 r) else (0, cNew 0 r))
  else if pKind p = 4 then (if st = 4 then (0, cNew 0 r) else (0, st, nx, pa, du, ta, r))
  else if pKind p = 5 ∨ pKind p = 6 then cFlow st nx pa du ta r p
  else if pKind p = 7 then (if st = 3 then (8, cNew 3 r) else if st = 5 then (0, cNew 3 r) else (0, st, nx, pa, du, ta, r))
  else if pKind p = 8 then (if st = 5 then (0, cNew 3 r) else (0, st, nx, pa, du, ta, r))
  else (0, st, nx, pa, du, ta, r)
/-- pump's loop: n packets of OUT from place pl on go out, numbered from sn on -/
def pumpR (ex : Nat) (O : Rw_) : Nat → Rw_ → Nat → Nat → Rw_ × Nat
  | 0, P, sn, _ => (P, sn)
  | n + 1, P, sn, pl => pumpR ex O n (rAdd 12 P (fr4 3 sn ex (O.1 pl))) (af sn) (pl + 1)
def pumpN (lk sn ac : Nat) (O : Rw_) : Nat := (if lk = 2 then min O.2 3 else 0) - ds ac sn
def cPump (lk sn ac ex : Nat) (O P : Rw_) : Rw_ × Nat := pumpR ex O (pumpN lk sn ac O) P sn (ds ac sn)
def againR (ex : Nat) (O : Rw_) : Nat → Rw_ → Nat → Nat → Rw_
  | 0, P, _, _ => P
  | n + 1, P, nb, pl => againR ex O n (rAdd 12 P (fr4 3 nb ex (O.1 pl))) (af nb) (pl + 1)
def cAgain (sn ac ex : Nat) (O P : Rw_) : Rw_ := againR ex O (ds ac sn) P ac 0
/-! bits -/
theorem af_lt (n : Nat) : af n < 8 := Nat.mod_lt _ (by decide)
theorem ds_lt (a b : Nat) : ds a b < 8 := Nat.mod_lt _ (by decide)
theorem n_after {n : Nat} (h : n < 8) : nI (n + 1) &&& nI 7 = nI (af n) := pk_andN (n := n + 1) (m := nI 7) (by omega) 3 (by decide)
theorem n_dist : ∀ a, a < 8 → ∀ b, b < 8 → (nI b - nI a) &&& nI 7 = nI (ds a b) := by decide +kernel
theorem nI_or (a b : Nat) : nI a ||| nI b = nI (a ||| b) := by
  apply Int32.toBitVec_inj.mp
  show BitVec.ofNat 32 a ||| BitVec.ofNat 32 b = BitVec.ofNat 32 (a ||| b)
  exact (BitVec.ofNat_or).symm
theorem nI_orAdd {a b k : Nat} (h : b < 2 ^ k) : nI (a * 2 ^ k) ||| nI b = nI (a * 2 ^ k + b) := by
  rw [nI_or, ← Nat.shiftLeft_eq, ← Nat.shiftLeft_add_eq_or_of_lt h]
theorem n_pack {k c n a d : Nat} (hk : k < 16) (hc : c < 4) (hn : n < 8) (ha : a < 8) (hd : d < 512) :
    (((nI k <<< (nI 17 &&& 31)) ||| (nI c <<< (nI 15 &&& 31))) ||| (nI n <<< (nI 12 &&& 31)) ||| (nI a <<< (nI 9 &&& 31))) ||| nI d = nI (pk5 k c n a d) := by
  rw [pk_shlN (n := k) (nI 17 &&& 31) 17 (by decide) (by omega), pk_shlN (n := c) (nI 15 &&& 31) 15 (by decide) (by omega), pk_shlN (n := n) (nI 12 &&& 31) 12 (by decide) (by omega), pk_shlN (n := a) (nI 9 &&& 31) 9 (by decide) (by omega)]
  rw [nI_orAdd (k := 17) (by omega : c * 2 ^ 15 < 2 ^ 17), show k * 2 ^ 17 + c * 2 ^ 15 = (k * 4 + c) * 2 ^ 15 by omega]
  rw [nI_orAdd (k := 15) (by omega : n * 2 ^ 12 < 2 ^ 15), show (k * 4 + c) * 2 ^ 15 + n * 2 ^ 12 = (k * 32 + c * 8 + n) * 2 ^ 12 by omega]
  rw [nI_orAdd (k := 12) (by omega : a * 2 ^ 9 < 2 ^ 12), show (k * 32 + c * 8 + n) * 2 ^ 12 + a * 2 ^ 9 = (k * 256 + c * 64 + n * 8 + a) * 2 ^ 9 by omega]
  rw [nI_orAdd (k := 9) hd]
  exact congrArg nI (by unfold pk5; omega)
theorem n_frame {k n a p : Nat} (hk : k < 8) (hn : n < 8) (ha : a < 8) (hp : p < 2097152) :
    ((nI k <<< (nI 27 &&& 31)) ||| (nI n <<< (nI 24 &&& 31))) ||| (nI a <<< (nI 21 &&& 31)) ||| nI p = nI (fr4 k n a p) := by
  rw [pk_shlN (n := k) (nI 27 &&& 31) 27 (by decide) (by omega), pk_shlN (n := n) (nI 24 &&& 31) 24 (by decide) (by omega), pk_shlN (n := a) (nI 21 &&& 31) 21 (by decide) (by omega)]
  rw [nI_orAdd (k := 27) (by omega : n * 2 ^ 24 < 2 ^ 27), show k * 2 ^ 27 + n * 2 ^ 24 = (k * 8 + n) * 2 ^ 24 by omega]
  rw [nI_orAdd (k := 24) (by omega : a * 2 ^ 21 < 2 ^ 24), show (k * 8 + n) * 2 ^ 24 + a * 2 ^ 21 = (k * 64 + n * 8 + a) * 2 ^ 21 by omega]
  rw [nI_orAdd (k := 21) hp]
  exact congrArg nI (by unfold fr4; omega)
theorem n_field {x : Nat} (hx : x < 2 ^ 31) (sh : Int32) (k : Nat) (hs : (sh.toBitVec.smod 32).toNat = k) (m : Int32) (b : Nat) (hm : m.toBitVec.toNat = 2 ^ b - 1) : (nI x >>> sh) &&& m = nI (x / 2 ^ k % 2 ^ b) := by
  rw [pk_shrN hx sh k hs]
  exact pk_andN (Nat.lt_of_le_of_lt (Nat.div_le_self _ _) (by omega)) b hm
/-! packing and unpacking -/
theorem pk5_lt {k c n a d : Nat} (hk : k < 16) (hc : c < 4) (hn : n < 8) (ha : a < 8) (hd : d < 512) : pk5 k c n a d < 2097152 := by unfold pk5; omega
theorem pKind_pk {k c n a d : Nat} (hk : k < 16) (hc : c < 4) (hn : n < 8) (ha : a < 8) (hd : d < 512) : pKind (pk5 k c n a d) = k := by unfold pKind pk5; omega
theorem pChan_pk {k c n a d : Nat} (hc : c < 4) (hn : n < 8) (ha : a < 8) (hd : d < 512) : pChan (pk5 k c n a d) = c := by unfold pChan pk5; omega
theorem pNumb_pk {k c n a d : Nat} (hn : n < 8) (ha : a < 8) (hd : d < 512) : pNumb (pk5 k c n a d) = n := by unfold pNumb pk5; omega
theorem pAckn_pk {k c n a d : Nat} (ha : a < 8) (hd : d < 512) : pAckn (pk5 k c n a d) = a := by unfold pAckn pk5; omega
theorem pData_pk {k c n a d : Nat} (hd : d < 512) : pData (pk5 k c n a d) = d := by unfold pData pk5; omega
theorem fr4_lt {k n a p : Nat} (hk : k < 8) (hn : n < 8) (ha : a < 8) (hp : p < 2097152) : fr4 k n a p < 2 ^ 30 := by unfold fr4; omega
theorem fKind_fr {k n a p : Nat} (hk : k < 8) (hn : n < 8) (ha : a < 8) (hp : p < 2097152) : fKind (fr4 k n a p) = k := by unfold fKind fr4; omega
theorem fNumb_fr {k n a p : Nat} (hn : n < 8) (ha : a < 8) (hp : p < 2097152) : fNumb (fr4 k n a p) = n := by unfold fNumb fr4; omega
theorem fAckn_fr {k n a p : Nat} (ha : a < 8) (hp : p < 2097152) : fAckn (fr4 k n a p) = a := by unfold fAckn fr4; omega
theorem fPack_fr {k n a p : Nat} (hp : p < 2097152) : fPack (fr4 k n a p) = p := by unfold fPack fr4; omega
theorem rAdd_le {N : Nat} {r : Rw_} {v : Nat} (h : r.2 ≤ N) : (rAdd N r v).2 ≤ N := by
  unfold rAdd
  split
  · show r.2 + 1 ≤ N
    omega
  · exact h
theorem n_min {a b : Nat} (ha : a < 2 ^ 31) (hb : b < 2 ^ 31) : (if nI b < nI a then nI b else nI a) = nI (min a b) := by
  by_cases h : b < a
  · rw [if_pos ((nI_ltI hb ha).mpr h), Nat.min_eq_right (Nat.le_of_lt h)]
  · rw [if_neg (fun z => h ((nI_ltI hb ha).mp z)), Nat.min_eq_left (Nat.not_lt.mp h)]
/-! a station: link, sent, acknowledged, expected, tries, rejected; OUT; channels; the peer's line -/
abbrev Nm_ : Type := Nat × Nat × Nat × Nat × Nat × Nat
abbrev Sn_ : Type := Nm_ × Rw_ × (Nat → Cn_) × Rw_
def kRow (k : Cn_) : Rw_ := k.2.2.2.2.2
def kClean (K : Nat → Cn_) : Nat → Cn_ := fun c => cNew 0 (kRow (K c))
def sSend (lk sn ac ex : Nat) (O P : Rw_) (pk : Nat) : Nat × Rw_ × Rw_ := ((cPump lk sn ac ex (rAdd 16 O pk) P).2, rAdd 16 O pk, (cPump lk sn ac ex (rAdd 16 O pk) P).1)
def sConf (sn ac ak tr : Nat) (O : Rw_) : Nat × Nat × Rw_ := if 0 < ds ac ak ∧ ds ac ak ≤ ds ac sn then (ak, 0, rDrop O (ds ac ak)) else (ac, tr, O)
def sHear (lk sn ac ex : Nat) (O P : Rw_) (rk cn : Nat) : Nat × Rw_ × Rw_ := if rk = 0 then (sn, O, P) else sSend lk sn ac ex O P (pk5 rk cn 0 0 0)
def sReady (lk sn0 sn ac ex : Nat) (O P : Rw_) : Nat × Rw_ :=
  if sn = sn0 then (if (cPump lk sn ac ex O P).2 = sn0 then ((cPump lk sn ac ex O P).2, rAdd 12 (cPump lk sn ac ex O P).1 (fr4 4 0 ex 0)) else ((cPump lk sn ac ex O P).2, (cPump lk sn ac ex O P).1)) else (sn, P)
def sRej (rj ex : Nat) (P : Rw_) : Nat × Rw_ := if rj = 0 then (1, rAdd 12 P (fr4 5 0 ex 0)) else (rj, P)
def sCarr2 (lk sn ac ex : Nat) (a : Nat × Cn_) (b : Nat × Rw_ × Rw_) : (Nat × Nat × Nat) × Rw_ × Cn_ × Rw_ :=
  (((sReady lk sn b.1 ac (af ex) b.2.1 b.2.2).1, af ex, 0), b.2.1, a.2, (sReady lk sn b.1 ac (af ex) b.2.1 b.2.2).2)
def kAns (y : Nat) (k : Cn_) (p : Nat) : Nat × Cn_ := cAns y k.1 k.2.1 k.2.2.1 k.2.2.2.1 k.2.2.2.2.1 k.2.2.2.2.2 p
/-- a CARRIER is heard: (sent, expected, rejected), OUT, the channel, the peer's line -/
def sCarr (lk sn ac ex rj : Nat) (O P : Rw_) (y : Nat) (k : Cn_) (f : Nat) : (Nat × Nat × Nat) × Rw_ × Cn_ × Rw_ :=
  if fNumb f = ex then sCarr2 lk sn ac ex (kAns y k (fPack f)) (sHear lk sn ac (af ex) O P (kAns y k (fPack f)).1 (pChan (fPack f)))
  else ((sn, ex, (sRej rj ex P).1), O, k, (sRej rj ex P).2)
def sClean (nl : Nat) (O : Rw_) (K : Nat → Cn_) (P : Rw_) : Sn_ := ((nl, 0, 0, 0, 0, 0), rNone O, kClean K, P)
def sSetUp (O : Rw_) (K : Nat → Cn_) (P : Rw_) : Sn_ := sClean 1 O K (rAdd 12 P (fr4 1 0 0 0))
def sTry (lk sn ac ex tr rj : Nat) (O : Rw_) (K : Nat → Cn_) (P : Rw_) : Sn_ :=
  if 4 ≤ tr + 1 then (if lk = 1 then ((0, sn, ac, ex, 0, rj), O, K, P) else sSetUp O K P)
  else if lk = 1 then ((lk, sn, ac, ex, tr + 1, rj), O, K, rAdd 12 P (fr4 1 0 0 0))
  else ((lk, sn, ac, ex, tr + 1, rj), O, K, cAgain sn ac ex O P)
def sHSet (lk sn ac ex tr rj : Nat) (O : Rw_) (K : Nat → Cn_) (P : Rw_) : Sn_ :=
  if lk = 1 then ((lk, sn, ac, ex, tr, rj), O, K, rAdd 12 P (fr4 2 0 0 0)) else sClean 2 O K (rAdd 12 P (fr4 2 0 0 0))
def sHAgr (lk sn ac ex tr rj : Nat) (O : Rw_) (K : Nat → Cn_) (P : Rw_) : Sn_ :=
  if lk = 1 then sClean 2 O K P else if lk = 2 then sSetUp O K P else ((lk, sn, ac, ex, tr, rj), O, K, P)
def sFrameC (lk : Nat) (b : Nat × Nat × Rw_) (K : Nat → Cn_) (c : Nat) (d : (Nat × Nat × Nat) × Rw_ × Cn_ × Rw_) : Sn_ := ((lk, d.1.1, b.1, d.1.2.1, b.2.1, d.1.2.2), d.2.1, va_up K c d.2.2.1, d.2.2.2)
def sFrameP (lk ex rj : Nat) (b : Nat × Nat × Rw_) (K : Nat → Cn_) (x : Rw_ × Nat) : Sn_ := ((lk, x.2, b.1, ex, b.2.1, rj), b.2.2, K, x.1)
def sFrame (y lk sn ac ex tr rj : Nat) (O : Rw_) (K : Nat → Cn_) (P : Rw_) (f : Nat) : Sn_ :=
  if fKind f = 1 then sHSet lk sn ac ex tr rj O K P
  else if fKind f = 2 then sHAgr lk sn ac ex tr rj O K P
  else if lk = 2 then
    (if fKind f = 3 then sFrameC lk (sConf sn ac (fAckn f) tr O) K (pChan (fPack f)) (sCarr lk sn (sConf sn ac (fAckn f) tr O).1 ex rj (sConf sn ac (fAckn f) tr O).2.2 P y (K (pChan (fPack f))) f)
    else if fKind f = 5 then sFrameP lk ex rj (sConf sn ac (fAckn f) tr O) K (cPump lk sn (sConf sn ac (fAckn f) tr O).1 ex (sConf sn ac (fAckn f) tr O).2.2 (cAgain sn (sConf sn ac (fAckn f) tr O).1 ex (sConf sn ac (fAckn f) tr O).2.2 P))
    else sFrameP lk ex rj (sConf sn ac (fAckn f) tr O) K (cPump lk sn (sConf sn ac (fAckn f) tr O).1 ex (sConf sn ac (fAckn f) tr O).2.2 P))
  else ((lk, sn, ac, ex, tr, rj), O, K, P)
def sGive (lk sn ac ex rj : Nat) (O : Rw_) (K : Nat → Cn_) (P : Rw_) : Sn_ := if lk = 1 then ((0, sn, ac, ex, 0, rj), O, K, P) else sSetUp O K P
/-! what stays true -/
def oOk (O : Rw_) : Prop := O.2 ≤ 16 ∧ ∀ i, i < O.2 → O.1 i < 2097152
theorem oOk.add {O : Rw_} (h : oOk O) {v : Nat} (hv : v < 2097152) : oOk (rAdd 16 O v) := by
  refine ⟨rAdd_le h.1, fun i hi => ?_⟩
  unfold rAdd at hi ⊢
  split at hi
  next h9 =>
    rw [if_pos h9]
    show va_up O.1 O.2 v i < 2097152
    unfold va_up
    split
    · exact hv
    next hne =>
      have hi : i < O.2 + 1 := hi
      exact h.2 i (by omega)
  next h9 =>
    rw [if_neg h9]
    exact h.2 i hi
theorem rDrop_at {r : Rw_} {k i : Nat} (h : i < r.2 - k) : (rDrop r k).1 i = r.1 (k + i) := by
  show va_cpy r.1 r.1 k 0 (r.2 - k) i = _
  rw [pk_cpy_in (Nat.zero_le _) (by omega)]
  simp
theorem oOk.drop {O : Rw_} (h : oOk O) (k : Nat) : oOk (rDrop O k) := by
  refine ⟨?_, fun i hi => ?_⟩
  · show O.2 - k ≤ 16
    have := h.1
    omega
  · have hi : i < O.2 - k := hi
    rw [rDrop_at hi]
    exact h.2 _ (by omega)
theorem oOk.none {O : Rw_} : oOk (rNone O) := ⟨Nat.zero_le _, fun i hi => absurd hi (Nat.not_lt_zero i)⟩
def kOk (k : Cn_) : Prop := k.1 < 6 ∧ k.2.1 < 8 ∧ k.2.2.1 < 8 ∧ k.2.2.2.1 < 8 ∧ k.2.2.2.2.1 < 8 ∧ k.2.2.2.2.2.2 ≤ 2
theorem ds_sub {a b c : Nat} (ha : a < 8) (hb : b < 8) (hc : c < 8) (h : ds a b ≤ ds a c) : ds b c = ds a c - ds a b := by
  unfold ds at *
  omega
theorem cFlow_rk (st nx pa du ta : Nat) (r : Rw_) (p : Nat) : (cFlow st nx pa du ta r p).1 < 16 := by
  unfold cFlow
  split
  · exact (by decide : 0 < 16)
  · split
    · exact (by decide : 7 < 16)
    · split <;> exact (by decide : 0 < 16)
theorem cAns_rk (y st nx pa du ta : Nat) (r : Rw_) (p : Nat) : (cAns y st nx pa du ta r p).1 < 16 := by
  unfold cAns
  split
  · split <;> exact (by decide : 0 < 16)
  split
  · split <;> exact (by decide : 0 < 16)
  split
  · split
    · exact (by decide : 4 < 16)
    · exact (by decide : 0 < 16)
  split
  · split <;> exact (by decide : 0 < 16)
  split
  · exact cFlow_rk ..
  split
  · split
    · exact (by decide : 8 < 16)
    · split <;> exact (by decide : 0 < 16)
  split
  · split <;> exact (by decide : 0 < 16)
  · exact (by decide : 0 < 16)
theorem pumpR_snd (ex : Nat) (O : Rw_) : ∀ (n : Nat) (P : Rw_) (sn pl : Nat), sn < 8 → (pumpR ex O n P sn pl).2 < 8
  | 0, _, _, _, h => h
  | n + 1, P, sn, pl, _ => pumpR_snd ex O n _ (af sn) (pl + 1) (af_lt sn)
theorem pumpR_le (ex : Nat) (O : Rw_) : ∀ (n : Nat) (P : Rw_) (sn pl : Nat), P.2 ≤ 12 → (pumpR ex O n P sn pl).1.2 ≤ 12
  | 0, _, _, _, h => h
  | n + 1, P, sn, pl, h => pumpR_le ex O n _ (af sn) (pl + 1) (rAdd_le h)
theorem againR_le (ex : Nat) (O : Rw_) : ∀ (n : Nat) (P : Rw_) (nb pl : Nat), P.2 ≤ 12 → (againR ex O n P nb pl).2 ≤ 12
  | 0, _, _, _, h => h
  | n + 1, P, nb, pl, h => againR_le ex O n _ (af nb) (pl + 1) (rAdd_le h)
theorem cPump_snd {lk sn ac ex : Nat} {O P : Rw_} (h : sn < 8) : (cPump lk sn ac ex O P).2 < 8 := pumpR_snd _ _ _ _ _ _ h
theorem cPump_le {lk sn ac ex : Nat} {O P : Rw_} (h : P.2 ≤ 12) : (cPump lk sn ac ex O P).1.2 ≤ 12 := pumpR_le _ _ _ _ _ _ h
theorem cAgain_le {sn ac ex : Nat} {O P : Rw_} (h : P.2 ≤ 12) : (cAgain sn ac ex O P).2 ≤ 12 := againR_le _ _ _ _ _ _ h
theorem sHear_keep {lk sn ac ex : Nat} {O P : Rw_} {rk cn sn' : Nat} {O' P' : Rw_} (hO : oOk O) (hP : P.2 ≤ 12) (hs : sn < 8) (hrk : rk < 16) (hc : cn < 4) (h : sHear lk sn ac ex O P rk cn = (sn', O', P')) : sn' < 8 ∧ oOk O' ∧ P'.2 ≤ 12 := by
  unfold sHear at h
  split at h
  · simp only [Prod.mk.injEq] at h
    obtain ⟨rfl, rfl, rfl⟩ := h
    exact ⟨hs, hO, hP⟩
  · simp only [sSend, Prod.mk.injEq] at h
    obtain ⟨rfl, rfl, rfl⟩ := h
    exact ⟨cPump_snd hs, hO.add (pk5_lt hrk hc (by decide) (by decide) (by decide)), cPump_le hP⟩
theorem sConf_keep {sn ac ak tr ac' tr' : Nat} {O O' : Rw_} (hO : oOk O) (hs : sn < 8) (ha : ac < 8) (hk : ak < 8) (hun : ds ac sn ≤ O.2) (h : sConf sn ac ak tr O = (ac', tr', O')) : ac' < 8 ∧ oOk O' ∧ ds ac' sn ≤ O'.2 := by
  unfold sConf at h
  split at h
  next h9 =>
    simp only [Prod.mk.injEq] at h
    obtain ⟨rfl, rfl, rfl⟩ := h
    refine ⟨hk, hO.drop _, ?_⟩
    show ds ak sn ≤ O.2 - ds ac ak
    rw [ds_sub ha hk hs h9.2]
    omega
  · simp only [Prod.mk.injEq] at h
    obtain ⟨rfl, rfl, rfl⟩ := h
    exact ⟨ha, hO, hun⟩
end
section
set_option maxHeartbeats 4000000 in
set_option maxRecDepth 100000 in
/-- Row(2) -/
theorem c_Rw_init_2 (l : Launch) (D : va_G) (ca : Nat → ClassId) (h : Nat) : Co (S := Nat) l yRw_init (Cond.code yRw_init cRw_init 2 none :: tb_) { frames := 1, cells := 1, slots := 2, locals := 32 } D ca [.ref h, .int (nI 2)] [(h, .inr (0, [.null, .int (nI 0)]))] (fun q => none) (fun q => True) (fun q => [(h, .inr (0, [.ref q, .int (nI 0)])), (q, .inl (ca 0, 2, .inl (fun j => nI ((fun _ => 0) j))))]) 1 2 := by
  refine Co.of cRw_init 2 none (by decide) (Nat.le_of_ble_eq_true rfl) ?_
  intro p e s m args below meth c A ls fx hret hlk hin hE hP hD hS hA hl
  have hx := fx.1
  have hb := fx.2.1
  have hown : s.vm.findClass RRw = some m.cls := fx.2.2.2.1
  have hts := fx.2.2.2.2
  have ht : ∀ w ∈ tb_, w.before args s = true := fun w h => hts w (List.mem_cons_of_mem _ h)
  have hl : lv_has ls 2 [(0, .ref h), (1, .int (nI 2))] := hl
  refine lv_aload_n hx hb dRw_init_0 rfl (lv_at hl 0 rfl) ?_
  refine W.objInit hx hb hown (ht _ tw_30) (ht _ tw_23) (ht _ tw_24) rfl (by rw [fx.2.2.1]; exact hl.1) rfl dRw_init_1 (Nat.le_of_ble_eq_true rfl) (Nat.le_of_ble_eq_true rfl) ?_
  refine W.eq (g2 := F0 m 4 ls []) rfl ?_
  refine lv_aload_n hx hb dRw_init_4 rfl (lv_at hl 0 rfl) ?_
  refine lv_iload_n hx hb dRw_init_5 rfl (lv_at hl 1 rfl) ?_
  refine va_newa (atype := .int) (ty := .int) (N' := 2) (a0 := (2, .inl (fun _ => nI 0))) hx hb (ht _ tw_41) rfl hE.1 hP hD hS hA (fun _ => rfl) (nI_pos (by omega)) (nI_clamp (by omega)) (by decide) (Nat.le_of_ble_eq_true rfl) (Nat.le_of_ble_eq_true rfl) dRw_init_6 (fun q6 cA H hK9 hP hD hS => ?_)
  obtain rfl : cA = ca 0 := Option.some.inj ((hK9.2 5 _ rfl).2.symm.trans (hE.1.2 0 _ rfl).2)
  have hP : va_P D cls_ [(h, .inr (0, [.null, .int (nI 0)])), (q6, .inl (ca 0, 2, .inl (fun j => nI ((fun _ => 0) j))))] H := hP
  have hD : va_D A [(h, .inr (0, [.null, .int (nI 0)])), (q6, .inl (ca 0, 2, .inl (fun j => nI ((fun _ => 0) j))))] := hD
  refine va_putF (D := D) (ci := 0) (v := .ref q6) (ty := (.array .int)) (C := RRw) (T := TRw) (N := 2) hx hb ht inRw tyRw tyRw_ok nmRw hown hE.1 hP hD hS 0 rfl rfl 0 (by decide) (ht _ tw_31) (fun _ h => h) rfl hin rfl (by decide +kernel) rfl rfl (Nat.le_of_ble_eq_true rfl) dRw_init_8 (fun H locs hP hD hS => ?_)
  have hP : va_P D cls_ [(h, .inr (0, [.ref q6, .int (nI 0)])), (q6, .inl (ca 0, 2, .inl (fun j => nI ((fun _ => 0) j))))] H := hP
  have hD : va_D A [(h, .inr (0, [.ref q6, .int (nI 0)])), (q6, .inl (ca 0, 2, .inl (fun j => nI ((fun _ => 0) j))))] := hD
  refine lv_aload_n hx hb dRw_init_11 rfl (lv_at hl 0 rfl) ?_
  refine lv_iconst (v := nI 0) hx hb dRw_init_12 (by decide) ?_
  refine va_put (D := D) (ci := 0) (v := .int (nI 0)) (ty := .int) (C := RRw) (T := TRw) (N := 2) hx hb ht inRw tyRw tyRw_ok nmRw hown hE.1 hP hD hS 0 rfl rfl 1 (by decide) (ht _ tw_32) (fun _ h => h) rfl (by decide +kernel) rfl rfl (Nat.le_of_ble_eq_true rfl) dRw_init_13 (fun H locs hP hD hS => ?_)
  have hP : va_P D cls_ [(h, .inr (0, [.ref q6, .int (nI 0)])), (q6, .inl (ca 0, 2, .inl (fun j => nI ((fun _ => 0) j))))] H := hP
  have hD : va_D A [(h, .inr (0, [.ref q6, .int (nI 0)])), (q6, .inl (ca 0, 2, .inl (fun j => nI ((fun _ => 0) j))))] := hD
  exact Co.retv hx hb hret hlk dRw_init_16 hS hP hD q6 rfl trivial rfl (Nat.le_of_ble_eq_true rfl) (Nat.le_of_ble_eq_true rfl)
set_option maxHeartbeats 4000000 in
set_option maxRecDepth 100000 in
/-- Row(12) -/
theorem c_Rw_init_12 (l : Launch) (D : va_G) (ca : Nat → ClassId) (h : Nat) : Co (S := Nat) l yRw_init (Cond.code yRw_init cRw_init 2 none :: tb_) { frames := 1, cells := 1, slots := 12, locals := 32 } D ca [.ref h, .int (nI 12)] [(h, .inr (0, [.null, .int (nI 0)]))] (fun q => none) (fun q => True) (fun q => [(h, .inr (0, [.ref q, .int (nI 0)])), (q, .inl (ca 0, 12, .inl (fun j => nI ((fun _ => 0) j))))]) 1 12 := by
  refine Co.of cRw_init 2 none (by decide) (Nat.le_of_ble_eq_true rfl) ?_
  intro p e s m args below meth c A ls fx hret hlk hin hE hP hD hS hA hl
  have hx := fx.1
  have hb := fx.2.1
  have hown : s.vm.findClass RRw = some m.cls := fx.2.2.2.1
  have hts := fx.2.2.2.2
  have ht : ∀ w ∈ tb_, w.before args s = true := fun w h => hts w (List.mem_cons_of_mem _ h)
  have hl : lv_has ls 2 [(0, .ref h), (1, .int (nI 12))] := hl
  refine lv_aload_n hx hb dRw_init_0 rfl (lv_at hl 0 rfl) ?_
  refine W.objInit hx hb hown (ht _ tw_30) (ht _ tw_23) (ht _ tw_24) rfl (by rw [fx.2.2.1]; exact hl.1) rfl dRw_init_1 (Nat.le_of_ble_eq_true rfl) (Nat.le_of_ble_eq_true rfl) ?_
  refine W.eq (g2 := F0 m 4 ls []) rfl ?_
  refine lv_aload_n hx hb dRw_init_4 rfl (lv_at hl 0 rfl) ?_
  refine lv_iload_n hx hb dRw_init_5 rfl (lv_at hl 1 rfl) ?_
  refine va_newa (atype := .int) (ty := .int) (N' := 12) (a0 := (12, .inl (fun _ => nI 0))) hx hb (ht _ tw_41) rfl hE.1 hP hD hS hA (fun _ => rfl) (nI_pos (by omega)) (nI_clamp (by omega)) (by decide) (Nat.le_of_ble_eq_true rfl) (Nat.le_of_ble_eq_true rfl) dRw_init_6 (fun q6 cA H hK9 hP hD hS => ?_)
  obtain rfl : cA = ca 0 := Option.some.inj ((hK9.2 5 _ rfl).2.symm.trans (hE.1.2 0 _ rfl).2)
  have hP : va_P D cls_ [(h, .inr (0, [.null, .int (nI 0)])), (q6, .inl (ca 0, 12, .inl (fun j => nI ((fun _ => 0) j))))] H := hP
  have hD : va_D A [(h, .inr (0, [.null, .int (nI 0)])), (q6, .inl (ca 0, 12, .inl (fun j => nI ((fun _ => 0) j))))] := hD
  refine va_putF (D := D) (ci := 0) (v := .ref q6) (ty := (.array .int)) (C := RRw) (T := TRw) (N := 2) hx hb ht inRw tyRw tyRw_ok nmRw hown hE.1 hP hD hS 0 rfl rfl 0 (by decide) (ht _ tw_31) (fun _ h => h) rfl hin rfl (by decide +kernel) rfl rfl (Nat.le_of_ble_eq_true rfl) dRw_init_8 (fun H locs hP hD hS => ?_)
  have hP : va_P D cls_ [(h, .inr (0, [.ref q6, .int (nI 0)])), (q6, .inl (ca 0, 12, .inl (fun j => nI ((fun _ => 0) j))))] H := hP
  have hD : va_D A [(h, .inr (0, [.ref q6, .int (nI 0)])), (q6, .inl (ca 0, 12, .inl (fun j => nI ((fun _ => 0) j))))] := hD
  refine lv_aload_n hx hb dRw_init_11 rfl (lv_at hl 0 rfl) ?_
  refine lv_iconst (v := nI 0) hx hb dRw_init_12 (by decide) ?_
  refine va_put (D := D) (ci := 0) (v := .int (nI 0)) (ty := .int) (C := RRw) (T := TRw) (N := 2) hx hb ht inRw tyRw tyRw_ok nmRw hown hE.1 hP hD hS 0 rfl rfl 1 (by decide) (ht _ tw_32) (fun _ h => h) rfl (by decide +kernel) rfl rfl (Nat.le_of_ble_eq_true rfl) dRw_init_13 (fun H locs hP hD hS => ?_)
  have hP : va_P D cls_ [(h, .inr (0, [.ref q6, .int (nI 0)])), (q6, .inl (ca 0, 12, .inl (fun j => nI ((fun _ => 0) j))))] H := hP
  have hD : va_D A [(h, .inr (0, [.ref q6, .int (nI 0)])), (q6, .inl (ca 0, 12, .inl (fun j => nI ((fun _ => 0) j))))] := hD
  exact Co.retv hx hb hret hlk dRw_init_16 hS hP hD q6 rfl trivial rfl (Nat.le_of_ble_eq_true rfl) (Nat.le_of_ble_eq_true rfl)
set_option maxHeartbeats 4000000 in
set_option maxRecDepth 100000 in
/-- Row(16) -/
theorem c_Rw_init_16 (l : Launch) (D : va_G) (ca : Nat → ClassId) (h : Nat) : Co (S := Nat) l yRw_init (Cond.code yRw_init cRw_init 2 none :: tb_) { frames := 1, cells := 1, slots := 16, locals := 32 } D ca [.ref h, .int (nI 16)] [(h, .inr (0, [.null, .int (nI 0)]))] (fun q => none) (fun q => True) (fun q => [(h, .inr (0, [.ref q, .int (nI 0)])), (q, .inl (ca 0, 16, .inl (fun j => nI ((fun _ => 0) j))))]) 1 16 := by
  refine Co.of cRw_init 2 none (by decide) (Nat.le_of_ble_eq_true rfl) ?_
  intro p e s m args below meth c A ls fx hret hlk hin hE hP hD hS hA hl
  have hx := fx.1
  have hb := fx.2.1
  have hown : s.vm.findClass RRw = some m.cls := fx.2.2.2.1
  have hts := fx.2.2.2.2
  have ht : ∀ w ∈ tb_, w.before args s = true := fun w h => hts w (List.mem_cons_of_mem _ h)
  have hl : lv_has ls 2 [(0, .ref h), (1, .int (nI 16))] := hl
  refine lv_aload_n hx hb dRw_init_0 rfl (lv_at hl 0 rfl) ?_
  refine W.objInit hx hb hown (ht _ tw_30) (ht _ tw_23) (ht _ tw_24) rfl (by rw [fx.2.2.1]; exact hl.1) rfl dRw_init_1 (Nat.le_of_ble_eq_true rfl) (Nat.le_of_ble_eq_true rfl) ?_
  refine W.eq (g2 := F0 m 4 ls []) rfl ?_
  refine lv_aload_n hx hb dRw_init_4 rfl (lv_at hl 0 rfl) ?_
  refine lv_iload_n hx hb dRw_init_5 rfl (lv_at hl 1 rfl) ?_
  refine va_newa (atype := .int) (ty := .int) (N' := 16) (a0 := (16, .inl (fun _ => nI 0))) hx hb (ht _ tw_41) rfl hE.1 hP hD hS hA (fun _ => rfl) (nI_pos (by omega)) (nI_clamp (by omega)) (by decide) (Nat.le_of_ble_eq_true rfl) (Nat.le_of_ble_eq_true rfl) dRw_init_6 (fun q6 cA H hK9 hP hD hS => ?_)
  obtain rfl : cA = ca 0 := Option.some.inj ((hK9.2 5 _ rfl).2.symm.trans (hE.1.2 0 _ rfl).2)
  have hP : va_P D cls_ [(h, .inr (0, [.null, .int (nI 0)])), (q6, .inl (ca 0, 16, .inl (fun j => nI ((fun _ => 0) j))))] H := hP
  have hD : va_D A [(h, .inr (0, [.null, .int (nI 0)])), (q6, .inl (ca 0, 16, .inl (fun j => nI ((fun _ => 0) j))))] := hD
  refine va_putF (D := D) (ci := 0) (v := .ref q6) (ty := (.array .int)) (C := RRw) (T := TRw) (N := 2) hx hb ht inRw tyRw tyRw_ok nmRw hown hE.1 hP hD hS 0 rfl rfl 0 (by decide) (ht _ tw_31) (fun _ h => h) rfl hin rfl (by decide +kernel) rfl rfl (Nat.le_of_ble_eq_true rfl) dRw_init_8 (fun H locs hP hD hS => ?_)
  have hP : va_P D cls_ [(h, .inr (0, [.ref q6, .int (nI 0)])), (q6, .inl (ca 0, 16, .inl (fun j => nI ((fun _ => 0) j))))] H := hP
  have hD : va_D A [(h, .inr (0, [.ref q6, .int (nI 0)])), (q6, .inl (ca 0, 16, .inl (fun j => nI ((fun _ => 0) j))))] := hD
  refine lv_aload_n hx hb dRw_init_11 rfl (lv_at hl 0 rfl) ?_
  refine lv_iconst (v := nI 0) hx hb dRw_init_12 (by decide) ?_
  refine va_put (D := D) (ci := 0) (v := .int (nI 0)) (ty := .int) (C := RRw) (T := TRw) (N := 2) hx hb ht inRw tyRw tyRw_ok nmRw hown hE.1 hP hD hS 0 rfl rfl 1 (by decide) (ht _ tw_32) (fun _ h => h) rfl (by decide +kernel) rfl rfl (Nat.le_of_ble_eq_true rfl) dRw_init_13 (fun H locs hP hD hS => ?_)
  have hP : va_P D cls_ [(h, .inr (0, [.ref q6, .int (nI 0)])), (q6, .inl (ca 0, 16, .inl (fun j => nI ((fun _ => 0) j))))] H := hP
  have hD : va_D A [(h, .inr (0, [.ref q6, .int (nI 0)])), (q6, .inl (ca 0, 16, .inl (fun j => nI ((fun _ => 0) j))))] := hD
  exact Co.retv hx hb hret hlk dRw_init_16 hS hP hD q6 rfl trivial rfl (Nat.le_of_ble_eq_true rfl) (Nat.le_of_ble_eq_true rfl)
set_option maxHeartbeats 4000000 in
set_option maxRecDepth 100000 in
theorem c_Rw_add (l : Launch) (D : va_G) (ca : Nat → ClassId) (h a N : Nat) (r : Rw_) (v : Nat) (hN : N < 2 ^ 31) (hr : r.2 ≤ N) : Co (S := Unit) l yRw_add (Cond.code yRw_add cRw_add 2 none :: tb_) { frames := 0, cells := 0, slots := 0, locals := 0 } D ca [.ref h, .int (nI v)] [(h, .inr (0, [.ref a, .int (nI r.2)])), (a, .inl (ca 0, N, .inl (fun j => nI (r.1 j))))] (fun _ => none) (fun _ => True) (fun _ => [(h, .inr (0, [.ref a, .int (nI ((rAdd N r v).2))])), (a, .inl (ca 0, N, .inl (fun j => nI (((rAdd N r v).1) j))))]) 0 0 := by
  refine Co.of cRw_add 2 none (by decide) (Nat.le_of_ble_eq_true rfl) ?_
  intro p e s m args below meth c A ls fx hret hlk hin hE hP hD hS hA hl
  have hx := fx.1
  have hb := fx.2.1
  have hown : s.vm.findClass RRw = some m.cls := fx.2.2.2.1
  have hts := fx.2.2.2.2
  have ht : ∀ w ∈ tb_, w.before args s = true := fun w h => hts w (List.mem_cons_of_mem _ h)
  have hl : lv_has ls 2 [(0, .ref h), (1, .int (nI v))] := hl
  refine lv_aload_n hx hb dRw_add_0 rfl (lv_at hl 0 rfl) ?_
  refine va_get (D := D) (ci := 0) (v := .int (nI r.2)) (C := RRw) (T := TRw) (N := 2) hx hb ht inRw hown hE.1 hP 0 rfl rfl 1 (by decide) (ht _ tw_32) (fun _ h => h) rfl dRw_add_1 ?_
  refine lv_aload_n hx hb dRw_add_4 rfl (lv_at hl 0 rfl) ?_
  refine va_get (D := D) (ci := 0) (v := .ref a) (C := RRw) (T := TRw) (N := 2) hx hb ht inRw hown hE.1 hP 0 rfl rfl 0 (by decide) (ht _ tw_31) (fun _ h => h) rfl dRw_add_5 ?_
  refine va_alen hx hb hE.1 hP 1 0 rfl rfl (v := nI N) rfl dRw_add_8 ?_
  refine k_icmp_ge (tgt := 32) hx hb (by omega) (by omega) dRw_add_9 rfl (fun h9 => ?_) (fun h9 => ?_)
  · have e9 : rAdd N r v = r := if_neg (by omega)
    exact Co.retv hx hb hret hlk dRw_add_32 hS hP hD () rfl trivial (by first | (rw [e9]; done) | (rw [e9]; rfl) | simp only [e9]) (Nat.le_of_ble_eq_true rfl) (Nat.le_of_ble_eq_true rfl)
  · refine lv_aload_n hx hb dRw_add_12 rfl (lv_at hl 0 rfl) ?_
    refine va_get (D := D) (ci := 0) (v := .ref a) (C := RRw) (T := TRw) (N := 2) hx hb ht inRw hown hE.1 hP 0 rfl rfl 0 (by decide) (ht _ tw_31) (fun _ h => h) rfl dRw_add_13 ?_
    refine lv_aload_n hx hb dRw_add_16 rfl (lv_at hl 0 rfl) ?_
    refine va_get (D := D) (ci := 0) (v := .int (nI r.2)) (C := RRw) (T := TRw) (N := 2) hx hb ht inRw hown hE.1 hP 0 rfl rfl 1 (by decide) (ht _ tw_32) (fun _ h => h) rfl dRw_add_17 ?_
    refine lv_iload_n hx hb dRw_add_20 rfl (lv_at hl 1 rfl) ?_
    refine k_iast hx hb hE.1 hP hD hS 1 0 (n := N) (g := r.1) rfl rfl (i := r.2) (x := v) (by omega) (by omega) dRw_add_21 (fun H locs hP hD hS => ?_)
    have hP : va_P D cls_ [(h, .inr (0, [.ref a, .int (nI r.2)])), (a, .inl (ca 0, N, .inl (fun j => nI ((va_up r.1 r.2 v) j))))] H := hP
    have hD : va_D A [(h, .inr (0, [.ref a, .int (nI r.2)])), (a, .inl (ca 0, N, .inl (fun j => nI ((va_up r.1 r.2 v) j))))] := hD
    refine lv_aload_n hx hb dRw_add_22 rfl (lv_at hl 0 rfl) ?_
    refine lv_dup hx hb dRw_add_23 rfl ?_
    refine va_get (D := D) (ci := 0) (v := .int (nI r.2)) (C := RRw) (T := TRw) (N := 2) hx hb ht inRw hown hE.1 hP 0 rfl rfl 1 (by decide) (ht _ tw_32) (fun _ h => h) rfl dRw_add_24 ?_
    refine lv_iconst (v := nI 1) hx hb dRw_add_27 (by decide) ?_
    refine k_iadd hx hb dRw_add_28 ?_
    refine va_put (D := D) (ci := 0) (v := .int (nI (r.2 + 1))) (ty := .int) (C := RRw) (T := TRw) (N := 2) hx hb ht inRw tyRw tyRw_ok nmRw hown hE.1 hP hD hS 0 rfl rfl 1 (by decide) (ht _ tw_32) (fun _ h => h) rfl (by decide +kernel) rfl rfl (Nat.le_of_ble_eq_true rfl) dRw_add_29 (fun H locs hP hD hS => ?_)
    have hP : va_P D cls_ [(h, .inr (0, [.ref a, .int (nI (r.2 + 1))])), (a, .inl (ca 0, N, .inl (fun j => nI ((va_up r.1 r.2 v) j))))] H := hP
    have hD : va_D A [(h, .inr (0, [.ref a, .int (nI (r.2 + 1))])), (a, .inl (ca 0, N, .inl (fun j => nI ((va_up r.1 r.2 v) j))))] := hD
    have e9 : rAdd N r v = (va_up r.1 r.2 v, r.2 + 1) := if_pos h9
    exact Co.retv hx hb hret hlk dRw_add_32 hS hP hD () rfl trivial (by first | (rw [e9]; done) | (rw [e9]; rfl) | simp only [e9]) (Nat.le_of_ble_eq_true rfl) (Nat.le_of_ble_eq_true rfl)
set_option maxHeartbeats 4000000 in
set_option maxRecDepth 100000 in
theorem c_Rw_at (l : Launch) (D : va_G) (ca : Nat → ClassId) (h a N : Nat) (r : Rw_) (k : Nat) (hN : N < 2 ^ 31) (hr : r.2 ≤ N) (hk : k < r.2) : Co (S := Unit) l yRw_at (Cond.code yRw_at cRw_at 2 (some FieldType.int) :: tb_) { frames := 0, cells := 0, slots := 0, locals := 0 } D ca [.ref h, .int (nI k)] [(h, .inr (0, [.ref a, .int (nI r.2)])), (a, .inl (ca 0, N, .inl (fun j => nI (r.1 j))))] (fun _ => some (.int (nI (r.1 k)))) (fun _ => True) (fun _ => [(h, .inr (0, [.ref a, .int (nI r.2)])), (a, .inl (ca 0, N, .inl (fun j => nI (r.1 j))))]) 0 0 := by
  refine Co.of cRw_at 2 (some FieldType.int) (by decide) (Nat.le_of_ble_eq_true rfl) ?_
  intro p e s m args below meth c A ls fx hret hlk hin hE hP hD hS hA hl
  have hx := fx.1
  have hb := fx.2.1
  have hown : s.vm.findClass RRw = some m.cls := fx.2.2.2.1
  have hts := fx.2.2.2.2
  have ht : ∀ w ∈ tb_, w.before args s = true := fun w h => hts w (List.mem_cons_of_mem _ h)
  have hl : lv_has ls 2 [(0, .ref h), (1, .int (nI k))] := hl
  refine lv_iload_n hx hb dRw_at_0 rfl (lv_at hl 1 rfl) ?_
  refine k_if_lt (tgt := 21) hx hb (by omega) dRw_at_1 rfl ?_
  refine lv_iload_n hx hb dRw_at_4 rfl (lv_at hl 1 rfl) ?_
  refine lv_aload_n hx hb dRw_at_5 rfl (lv_at hl 0 rfl) ?_
  refine va_get (D := D) (ci := 0) (v := .int (nI r.2)) (C := RRw) (T := TRw) (N := 2) hx hb ht inRw hown hE.1 hP 0 rfl rfl 1 (by decide) (ht _ tw_32) (fun _ h => h) rfl dRw_at_6 ?_
  refine k_icmp_ge (tgt := 21) hx hb (by omega) (by omega) dRw_at_9 rfl (fun hz => absurd hz (by omega)) (fun h9 => ?_)
  refine lv_aload_n hx hb dRw_at_12 rfl (lv_at hl 0 rfl) ?_
  refine va_get (D := D) (ci := 0) (v := .ref a) (C := RRw) (T := TRw) (N := 2) hx hb ht inRw hown hE.1 hP 0 rfl rfl 0 (by decide) (ht _ tw_31) (fun _ h => h) rfl dRw_at_13 ?_
  refine lv_iload_n hx hb dRw_at_16 rfl (lv_at hl 1 rfl) ?_
  refine k_iald hx hb hE.1 hP 1 0 (n := N) (g := r.1) rfl rfl (i := k) (by omega) (by omega) dRw_at_17 ?_
  refine lv_goto (tgt := 22) hx hb dRw_at_18 rfl ?_
  exact Co.reti hx hb hret hlk dRw_at_22 hS hP hD () rfl trivial rfl (Nat.le_of_ble_eq_true rfl) (Nat.le_of_ble_eq_true rfl)
set_option maxHeartbeats 4000000 in
set_option maxRecDepth 100000 in
theorem c_Rw_drop (l : Launch) (D : va_G) (ca : Nat → ClassId) (h a N : Nat) (r : Rw_) (k : Nat) (hN : N < 2 ^ 31) (hr : r.2 ≤ N) (hk : k ≤ r.2) : Co (S := Unit) l yRw_drop (Cond.code yRw_drop cRw_drop 2 none :: tb_) { frames := 1, cells := 0, slots := 0, locals := 32 } D ca [.ref h, .int (nI k)] [(h, .inr (0, [.ref a, .int (nI r.2)])), (a, .inl (ca 0, N, .inl (fun j => nI (r.1 j))))] (fun _ => none) (fun _ => True) (fun _ => [(h, .inr (0, [.ref a, .int (nI ((rDrop r k).2))])), (a, .inl (ca 0, N, .inl (fun j => nI (((rDrop r k).1) j))))]) 0 0 := by
  refine Co.of cRw_drop 2 none (by decide) (Nat.le_of_ble_eq_true rfl) ?_
  intro p e s m args below meth c A ls fx hret hlk hin hE hP hD hS hA hl
  have hx := fx.1
  have hb := fx.2.1
  have hown : s.vm.findClass RRw = some m.cls := fx.2.2.2.1
  have hts := fx.2.2.2.2
  have ht : ∀ w ∈ tb_, w.before args s = true := fun w h => hts w (List.mem_cons_of_mem _ h)
  have hl : lv_has ls 2 [(0, .ref h), (1, .int (nI k))] := hl
  refine lv_iload_n hx hb dRw_drop_0 rfl (lv_at hl 1 rfl) ?_
  refine k_if_lt (tgt := 12) hx hb (by omega) dRw_drop_1 rfl ?_
  refine lv_iload_n hx hb dRw_drop_4 rfl (lv_at hl 1 rfl) ?_
  refine lv_aload_n hx hb dRw_drop_5 rfl (lv_at hl 0 rfl) ?_
  refine va_get (D := D) (ci := 0) (v := .int (nI r.2)) (C := RRw) (T := TRw) (N := 2) hx hb ht inRw hown hE.1 hP 0 rfl rfl 1 (by decide) (ht _ tw_32) (fun _ h => h) rfl dRw_drop_6 ?_
  refine k_icmp_le (tgt := 13) hx hb (by omega) (by omega) dRw_drop_9 rfl (fun h9 => ?_) (fun hz => absurd hz (by omega))
  refine lv_aload_n hx hb dRw_drop_13 rfl (lv_at hl 0 rfl) ?_
  refine va_get (D := D) (ci := 0) (v := .ref a) (C := RRw) (T := TRw) (N := 2) hx hb ht inRw hown hE.1 hP 0 rfl rfl 0 (by decide) (ht _ tw_31) (fun _ h => h) rfl dRw_drop_14 ?_
  refine lv_iload_n hx hb dRw_drop_17 rfl (lv_at hl 1 rfl) ?_
  refine lv_aload_n hx hb dRw_drop_18 rfl (lv_at hl 0 rfl) ?_
  refine va_get (D := D) (ci := 0) (v := .ref a) (C := RRw) (T := TRw) (N := 2) hx hb ht inRw hown hE.1 hP 0 rfl rfl 0 (by decide) (ht _ tw_31) (fun _ h => h) rfl dRw_drop_19 ?_
  refine lv_iconst (v := nI 0) hx hb dRw_drop_22 (by decide) ?_
  refine lv_aload_n hx hb dRw_drop_23 rfl (lv_at hl 0 rfl) ?_
  refine va_get (D := D) (ci := 0) (v := .int (nI r.2)) (C := RRw) (T := TRw) (N := 2) hx hb ht inRw hown hE.1 hP 0 rfl rfl 1 (by decide) (ht _ tw_32) (fun _ h => h) rfl dRw_drop_24 ?_
  refine lv_iload_n hx hb dRw_drop_27 rfl (lv_at hl 1 rfl) ?_
  refine k_isub hx hb (by omega) dRw_drop_28 ?_
  refine k_copy hx hb (fx.2.2.1.trans hl.1.symm) hown (ht _ tw_325) (ht _ tw_327) (ht _ tw_326) (ht _ tw_13) hE.1 hP hD hS 1 0 (n0 := N) (g := r.1) rfl rfl (k := k) (nn := (r.2 - k)) (by omega) (by omega) (Nat.le_of_ble_eq_true rfl) (Nat.le_of_ble_eq_true rfl) dRw_drop_29 (fun H locs hP hD hS => ?_)
  have hP : va_P D cls_ [(h, .inr (0, [.ref a, .int (nI r.2)])), (a, .inl (ca 0, N, .inl (fun j => nI ((va_cpy r.1 r.1 k 0 (r.2 - k)) j))))] H := hP
  have hD : va_D A [(h, .inr (0, [.ref a, .int (nI r.2)])), (a, .inl (ca 0, N, .inl (fun j => nI ((va_cpy r.1 r.1 k 0 (r.2 - k)) j))))] := hD
  refine lv_aload_n hx hb dRw_drop_32 rfl (lv_at hl 0 rfl) ?_
  refine lv_dup hx hb dRw_drop_33 rfl ?_
  refine va_get (D := D) (ci := 0) (v := .int (nI r.2)) (C := RRw) (T := TRw) (N := 2) hx hb ht inRw hown hE.1 hP 0 rfl rfl 1 (by decide) (ht _ tw_32) (fun _ h => h) rfl dRw_drop_34 ?_
  refine lv_iload_n hx hb dRw_drop_37 rfl (lv_at hl 1 rfl) ?_
  refine k_isub hx hb (by omega) dRw_drop_38 ?_
  refine va_put (D := D) (ci := 0) (v := .int (nI (r.2 - k))) (ty := .int) (C := RRw) (T := TRw) (N := 2) hx hb ht inRw tyRw tyRw_ok nmRw hown hE.1 hP hD hS 0 rfl rfl 1 (by decide) (ht _ tw_32) (fun _ h => h) rfl (by decide +kernel) rfl rfl (Nat.le_of_ble_eq_true rfl) dRw_drop_39 (fun H locs hP hD hS => ?_)
  have hP : va_P D cls_ [(h, .inr (0, [.ref a, .int (nI (r.2 - k))])), (a, .inl (ca 0, N, .inl (fun j => nI ((va_cpy r.1 r.1 k 0 (r.2 - k)) j))))] H := hP
  have hD : va_D A [(h, .inr (0, [.ref a, .int (nI (r.2 - k))])), (a, .inl (ca 0, N, .inl (fun j => nI ((va_cpy r.1 r.1 k 0 (r.2 - k)) j))))] := hD
  exact Co.retv hx hb hret hlk dRw_drop_42 hS hP hD () rfl trivial rfl (Nat.le_of_ble_eq_true rfl) (Nat.le_of_ble_eq_true rfl)
end
section
set_option maxHeartbeats 4000000 in
set_option maxRecDepth 100000 in
theorem c_Pk_of (l : Launch) (D : va_G) (ca : Nat → ClassId) (kd cn nb ak dt : Nat) (h1 : kd < 16) (h2 : cn < 4) (h3 : nb < 8) (h4 : ak < 8) (h5 : dt < 512) : Co (S := Unit) l yPk_of (Cond.code yPk_of cPk_of 5 (some FieldType.int) :: tb_) { frames := 0, cells := 0, slots := 0, locals := 0 } D ca [.int (nI kd), .int (nI cn), .int (nI nb), .int (nI ak), .int (nI dt)] [] (fun _ => some (.int (nI (pk5 kd cn nb ak dt)))) (fun _ => True) (fun _ => []) 0 0 := by
  refine Co.of cPk_of 5 (some FieldType.int) (by decide) (Nat.le_of_ble_eq_true rfl) ?_
  intro p e s m args below meth c A ls fx hret hlk hin hE hP hD hS hA hl
  have hx := fx.1
  have hb := fx.2.1
  have hown : s.vm.findClass RPk = some m.cls := fx.2.2.2.1
  have hts := fx.2.2.2.2
  have ht : ∀ w ∈ tb_, w.before args s = true := fun w h => hts w (List.mem_cons_of_mem _ h)
  have hl : lv_has ls 5 [(0, .int (nI kd)), (1, .int (nI cn)), (2, .int (nI nb)), (3, .int (nI ak)), (4, .int (nI dt))] := hl
  refine lv_iload_n hx hb dPk_of_0 rfl (lv_at hl 0 rfl) ?_
  refine lv_bipush (v := nI 17) hx hb dPk_of_1 (by decide) ?_
  refine lv_ishl hx hb dPk_of_3 ?_
  refine lv_iload_n hx hb dPk_of_4 rfl (lv_at hl 1 rfl) ?_
  refine lv_bipush (v := nI 15) hx hb dPk_of_5 (by decide) ?_
  refine lv_ishl hx hb dPk_of_7 ?_
  refine lv_ior hx hb dPk_of_8 ?_
  refine lv_iload_n hx hb dPk_of_9 rfl (lv_at hl 2 rfl) ?_
  refine lv_bipush (v := nI 12) hx hb dPk_of_10 (by decide) ?_
  refine lv_ishl hx hb dPk_of_12 ?_
  refine lv_ior hx hb dPk_of_13 ?_
  refine lv_iload_n hx hb dPk_of_14 rfl (lv_at hl 3 rfl) ?_
  refine lv_bipush (v := nI 9) hx hb dPk_of_15 (by decide) ?_
  refine lv_ishl hx hb dPk_of_17 ?_
  refine lv_ior hx hb dPk_of_18 ?_
  refine lv_iload hx hb dPk_of_19 (lv_at hl 4 rfl) ?_
  refine lv_ior hx hb dPk_of_21 ?_
  refine k_is (y := nI (pk5 kd cn nb ak dt)) (n_pack h1 h2 h3 h4 h5) ?_
  exact Co.reti hx hb hret hlk dPk_of_22 hS hP hD () rfl trivial rfl (Nat.le_of_ble_eq_true rfl) (Nat.le_of_ble_eq_true rfl)
set_option maxHeartbeats 4000000 in
set_option maxRecDepth 100000 in
theorem c_Pk_bare (l : Launch) (D : va_G) (ca : Nat → ClassId) (kd cn : Nat) (h1 : kd < 16) (h2 : cn < 4) : Co (S := Unit) l yPk_bare (Cond.code yPk_bare cPk_bare 2 (some FieldType.int) :: tb_) { frames := 1, cells := 0, slots := 0, locals := 32 } D ca [.int (nI kd), .int (nI cn)] [] (fun _ => some (.int (nI (pk5 kd cn 0 0 0)))) (fun _ => True) (fun _ => []) 0 0 := by
  refine Co.of cPk_bare 2 (some FieldType.int) (by decide) (Nat.le_of_ble_eq_true rfl) ?_
  intro p e s m args below meth c A ls fx hret hlk hin hE hP hD hS hA hl
  have hx := fx.1
  have hb := fx.2.1
  have hown : s.vm.findClass RPk = some m.cls := fx.2.2.2.1
  have hts := fx.2.2.2.2
  have ht : ∀ w ∈ tb_, w.before args s = true := fun w h => hts w (List.mem_cons_of_mem _ h)
  have hl : lv_has ls 2 [(0, .int (nI kd)), (1, .int (nI cn))] := hl
  refine lv_iload_n hx hb dPk_bare_0 rfl (lv_at hl 0 rfl) ?_
  refine lv_iload_n hx hb dPk_bare_1 rfl (lv_at hl 1 rfl) ?_
  refine lv_iconst (v := nI 0) hx hb dPk_bare_2 (by decide) ?_
  refine lv_iconst (v := nI 0) hx hb dPk_bare_3 (by decide) ?_
  refine lv_iconst (v := nI 0) hx hb dPk_bare_4 (by decide) ?_
  refine kI (rS fx (c_Pk_of l D ca kd cn 0 0 0 (by omega) (by omega) (by omega) (by omega) (by omega)) ⟨callB_of 5 hts (tb_gi tw_428) rfl rfl rfl (ht _ tw_14) (ht _ tw_426) (by decide +kernel) ⟨(Nat.le_of_ble_eq_true rfl), (Nat.le_of_ble_eq_true rfl)⟩, ht _ tw_427⟩ hE hP hD [] rfl rfl rfl hl.1 rfl (Nat.le_of_ble_eq_true rfl) dPk_bare_5 ⟨(Nat.le_of_ble_eq_true rfl), (Nat.le_of_ble_eq_true rfl)⟩) hP hD hS hA [] [] rfl rfl rfl (by decide) (fun _ H locs _ hP hD hS => ?_)
  have hP : va_P D cls_ [] H := hP
  have hD : va_D A [] := hD
  exact Co.reti hx hb hret hlk dPk_bare_8 hS hP hD () rfl trivial rfl (Nat.le_of_ble_eq_true rfl) (Nat.le_of_ble_eq_true rfl)
set_option maxHeartbeats 4000000 in
set_option maxRecDepth 100000 in
theorem c_Pk_kindOf (l : Launch) (D : va_G) (ca : Nat → ClassId) (pk : Nat) (h1 : pk < 2 ^ 31) : Co (S := Unit) l yPk_kindOf (Cond.code yPk_kindOf cPk_kindOf 1 (some FieldType.int) :: tb_) { frames := 0, cells := 0, slots := 0, locals := 0 } D ca [.int (nI pk)] [] (fun _ => some (.int (nI (pKind pk)))) (fun _ => True) (fun _ => []) 0 0 := by
  refine Co.of cPk_kindOf 1 (some FieldType.int) (by decide) (Nat.le_of_ble_eq_true rfl) ?_
  intro p e s m args below meth c A ls fx hret hlk hin hE hP hD hS hA hl
  have hx := fx.1
  have hb := fx.2.1
  have hown : s.vm.findClass RPk = some m.cls := fx.2.2.2.1
  have hts := fx.2.2.2.2
  have ht : ∀ w ∈ tb_, w.before args s = true := fun w h => hts w (List.mem_cons_of_mem _ h)
  have hl : lv_has ls 1 [(0, .int (nI pk))] := hl
  refine lv_iload_n hx hb dPk_kindOf_0 rfl (lv_at hl 0 rfl) ?_
  refine lv_bipush (v := nI 17) hx hb dPk_kindOf_1 (by decide) ?_
  refine lv_ishr hx hb dPk_kindOf_3 ?_
  refine lv_bipush (v := nI 15) hx hb dPk_kindOf_4 (by decide) ?_
  refine lv_iand hx hb dPk_kindOf_6 ?_
  refine k_is (y := nI (pKind pk)) (n_field (x := pk) h1 (nI 17 &&& 31) 17 (by decide) (nI 15) 4 (by decide)) ?_
  exact Co.reti hx hb hret hlk dPk_kindOf_7 hS hP hD () rfl trivial rfl (Nat.le_of_ble_eq_true rfl) (Nat.le_of_ble_eq_true rfl)
set_option maxHeartbeats 4000000 in
set_option maxRecDepth 100000 in
theorem c_Pk_channelOf (l : Launch) (D : va_G) (ca : Nat → ClassId) (pk : Nat) (h1 : pk < 2 ^ 31) : Co (S := Unit) l yPk_channelOf (Cond.code yPk_channelOf cPk_channelOf 1 (some FieldType.int) :: tb_) { frames := 0, cells := 0, slots := 0, locals := 0 } D ca [.int (nI pk)] [] (fun _ => some (.int (nI (pChan pk)))) (fun _ => True) (fun _ => []) 0 0 := by
  refine Co.of cPk_channelOf 1 (some FieldType.int) (by decide) (Nat.le_of_ble_eq_true rfl) ?_
  intro p e s m args below meth c A ls fx hret hlk hin hE hP hD hS hA hl
  have hx := fx.1
  have hb := fx.2.1
  have hown : s.vm.findClass RPk = some m.cls := fx.2.2.2.1
  have hts := fx.2.2.2.2
  have ht : ∀ w ∈ tb_, w.before args s = true := fun w h => hts w (List.mem_cons_of_mem _ h)
  have hl : lv_has ls 1 [(0, .int (nI pk))] := hl
  refine lv_iload_n hx hb dPk_channelOf_0 rfl (lv_at hl 0 rfl) ?_
  refine lv_bipush (v := nI 15) hx hb dPk_channelOf_1 (by decide) ?_
  refine lv_ishr hx hb dPk_channelOf_3 ?_
  refine lv_iconst (v := nI 3) hx hb dPk_channelOf_4 (by decide) ?_
  refine lv_iand hx hb dPk_channelOf_5 ?_
  refine k_is (y := nI (pChan pk)) (n_field (x := pk) h1 (nI 15 &&& 31) 15 (by decide) (nI 3) 2 (by decide)) ?_
  exact Co.reti hx hb hret hlk dPk_channelOf_6 hS hP hD () rfl trivial rfl (Nat.le_of_ble_eq_true rfl) (Nat.le_of_ble_eq_true rfl)
set_option maxHeartbeats 4000000 in
set_option maxRecDepth 100000 in
theorem c_Pk_numberOf (l : Launch) (D : va_G) (ca : Nat → ClassId) (pk : Nat) (h1 : pk < 2 ^ 31) : Co (S := Unit) l yPk_numberOf (Cond.code yPk_numberOf cPk_numberOf 1 (some FieldType.int) :: tb_) { frames := 0, cells := 0, slots := 0, locals := 0 } D ca [.int (nI pk)] [] (fun _ => some (.int (nI (pNumb pk)))) (fun _ => True) (fun _ => []) 0 0 := by
  refine Co.of cPk_numberOf 1 (some FieldType.int) (by decide) (Nat.le_of_ble_eq_true rfl) ?_
  intro p e s m args below meth c A ls fx hret hlk hin hE hP hD hS hA hl
  have hx := fx.1
  have hb := fx.2.1
  have hown : s.vm.findClass RPk = some m.cls := fx.2.2.2.1
  have hts := fx.2.2.2.2
  have ht : ∀ w ∈ tb_, w.before args s = true := fun w h => hts w (List.mem_cons_of_mem _ h)
  have hl : lv_has ls 1 [(0, .int (nI pk))] := hl
  refine lv_iload_n hx hb dPk_numberOf_0 rfl (lv_at hl 0 rfl) ?_
  refine lv_bipush (v := nI 12) hx hb dPk_numberOf_1 (by decide) ?_
  refine lv_ishr hx hb dPk_numberOf_3 ?_
  refine lv_bipush (v := nI 7) hx hb dPk_numberOf_4 (by decide) ?_
  refine lv_iand hx hb dPk_numberOf_6 ?_
  refine k_is (y := nI (pNumb pk)) (n_field (x := pk) h1 (nI 12 &&& 31) 12 (by decide) (nI 7) 3 (by decide)) ?_
  exact Co.reti hx hb hret hlk dPk_numberOf_7 hS hP hD () rfl trivial rfl (Nat.le_of_ble_eq_true rfl) (Nat.le_of_ble_eq_true rfl)
set_option maxHeartbeats 4000000 in
set_option maxRecDepth 100000 in
theorem c_Pk_acknowledgementOf (l : Launch) (D : va_G) (ca : Nat → ClassId) (pk : Nat) (h1 : pk < 2 ^ 31) : Co (S := Unit) l yPk_acknowledgementOf (Cond.code yPk_acknowledgementOf cPk_acknowledgementOf 1 (some FieldType.int) :: tb_) { frames := 0, cells := 0, slots := 0, locals := 0 } D ca [.int (nI pk)] [] (fun _ => some (.int (nI (pAckn pk)))) (fun _ => True) (fun _ => []) 0 0 := by
  refine Co.of cPk_acknowledgementOf 1 (some FieldType.int) (by decide) (Nat.le_of_ble_eq_true rfl) ?_
  intro p e s m args below meth c A ls fx hret hlk hin hE hP hD hS hA hl
  have hx := fx.1
  have hb := fx.2.1
  have hown : s.vm.findClass RPk = some m.cls := fx.2.2.2.1
  have hts := fx.2.2.2.2
  have ht : ∀ w ∈ tb_, w.before args s = true := fun w h => hts w (List.mem_cons_of_mem _ h)
  have hl : lv_has ls 1 [(0, .int (nI pk))] := hl
  refine lv_iload_n hx hb dPk_acknowledgementOf_0 rfl (lv_at hl 0 rfl) ?_
  refine lv_bipush (v := nI 9) hx hb dPk_acknowledgementOf_1 (by decide) ?_
  refine lv_ishr hx hb dPk_acknowledgementOf_3 ?_
  refine lv_bipush (v := nI 7) hx hb dPk_acknowledgementOf_4 (by decide) ?_
  refine lv_iand hx hb dPk_acknowledgementOf_6 ?_
  refine k_is (y := nI (pAckn pk)) (n_field (x := pk) h1 (nI 9 &&& 31) 9 (by decide) (nI 7) 3 (by decide)) ?_
  exact Co.reti hx hb hret hlk dPk_acknowledgementOf_7 hS hP hD () rfl trivial rfl (Nat.le_of_ble_eq_true rfl) (Nat.le_of_ble_eq_true rfl)
set_option maxHeartbeats 4000000 in
set_option maxRecDepth 100000 in
theorem c_Pk_dataOf (l : Launch) (D : va_G) (ca : Nat → ClassId) (pk : Nat) (h1 : pk < 2 ^ 31) : Co (S := Unit) l yPk_dataOf (Cond.code yPk_dataOf cPk_dataOf 1 (some FieldType.int) :: tb_) { frames := 0, cells := 0, slots := 0, locals := 0 } D ca [.int (nI pk)] [] (fun _ => some (.int (nI (pData pk)))) (fun _ => True) (fun _ => []) 0 0 := by
  refine Co.of cPk_dataOf 1 (some FieldType.int) (by decide) (Nat.le_of_ble_eq_true rfl) ?_
  intro p e s m args below meth c A ls fx hret hlk hin hE hP hD hS hA hl
  have hx := fx.1
  have hb := fx.2.1
  have hown : s.vm.findClass RPk = some m.cls := fx.2.2.2.1
  have hts := fx.2.2.2.2
  have ht : ∀ w ∈ tb_, w.before args s = true := fun w h => hts w (List.mem_cons_of_mem _ h)
  have hl : lv_has ls 1 [(0, .int (nI pk))] := hl
  refine lv_iload_n hx hb dPk_dataOf_0 rfl (lv_at hl 0 rfl) ?_
  refine lv_sipush (v := nI 511) hx hb dPk_dataOf_1 (by decide) ?_
  refine lv_iand hx hb dPk_dataOf_4 ?_
  refine k_is (y := nI (pData pk)) (pk_andN (n := pk) (m := nI 511) (by omega) 9 (by decide)) ?_
  exact Co.reti hx hb hret hlk dPk_dataOf_5 hS hP hD () rfl trivial rfl (Nat.le_of_ble_eq_true rfl) (Nat.le_of_ble_eq_true rfl)
set_option maxHeartbeats 4000000 in
set_option maxRecDepth 100000 in
theorem c_Fr_of (l : Launch) (D : va_G) (ca : Nat → ClassId) (kd nb ak pk : Nat) (h1 : kd < 8) (h2 : nb < 8) (h3 : ak < 8) (h4 : pk < 2097152) : Co (S := Unit) l yFr_of (Cond.code yFr_of cFr_of 4 (some FieldType.int) :: tb_) { frames := 0, cells := 0, slots := 0, locals := 0 } D ca [.int (nI kd), .int (nI nb), .int (nI ak), .int (nI pk)] [] (fun _ => some (.int (nI (fr4 kd nb ak pk)))) (fun _ => True) (fun _ => []) 0 0 := by
  refine Co.of cFr_of 4 (some FieldType.int) (by decide) (Nat.le_of_ble_eq_true rfl) ?_
  intro p e s m args below meth c A ls fx hret hlk hin hE hP hD hS hA hl
  have hx := fx.1
  have hb := fx.2.1
  have hown : s.vm.findClass RFr = some m.cls := fx.2.2.2.1
  have hts := fx.2.2.2.2
  have ht : ∀ w ∈ tb_, w.before args s = true := fun w h => hts w (List.mem_cons_of_mem _ h)
  have hl : lv_has ls 4 [(0, .int (nI kd)), (1, .int (nI nb)), (2, .int (nI ak)), (3, .int (nI pk))] := hl
  refine lv_iload_n hx hb dFr_of_0 rfl (lv_at hl 0 rfl) ?_
  refine lv_bipush (v := nI 27) hx hb dFr_of_1 (by decide) ?_
  refine lv_ishl hx hb dFr_of_3 ?_
  refine lv_iload_n hx hb dFr_of_4 rfl (lv_at hl 1 rfl) ?_
  refine lv_bipush (v := nI 24) hx hb dFr_of_5 (by decide) ?_
  refine lv_ishl hx hb dFr_of_7 ?_
  refine lv_ior hx hb dFr_of_8 ?_
  refine lv_iload_n hx hb dFr_of_9 rfl (lv_at hl 2 rfl) ?_
  refine lv_bipush (v := nI 21) hx hb dFr_of_10 (by decide) ?_
  refine lv_ishl hx hb dFr_of_12 ?_
  refine lv_ior hx hb dFr_of_13 ?_
  refine lv_iload_n hx hb dFr_of_14 rfl (lv_at hl 3 rfl) ?_
  refine lv_ior hx hb dFr_of_15 ?_
  refine k_is (y := nI (fr4 kd nb ak pk)) (n_frame h1 h2 h3 h4) ?_
  exact Co.reti hx hb hret hlk dFr_of_16 hS hP hD () rfl trivial rfl (Nat.le_of_ble_eq_true rfl) (Nat.le_of_ble_eq_true rfl)
set_option maxHeartbeats 4000000 in
set_option maxRecDepth 100000 in
theorem c_Fr_kindOf (l : Launch) (D : va_G) (ca : Nat → ClassId) (pk : Nat) (h1 : pk < 2 ^ 31) : Co (S := Unit) l yFr_kindOf (Cond.code yFr_kindOf cFr_kindOf 1 (some FieldType.int) :: tb_) { frames := 0, cells := 0, slots := 0, locals := 0 } D ca [.int (nI pk)] [] (fun _ => some (.int (nI (fKind pk)))) (fun _ => True) (fun _ => []) 0 0 := by
  refine Co.of cFr_kindOf 1 (some FieldType.int) (by decide) (Nat.le_of_ble_eq_true rfl) ?_
  intro p e s m args below meth c A ls fx hret hlk hin hE hP hD hS hA hl
  have hx := fx.1
  have hb := fx.2.1
  have hown : s.vm.findClass RFr = some m.cls := fx.2.2.2.1
  have hts := fx.2.2.2.2
  have ht : ∀ w ∈ tb_, w.before args s = true := fun w h => hts w (List.mem_cons_of_mem _ h)
  have hl : lv_has ls 1 [(0, .int (nI pk))] := hl
  refine lv_iload_n hx hb dFr_kindOf_0 rfl (lv_at hl 0 rfl) ?_
  refine lv_bipush (v := nI 27) hx hb dFr_kindOf_1 (by decide) ?_
  refine lv_ishr hx hb dFr_kindOf_3 ?_
  refine lv_bipush (v := nI 7) hx hb dFr_kindOf_4 (by decide) ?_
  refine lv_iand hx hb dFr_kindOf_6 ?_
  refine k_is (y := nI (fKind pk)) (n_field (x := pk) h1 (nI 27 &&& 31) 27 (by decide) (nI 7) 3 (by decide)) ?_
  exact Co.reti hx hb hret hlk dFr_kindOf_7 hS hP hD () rfl trivial rfl (Nat.le_of_ble_eq_true rfl) (Nat.le_of_ble_eq_true rfl)
set_option maxHeartbeats 4000000 in
set_option maxRecDepth 100000 in
theorem c_Fr_numberOf (l : Launch) (D : va_G) (ca : Nat → ClassId) (pk : Nat) (h1 : pk < 2 ^ 31) : Co (S := Unit) l yFr_numberOf (Cond.code yFr_numberOf cFr_numberOf 1 (some FieldType.int) :: tb_) { frames := 0, cells := 0, slots := 0, locals := 0 } D ca [.int (nI pk)] [] (fun _ => some (.int (nI (fNumb pk)))) (fun _ => True) (fun _ => []) 0 0 := by
  refine Co.of cFr_numberOf 1 (some FieldType.int) (by decide) (Nat.le_of_ble_eq_true rfl) ?_
  intro p e s m args below meth c A ls fx hret hlk hin hE hP hD hS hA hl
  have hx := fx.1
  have hb := fx.2.1
  have hown : s.vm.findClass RFr = some m.cls := fx.2.2.2.1
  have hts := fx.2.2.2.2
  have ht : ∀ w ∈ tb_, w.before args s = true := fun w h => hts w (List.mem_cons_of_mem _ h)
  have hl : lv_has ls 1 [(0, .int (nI pk))] := hl
  refine lv_iload_n hx hb dFr_numberOf_0 rfl (lv_at hl 0 rfl) ?_
  refine lv_bipush (v := nI 24) hx hb dFr_numberOf_1 (by decide) ?_
  refine lv_ishr hx hb dFr_numberOf_3 ?_
  refine lv_bipush (v := nI 7) hx hb dFr_numberOf_4 (by decide) ?_
  refine lv_iand hx hb dFr_numberOf_6 ?_
  refine k_is (y := nI (fNumb pk)) (n_field (x := pk) h1 (nI 24 &&& 31) 24 (by decide) (nI 7) 3 (by decide)) ?_
  exact Co.reti hx hb hret hlk dFr_numberOf_7 hS hP hD () rfl trivial rfl (Nat.le_of_ble_eq_true rfl) (Nat.le_of_ble_eq_true rfl)
set_option maxHeartbeats 4000000 in
set_option maxRecDepth 100000 in
theorem c_Fr_acknowledgementOf (l : Launch) (D : va_G) (ca : Nat → ClassId) (pk : Nat) (h1 : pk < 2 ^ 31) : Co (S := Unit) l yFr_acknowledgementOf (Cond.code yFr_acknowledgementOf cFr_acknowledgementOf 1 (some FieldType.int) :: tb_) { frames := 0, cells := 0, slots := 0, locals := 0 } D ca [.int (nI pk)] [] (fun _ => some (.int (nI (fAckn pk)))) (fun _ => True) (fun _ => []) 0 0 := by
  refine Co.of cFr_acknowledgementOf 1 (some FieldType.int) (by decide) (Nat.le_of_ble_eq_true rfl) ?_
  intro p e s m args below meth c A ls fx hret hlk hin hE hP hD hS hA hl
  have hx := fx.1
  have hb := fx.2.1
  have hown : s.vm.findClass RFr = some m.cls := fx.2.2.2.1
  have hts := fx.2.2.2.2
  have ht : ∀ w ∈ tb_, w.before args s = true := fun w h => hts w (List.mem_cons_of_mem _ h)
  have hl : lv_has ls 1 [(0, .int (nI pk))] := hl
  refine lv_iload_n hx hb dFr_acknowledgementOf_0 rfl (lv_at hl 0 rfl) ?_
  refine lv_bipush (v := nI 21) hx hb dFr_acknowledgementOf_1 (by decide) ?_
  refine lv_ishr hx hb dFr_acknowledgementOf_3 ?_
  refine lv_bipush (v := nI 7) hx hb dFr_acknowledgementOf_4 (by decide) ?_
  refine lv_iand hx hb dFr_acknowledgementOf_6 ?_
  refine k_is (y := nI (fAckn pk)) (n_field (x := pk) h1 (nI 21 &&& 31) 21 (by decide) (nI 7) 3 (by decide)) ?_
  exact Co.reti hx hb hret hlk dFr_acknowledgementOf_7 hS hP hD () rfl trivial rfl (Nat.le_of_ble_eq_true rfl) (Nat.le_of_ble_eq_true rfl)
set_option maxHeartbeats 4000000 in
set_option maxRecDepth 100000 in
theorem c_Fr_packetOf (l : Launch) (D : va_G) (ca : Nat → ClassId) (pk : Nat) (h1 : pk < 2 ^ 31) : Co (S := Unit) l yFr_packetOf (Cond.code yFr_packetOf cFr_packetOf 1 (some FieldType.int) :: tb_) { frames := 0, cells := 0, slots := 0, locals := 0 } D ca [.int (nI pk)] [] (fun _ => some (.int (nI (fPack pk)))) (fun _ => True) (fun _ => []) 0 0 := by
  refine Co.of cFr_packetOf 1 (some FieldType.int) (by decide) (Nat.le_of_ble_eq_true rfl) ?_
  intro p e s m args below meth c A ls fx hret hlk hin hE hP hD hS hA hl
  have hx := fx.1
  have hb := fx.2.1
  have hown : s.vm.findClass RFr = some m.cls := fx.2.2.2.1
  have hts := fx.2.2.2.2
  have ht : ∀ w ∈ tb_, w.before args s = true := fun w h => hts w (List.mem_cons_of_mem _ h)
  have hl : lv_has ls 1 [(0, .int (nI pk))] := hl
  refine lv_iload_n hx hb dFr_packetOf_0 rfl (lv_at hl 0 rfl) ?_
  refine lv_ldc (v := nI 2097151) hx hb hown (ht _ tw_372) dFr_packetOf_1 ?_
  refine lv_iand hx hb dFr_packetOf_3 ?_
  refine k_is (y := nI (fPack pk)) (pk_andN (n := pk) (m := nI 2097151) (by omega) 21 (by decide)) ?_
  exact Co.reti hx hb hret hlk dFr_packetOf_4 hS hP hD () rfl trivial rfl (Nat.le_of_ble_eq_true rfl) (Nat.le_of_ble_eq_true rfl)
set_option maxHeartbeats 4000000 in
set_option maxRecDepth 100000 in
theorem c_Cl_after (l : Launch) (D : va_G) (ca : Nat → ClassId) (nb : Nat) (h1 : nb < 8) : Co (S := Unit) l yCl_after (Cond.code yCl_after cCl_after 1 (some FieldType.int) :: tb_) { frames := 0, cells := 0, slots := 0, locals := 0 } D ca [.int (nI nb)] [] (fun _ => some (.int (nI (af nb)))) (fun _ => True) (fun _ => []) 0 0 := by
  refine Co.of cCl_after 1 (some FieldType.int) (by decide) (Nat.le_of_ble_eq_true rfl) ?_
  intro p e s m args below meth c A ls fx hret hlk hin hE hP hD hS hA hl
  have hx := fx.1
  have hb := fx.2.1
  have hown : s.vm.findClass RCl = some m.cls := fx.2.2.2.1
  have hts := fx.2.2.2.2
  have ht : ∀ w ∈ tb_, w.before args s = true := fun w h => hts w (List.mem_cons_of_mem _ h)
  have hl : lv_has ls 1 [(0, .int (nI nb))] := hl
  refine lv_iload_n hx hb dCl_after_0 rfl (lv_at hl 0 rfl) ?_
  refine lv_iconst (v := nI 1) hx hb dCl_after_1 (by decide) ?_
  refine k_iadd hx hb dCl_after_2 ?_
  refine lv_bipush (v := nI 7) hx hb dCl_after_3 (by decide) ?_
  refine lv_iand hx hb dCl_after_5 ?_
  refine k_is (y := nI (af nb)) (n_after h1) ?_
  exact Co.reti hx hb hret hlk dCl_after_6 hS hP hD () rfl trivial rfl (Nat.le_of_ble_eq_true rfl) (Nat.le_of_ble_eq_true rfl)
set_option maxHeartbeats 4000000 in
set_option maxRecDepth 100000 in
theorem c_Cl_distance (l : Launch) (D : va_G) (ca : Nat → ClassId) (fm to : Nat) (h1 : fm < 8) (h2 : to < 8) : Co (S := Unit) l yCl_distance (Cond.code yCl_distance cCl_distance 2 (some FieldType.int) :: tb_) { frames := 0, cells := 0, slots := 0, locals := 0 } D ca [.int (nI fm), .int (nI to)] [] (fun _ => some (.int (nI (ds fm to)))) (fun _ => True) (fun _ => []) 0 0 := by
  refine Co.of cCl_distance 2 (some FieldType.int) (by decide) (Nat.le_of_ble_eq_true rfl) ?_
  intro p e s m args below meth c A ls fx hret hlk hin hE hP hD hS hA hl
  have hx := fx.1
  have hb := fx.2.1
  have hown : s.vm.findClass RCl = some m.cls := fx.2.2.2.1
  have hts := fx.2.2.2.2
  have ht : ∀ w ∈ tb_, w.before args s = true := fun w h => hts w (List.mem_cons_of_mem _ h)
  have hl : lv_has ls 2 [(0, .int (nI fm)), (1, .int (nI to))] := hl
  refine lv_iload_n hx hb dCl_distance_0 rfl (lv_at hl 1 rfl) ?_
  refine lv_iload_n hx hb dCl_distance_1 rfl (lv_at hl 0 rfl) ?_
  refine lv_isub hx hb dCl_distance_2 ?_
  refine lv_bipush (v := nI 7) hx hb dCl_distance_3 (by decide) ?_
  refine lv_iand hx hb dCl_distance_5 ?_
  refine k_is (y := nI (ds fm to)) (n_dist fm h1 to h2) ?_
  exact Co.reti hx hb hret hlk dCl_distance_6 hS hP hD () rfl trivial rfl (Nat.le_of_ble_eq_true rfl) (Nat.le_of_ble_eq_true rfl)
set_option maxHeartbeats 4000000 in
set_option maxRecDepth 100000 in
theorem c_Cl_isChannel (l : Launch) (D : va_G) (ca : Nat → ClassId) (cn : Nat) (h1 : cn < 2 ^ 31) : Co (S := Unit) l yCl_isChannel (Cond.code yCl_isChannel cCl_isChannel 1 (some FieldType.boolean) :: tb_) { frames := 0, cells := 0, slots := 0, locals := 0 } D ca [.int (nI cn)] [] (fun _ => some (.int (nI (if cn < 3 then 1 else 0)))) (fun _ => True) (fun _ => []) 0 0 := by
  refine Co.of cCl_isChannel 1 (some FieldType.boolean) (by decide) (Nat.le_of_ble_eq_true rfl) ?_
  intro p e s m args below meth c A ls fx hret hlk hin hE hP hD hS hA hl
  have hx := fx.1
  have hb := fx.2.1
  have hown : s.vm.findClass RCl = some m.cls := fx.2.2.2.1
  have hts := fx.2.2.2.2
  have ht : ∀ w ∈ tb_, w.before args s = true := fun w h => hts w (List.mem_cons_of_mem _ h)
  have hl : lv_has ls 1 [(0, .int (nI cn))] := hl
  refine lv_iload_n hx hb dCl_isChannel_0 rfl (lv_at hl 0 rfl) ?_
  refine k_if_lt (tgt := 13) hx hb (by omega) dCl_isChannel_1 rfl ?_
  refine lv_iload_n hx hb dCl_isChannel_4 rfl (lv_at hl 0 rfl) ?_
  refine lv_iconst (v := nI 3) hx hb dCl_isChannel_5 (by decide) ?_
  refine k_icmp_ge (tgt := 13) hx hb (by omega) (by omega) dCl_isChannel_6 rfl (fun h6 => ?_) (fun h6 => ?_)
  · refine lv_iconst (v := nI 0) hx hb dCl_isChannel_13 (by decide) ?_
    exact Co.retz hx hb hret hlk (by first | rfl | decide) dCl_isChannel_14 hS hP hD () (by rw [if_neg (by omega)]) trivial rfl (Nat.le_of_ble_eq_true rfl) (Nat.le_of_ble_eq_true rfl)
  · refine lv_iconst (v := nI 1) hx hb dCl_isChannel_9 (by decide) ?_
    refine lv_goto (tgt := 14) hx hb dCl_isChannel_10 rfl ?_
    exact Co.retz hx hb hret hlk (by first | rfl | decide) dCl_isChannel_14 hS hP hD () (by rw [if_pos (by omega)]) trivial rfl (Nat.le_of_ble_eq_true rfl) (Nat.le_of_ble_eq_true rfl)
set_option maxHeartbeats 4000000 in
set_option maxRecDepth 100000 in
theorem c_Cl_isNumber (l : Launch) (D : va_G) (ca : Nat → ClassId) (cn : Nat) (h1 : cn < 2 ^ 31) : Co (S := Unit) l yCl_isNumber (Cond.code yCl_isNumber cCl_isNumber 1 (some FieldType.boolean) :: tb_) { frames := 0, cells := 0, slots := 0, locals := 0 } D ca [.int (nI cn)] [] (fun _ => some (.int (nI (if cn < 8 then 1 else 0)))) (fun _ => True) (fun _ => []) 0 0 := by
  refine Co.of cCl_isNumber 1 (some FieldType.boolean) (by decide) (Nat.le_of_ble_eq_true rfl) ?_
  intro p e s m args below meth c A ls fx hret hlk hin hE hP hD hS hA hl
  have hx := fx.1
  have hb := fx.2.1
  have hown : s.vm.findClass RCl = some m.cls := fx.2.2.2.1
  have hts := fx.2.2.2.2
  have ht : ∀ w ∈ tb_, w.before args s = true := fun w h => hts w (List.mem_cons_of_mem _ h)
  have hl : lv_has ls 1 [(0, .int (nI cn))] := hl
  refine lv_iload_n hx hb dCl_isNumber_0 rfl (lv_at hl 0 rfl) ?_
  refine k_if_lt (tgt := 14) hx hb (by omega) dCl_isNumber_1 rfl ?_
  refine lv_iload_n hx hb dCl_isNumber_4 rfl (lv_at hl 0 rfl) ?_
  refine lv_bipush (v := nI 7) hx hb dCl_isNumber_5 (by decide) ?_
  refine k_icmp_gt (tgt := 14) hx hb (by omega) (by omega) dCl_isNumber_7 rfl (fun h7 => ?_) (fun h7 => ?_)
  · refine lv_iconst (v := nI 0) hx hb dCl_isNumber_14 (by decide) ?_
    exact Co.retz hx hb hret hlk (by first | rfl | decide) dCl_isNumber_15 hS hP hD () (by rw [if_neg (by omega)]) trivial rfl (Nat.le_of_ble_eq_true rfl) (Nat.le_of_ble_eq_true rfl)
  · refine lv_iconst (v := nI 1) hx hb dCl_isNumber_10 (by decide) ?_
    refine lv_goto (tgt := 15) hx hb dCl_isNumber_11 rfl ?_
    exact Co.retz hx hb hret hlk (by first | rfl | decide) dCl_isNumber_15 hS hP hD () (by rw [if_pos (by omega)]) trivial rfl (Nat.le_of_ble_eq_true rfl) (Nat.le_of_ble_eq_true rfl)
end
section
set_option maxHeartbeats 4000000 in
set_option maxRecDepth 100000 in
theorem c_Ch_renewAs (l : Launch) (D : va_G) (ca : Nat → ClassId) (q d da y st nx pa du ta : Nat) (r : Rw_) (ns : Nat) : Co (S := Unit) l yCh_renewAs (Cond.code yCh_renewAs cCh_renewAs 2 none :: tb_) { frames := 0, cells := 0, slots := 0, locals := 0 } D ca [.ref q, .int (nI ns)] [(q, .inr (1, [.int (nI y), .ref d, .int (nI st), .int (nI nx), .int (nI pa), .int (nI du), .int (nI ta)])), (d, .inr (0, [.ref da, .int (nI r.2)])), (da, .inl (ca 0, 2, .inl (fun j => nI (r.1 j))))] (fun _ => none) (fun _ => True) (fun _ => [(q, .inr (1, [.int (nI y), .ref d, .int (nI ns), .int (nI 0), .int (nI 0), .int (nI 0), .int (nI 0)])), (d, .inr (0, [.ref da, .int (nI ((rNone r).2))])), (da, .inl (ca 0, 2, .inl (fun j => nI (((rNone r).1) j))))]) 0 0 := by
  refine Co.of cCh_renewAs 2 none (by decide) (Nat.le_of_ble_eq_true rfl) ?_
  intro p e s m args below meth c A ls fx hret hlk hin hE hP hD hS hA hl
  have hx := fx.1
  have hb := fx.2.1
  have hown : s.vm.findClass RCh = some m.cls := fx.2.2.2.1
  have hts := fx.2.2.2.2
  have ht : ∀ w ∈ tb_, w.before args s = true := fun w h => hts w (List.mem_cons_of_mem _ h)
  have hl : lv_has ls 2 [(0, .ref q), (1, .int (nI ns))] := hl
  refine lv_aload_n hx hb dCh_renewAs_0 rfl (lv_at hl 0 rfl) ?_
  refine lv_iload_n hx hb dCh_renewAs_1 rfl (lv_at hl 1 rfl) ?_
  refine va_put (D := D) (ci := 1) (v := .int (nI ns)) (ty := .int) (C := RCh) (T := TCh) (N := 7) hx hb ht inCh tyCh tyCh_ok nmCh hown hE.1 hP hD hS 0 rfl rfl 2 (by decide) (ht _ tw_63) (fun _ h => h) rfl (by decide +kernel) rfl rfl (Nat.le_of_ble_eq_true rfl) dCh_renewAs_2 (fun H locs hP hD hS => ?_)
  have hP : va_P D cls_ [(q, .inr (1, [.int (nI y), .ref d, .int (nI ns), .int (nI nx), .int (nI pa), .int (nI du), .int (nI ta)])), (d, .inr (0, [.ref da, .int (nI r.2)])), (da, .inl (ca 0, 2, .inl (fun j => nI (r.1 j))))] H := hP
  have hD : va_D A [(q, .inr (1, [.int (nI y), .ref d, .int (nI ns), .int (nI nx), .int (nI pa), .int (nI du), .int (nI ta)])), (d, .inr (0, [.ref da, .int (nI r.2)])), (da, .inl (ca 0, 2, .inl (fun j => nI (r.1 j))))] := hD
  refine lv_aload_n hx hb dCh_renewAs_5 rfl (lv_at hl 0 rfl) ?_
  refine lv_iconst (v := nI 0) hx hb dCh_renewAs_6 (by decide) ?_
  refine va_put (D := D) (ci := 1) (v := .int (nI 0)) (ty := .int) (C := RCh) (T := TCh) (N := 7) hx hb ht inCh tyCh tyCh_ok nmCh hown hE.1 hP hD hS 0 rfl rfl 3 (by decide) (ht _ tw_65) (fun _ h => h) rfl (by decide +kernel) rfl rfl (Nat.le_of_ble_eq_true rfl) dCh_renewAs_7 (fun H locs hP hD hS => ?_)
  have hP : va_P D cls_ [(q, .inr (1, [.int (nI y), .ref d, .int (nI ns), .int (nI 0), .int (nI pa), .int (nI du), .int (nI ta)])), (d, .inr (0, [.ref da, .int (nI r.2)])), (da, .inl (ca 0, 2, .inl (fun j => nI (r.1 j))))] H := hP
  have hD : va_D A [(q, .inr (1, [.int (nI y), .ref d, .int (nI ns), .int (nI 0), .int (nI pa), .int (nI du), .int (nI ta)])), (d, .inr (0, [.ref da, .int (nI r.2)])), (da, .inl (ca 0, 2, .inl (fun j => nI (r.1 j))))] := hD
  refine lv_aload_n hx hb dCh_renewAs_10 rfl (lv_at hl 0 rfl) ?_
  refine lv_iconst (v := nI 0) hx hb dCh_renewAs_11 (by decide) ?_
  refine va_put (D := D) (ci := 1) (v := .int (nI 0)) (ty := .int) (C := RCh) (T := TCh) (N := 7) hx hb ht inCh tyCh tyCh_ok nmCh hown hE.1 hP hD hS 0 rfl rfl 4 (by decide) (ht _ tw_67) (fun _ h => h) rfl (by decide +kernel) rfl rfl (Nat.le_of_ble_eq_true rfl) dCh_renewAs_12 (fun H locs hP hD hS => ?_)
  have hP : va_P D cls_ [(q, .inr (1, [.int (nI y), .ref d, .int (nI ns), .int (nI 0), .int (nI 0), .int (nI du), .int (nI ta)])), (d, .inr (0, [.ref da, .int (nI r.2)])), (da, .inl (ca 0, 2, .inl (fun j => nI (r.1 j))))] H := hP
  have hD : va_D A [(q, .inr (1, [.int (nI y), .ref d, .int (nI ns), .int (nI 0), .int (nI 0), .int (nI du), .int (nI ta)])), (d, .inr (0, [.ref da, .int (nI r.2)])), (da, .inl (ca 0, 2, .inl (fun j => nI (r.1 j))))] := hD
  refine lv_aload_n hx hb dCh_renewAs_15 rfl (lv_at hl 0 rfl) ?_
  refine lv_iconst (v := nI 0) hx hb dCh_renewAs_16 (by decide) ?_
  refine va_put (D := D) (ci := 1) (v := .int (nI 0)) (ty := .int) (C := RCh) (T := TCh) (N := 7) hx hb ht inCh tyCh tyCh_ok nmCh hown hE.1 hP hD hS 0 rfl rfl 5 (by decide) (ht _ tw_69) (fun _ h => h) rfl (by decide +kernel) rfl rfl (Nat.le_of_ble_eq_true rfl) dCh_renewAs_17 (fun H locs hP hD hS => ?_)
  have hP : va_P D cls_ [(q, .inr (1, [.int (nI y), .ref d, .int (nI ns), .int (nI 0), .int (nI 0), .int (nI 0), .int (nI ta)])), (d, .inr (0, [.ref da, .int (nI r.2)])), (da, .inl (ca 0, 2, .inl (fun j => nI (r.1 j))))] H := hP
  have hD : va_D A [(q, .inr (1, [.int (nI y), .ref d, .int (nI ns), .int (nI 0), .int (nI 0), .int (nI 0), .int (nI ta)])), (d, .inr (0, [.ref da, .int (nI r.2)])), (da, .inl (ca 0, 2, .inl (fun j => nI (r.1 j))))] := hD
  refine lv_aload_n hx hb dCh_renewAs_20 rfl (lv_at hl 0 rfl) ?_
  refine lv_iconst (v := nI 0) hx hb dCh_renewAs_21 (by decide) ?_
  refine va_put (D := D) (ci := 1) (v := .int (nI 0)) (ty := .int) (C := RCh) (T := TCh) (N := 7) hx hb ht inCh tyCh tyCh_ok nmCh hown hE.1 hP hD hS 0 rfl rfl 6 (by decide) (ht _ tw_71) (fun _ h => h) rfl (by decide +kernel) rfl rfl (Nat.le_of_ble_eq_true rfl) dCh_renewAs_22 (fun H locs hP hD hS => ?_)
  have hP : va_P D cls_ [(q, .inr (1, [.int (nI y), .ref d, .int (nI ns), .int (nI 0), .int (nI 0), .int (nI 0), .int (nI 0)])), (d, .inr (0, [.ref da, .int (nI r.2)])), (da, .inl (ca 0, 2, .inl (fun j => nI (r.1 j))))] H := hP
  have hD : va_D A [(q, .inr (1, [.int (nI y), .ref d, .int (nI ns), .int (nI 0), .int (nI 0), .int (nI 0), .int (nI 0)])), (d, .inr (0, [.ref da, .int (nI r.2)])), (da, .inl (ca 0, 2, .inl (fun j => nI (r.1 j))))] := hD
  refine lv_aload_n hx hb dCh_renewAs_25 rfl (lv_at hl 0 rfl) ?_
  refine va_get (D := D) (ci := 1) (v := .ref d) (C := RCh) (T := TCh) (N := 7) hx hb ht inCh hown hE.1 hP 0 rfl rfl 1 (by decide) (ht _ tw_61) (fun _ h => h) rfl dCh_renewAs_26 ?_
  refine lv_iconst (v := nI 0) hx hb dCh_renewAs_29 (by decide) ?_
  refine va_putN (D := D) (ci := 0) (v := .int (nI 0)) (ty := .int) (host := "ChannelledLink") (C := RRw) (T := TRw) (N := 2) hx hb ht inRw tyRw tyRw_ok nmRw hown hE.1 hP hD hS 1 rfl rfl 1 (by decide) (hE.nestU tw_33 rfl) (fun _ h => h) rfl (by decide +kernel) rfl rfl (Nat.le_of_ble_eq_true rfl) dCh_renewAs_30 (fun H locs hP hD hS => ?_)
  have hP : va_P D cls_ [(q, .inr (1, [.int (nI y), .ref d, .int (nI ns), .int (nI 0), .int (nI 0), .int (nI 0), .int (nI 0)])), (d, .inr (0, [.ref da, .int (nI 0)])), (da, .inl (ca 0, 2, .inl (fun j => nI (r.1 j))))] H := hP
  have hD : va_D A [(q, .inr (1, [.int (nI y), .ref d, .int (nI ns), .int (nI 0), .int (nI 0), .int (nI 0), .int (nI 0)])), (d, .inr (0, [.ref da, .int (nI 0)])), (da, .inl (ca 0, 2, .inl (fun j => nI (r.1 j))))] := hD
  exact Co.retv hx hb hret hlk dCh_renewAs_33 hS hP hD () rfl trivial rfl (Nat.le_of_ble_eq_true rfl) (Nat.le_of_ble_eq_true rfl)
set_option maxHeartbeats 4000000 in
set_option maxRecDepth 100000 in
theorem c_Ch_takeData (l : Launch) (D : va_G) (ca : Nat → ClassId) (q d da y st nx pa du ta : Nat) (r : Rw_) (hta : ta < 8) (hr : r.2 ≤ 2) (h0 : 0 < r.2) : Co (S := Unit) l yCh_takeData (Cond.code yCh_takeData cCh_takeData 2 (some FieldType.int) :: tb_) { frames := 2, cells := 0, slots := 0, locals := 64 } D ca [.ref q] [(q, .inr (1, [.int (nI y), .ref d, .int (nI st), .int (nI nx), .int (nI pa), .int (nI du), .int (nI ta)])), (d, .inr (0, [.ref da, .int (nI r.2)])), (da, .inl (ca 0, 2, .inl (fun j => nI (r.1 j))))] (fun _ => some (.int (nI (r.1 0)))) (fun _ => True) (fun _ => [(q, .inr (1, [.int (nI y), .ref d, .int (nI st), .int (nI nx), .int (nI pa), .int (nI du), .int (nI (af ta))])), (d, .inr (0, [.ref da, .int (nI ((rDrop r 1).2))])), (da, .inl (ca 0, 2, .inl (fun j => nI (((rDrop r 1).1) j))))]) 0 0 := by
  refine Co.of cCh_takeData 2 (some FieldType.int) (by decide) (Nat.le_of_ble_eq_true rfl) ?_
  intro p e s m args below meth c A ls fx hret hlk hin hE hP hD hS hA hl
  have hx := fx.1
  have hb := fx.2.1
  have hown : s.vm.findClass RCh = some m.cls := fx.2.2.2.1
  have hts := fx.2.2.2.2
  have ht : ∀ w ∈ tb_, w.before args s = true := fun w h => hts w (List.mem_cons_of_mem _ h)
  have hl : lv_has ls 2 [(0, .ref q)] := hl
  refine lv_aload_n hx hb dCh_takeData_0 rfl (lv_at hl 0 rfl) ?_
  refine va_get (D := D) (ci := 1) (v := .ref d) (C := RCh) (T := TCh) (N := 7) hx hb ht inCh hown hE.1 hP 0 rfl rfl 1 (by decide) (ht _ tw_61) (fun _ h => h) rfl dCh_takeData_1 ?_
  refine lv_iconst (v := nI 0) hx hb dCh_takeData_4 (by decide) ?_
  refine kI (rV fx (c_Rw_at l D ca d da 2 r 0 (by decide) (by first | assumption | exact rAdd_le (by assumption) | omega) (by first | assumption | exact rAdd_le (by assumption) | omega)) ⟨callB_of 1 hts (tb_gi tw_286) rfl rfl rfl (ht _ tw_2) (ht _ tw_543) (by decide +kernel) ⟨(Nat.le_of_ble_eq_true rfl), (Nat.le_of_ble_eq_true rfl)⟩, ht _ tw_284, ht _ tw_285⟩ hE hP hD 1 rfl rfl rfl [1, 2] rfl rfl rfl hl.1 rfl (Nat.le_of_ble_eq_true rfl) dCh_takeData_5 ⟨(Nat.le_of_ble_eq_true rfl), (Nat.le_of_ble_eq_true rfl)⟩) hP hD hS hA [1, 2] [0] rfl rfl rfl (by decide) (fun _ H locs _ hP hD hS => ?_)
  have hP : va_P D cls_ [(q, .inr (1, [.int (nI y), .ref d, .int (nI st), .int (nI nx), .int (nI pa), .int (nI du), .int (nI ta)])), (d, .inr (0, [.ref da, .int (nI r.2)])), (da, .inl (ca 0, 2, .inl (fun j => nI (r.1 j))))] H := hP
  have hD : va_D A [(q, .inr (1, [.int (nI y), .ref d, .int (nI st), .int (nI nx), .int (nI pa), .int (nI du), .int (nI ta)])), (d, .inr (0, [.ref da, .int (nI r.2)])), (da, .inl (ca 0, 2, .inl (fun j => nI (r.1 j))))] := hD
  refine lv_istore_n hx hb dCh_takeData_8 rfl hl (by decide) rfl (fun ls hl => ?_)
  have hl : lv_has ls 2 [(1, .int (nI (r.1 0))), (0, .ref q)] := hl
  refine lv_aload_n hx hb dCh_takeData_9 rfl (lv_at hl 1 rfl) ?_
  refine va_get (D := D) (ci := 1) (v := .ref d) (C := RCh) (T := TCh) (N := 7) hx hb ht inCh hown hE.1 hP 0 rfl rfl 1 (by decide) (ht _ tw_61) (fun _ h => h) rfl dCh_takeData_10 ?_
  refine lv_iconst (v := nI 1) hx hb dCh_takeData_13 (by decide) ?_
  refine kV (rV fx (c_Rw_drop l D ca d da 2 r 1 (by decide) (by first | assumption | exact rAdd_le (by assumption) | omega) (by first | assumption | exact rAdd_le (by assumption) | omega)) ⟨callB_of 1 hts (tb_gi tw_324) rfl rfl rfl (ht _ tw_2) (ht _ tw_544) (by decide +kernel) ⟨(Nat.le_of_ble_eq_true rfl), (Nat.le_of_ble_eq_true rfl)⟩, ht _ tw_322, ht _ tw_323⟩ hE hP hD 1 rfl rfl rfl [1, 2] rfl rfl rfl hl.1 rfl (Nat.le_of_ble_eq_true rfl) dCh_takeData_14 ⟨(Nat.le_of_ble_eq_true rfl), (Nat.le_of_ble_eq_true rfl)⟩) hP hD hS hA [1, 2] [0] rfl rfl rfl (by decide) (fun _ H locs _ hP hD hS => ?_)
  have hP : va_P D cls_ [(q, .inr (1, [.int (nI y), .ref d, .int (nI st), .int (nI nx), .int (nI pa), .int (nI du), .int (nI ta)])), (d, .inr (0, [.ref da, .int (nI ((rDrop r 1).2))])), (da, .inl (ca 0, 2, .inl (fun j => nI (((rDrop r 1).1) j))))] H := hP
  have hD : va_D A [(q, .inr (1, [.int (nI y), .ref d, .int (nI st), .int (nI nx), .int (nI pa), .int (nI du), .int (nI ta)])), (d, .inr (0, [.ref da, .int (nI ((rDrop r 1).2))])), (da, .inl (ca 0, 2, .inl (fun j => nI (((rDrop r 1).1) j))))] := hD
  refine lv_aload_n hx hb dCh_takeData_17 rfl (lv_at hl 1 rfl) ?_
  refine lv_aload_n hx hb dCh_takeData_18 rfl (lv_at hl 1 rfl) ?_
  refine va_get (D := D) (ci := 1) (v := .int (nI ta)) (C := RCh) (T := TCh) (N := 7) hx hb ht inCh hown hE.1 hP 0 rfl rfl 6 (by decide) (ht _ tw_71) (fun _ h => h) rfl dCh_takeData_19 ?_
  refine kI (rSN fx (c_Cl_after l D ca ta (by omega)) ⟨va_cnB 1 hts (tb_gi tw_289) rfl rfl rfl (hE.nest tw_418 rfl) (ht _ tw_1) (by decide +kernel) ⟨(Nat.le_of_ble_eq_true rfl), (Nat.le_of_ble_eq_true rfl)⟩, ht _ tw_288, trivial⟩ hE hP hD [] rfl rfl rfl hl.1 rfl (Nat.le_of_ble_eq_true rfl) dCh_takeData_22 ⟨(Nat.le_of_ble_eq_true rfl), (Nat.le_of_ble_eq_true rfl)⟩) hP hD hS hA [] [0, 1, 2] rfl rfl rfl (by decide) (fun _ H locs _ hP hD hS => ?_)
  have hP : va_P D cls_ [(q, .inr (1, [.int (nI y), .ref d, .int (nI st), .int (nI nx), .int (nI pa), .int (nI du), .int (nI ta)])), (d, .inr (0, [.ref da, .int (nI ((rDrop r 1).2))])), (da, .inl (ca 0, 2, .inl (fun j => nI (((rDrop r 1).1) j))))] H := hP
  have hD : va_D A [(q, .inr (1, [.int (nI y), .ref d, .int (nI st), .int (nI nx), .int (nI pa), .int (nI du), .int (nI ta)])), (d, .inr (0, [.ref da, .int (nI ((rDrop r 1).2))])), (da, .inl (ca 0, 2, .inl (fun j => nI (((rDrop r 1).1) j))))] := hD
  refine va_put (D := D) (ci := 1) (v := .int (nI (af ta))) (ty := .int) (C := RCh) (T := TCh) (N := 7) hx hb ht inCh tyCh tyCh_ok nmCh hown hE.1 hP hD hS 0 rfl rfl 6 (by decide) (ht _ tw_71) (fun _ h => h) rfl (by decide +kernel) rfl rfl (Nat.le_of_ble_eq_true rfl) dCh_takeData_25 (fun H locs hP hD hS => ?_)
  have hP : va_P D cls_ [(q, .inr (1, [.int (nI y), .ref d, .int (nI st), .int (nI nx), .int (nI pa), .int (nI du), .int (nI (af ta))])), (d, .inr (0, [.ref da, .int (nI ((rDrop r 1).2))])), (da, .inl (ca 0, 2, .inl (fun j => nI (((rDrop r 1).1) j))))] H := hP
  have hD : va_D A [(q, .inr (1, [.int (nI y), .ref d, .int (nI st), .int (nI nx), .int (nI pa), .int (nI du), .int (nI (af ta))])), (d, .inr (0, [.ref da, .int (nI ((rDrop r 1).2))])), (da, .inl (ca 0, 2, .inl (fun j => nI (((rDrop r 1).1) j))))] := hD
  refine lv_iload_n hx hb dCh_takeData_28 rfl (lv_at hl 0 rfl) ?_
  exact Co.reti hx hb hret hlk dCh_takeData_29 hS hP hD () rfl trivial rfl (Nat.le_of_ble_eq_true rfl) (Nat.le_of_ble_eq_true rfl)
set_option maxHeartbeats 4000000 in
set_option maxRecDepth 100000 in
theorem c_Ch_renewFrom (l : Launch) (D : va_G) (ca : Nat → ClassId) (q d da y st nx pa du ta : Nat) (r : Rw_) (os ns : Nat) (h1 : os < 8) (hst : st < 6) (hnx : nx < 8) (hpa : pa < 8) (hdu : du < 8) (hta : ta < 8) (hr : r.2 ≤ 2) (rk st' nx' pa' du' ta' : Nat) (r' : Rw_) (hres : (if st = os then (0, cNew ns r) else (0, st, nx, pa, du, ta, r)) = ((rk, st', nx', pa', du', ta', r') : Nat × Cn_)) : Co (S := Unit) l yCh_renewFrom (Cond.code yCh_renewFrom cCh_renewFrom 3 (some FieldType.int) :: tb_) { frames := 1, cells := 0, slots := 0, locals := 32 } D ca [.ref q, .int (nI os), .int (nI ns)] [(q, .inr (1, [.int (nI y), .ref d, .int (nI st), .int (nI nx), .int (nI pa), .int (nI du), .int (nI ta)])), (d, .inr (0, [.ref da, .int (nI r.2)])), (da, .inl (ca 0, 2, .inl (fun j => nI (r.1 j))))] (fun _ => some (.int (nI rk))) (fun _ => True) (fun _ => [(q, .inr (1, [.int (nI y), .ref d, .int (nI st'), .int (nI nx'), .int (nI pa'), .int (nI du'), .int (nI ta')])), (d, .inr (0, [.ref da, .int (nI r'.2)])), (da, .inl (ca 0, 2, .inl (fun j => nI (r'.1 j))))]) 0 0 := by
  refine Co.of cCh_renewFrom 3 (some FieldType.int) (by decide) (Nat.le_of_ble_eq_true rfl) ?_
  intro p e s m args below meth c A ls fx hret hlk hin hE hP hD hS hA hl
  have hx := fx.1
  have hb := fx.2.1
  have hown : s.vm.findClass RCh = some m.cls := fx.2.2.2.1
  have hts := fx.2.2.2.2
  have ht : ∀ w ∈ tb_, w.before args s = true := fun w h => hts w (List.mem_cons_of_mem _ h)
  have hl : lv_has ls 3 [(0, .ref q), (1, .int (nI os)), (2, .int (nI ns))] := hl
  refine lv_aload_n hx hb dCh_renewFrom_0 rfl (lv_at hl 0 rfl) ?_
  refine va_get (D := D) (ci := 1) (v := .int (nI st)) (C := RCh) (T := TCh) (N := 7) hx hb ht inCh hown hE.1 hP 0 rfl rfl 2 (by decide) (ht _ tw_63) (fun _ h => h) rfl dCh_renewFrom_1 ?_
  refine lv_iload_n hx hb dCh_renewFrom_4 rfl (lv_at hl 1 rfl) ?_
  refine k_icmp_ne (tgt := 13) hx hb (by omega) (by omega) dCh_renewFrom_5 rfl (fun h5 => ?_) (fun h5 => ?_)
  · refine lv_iconst (v := nI 0) hx hb dCh_renewFrom_13 (by decide) ?_
    rw [if_neg (by omega)] at hres
    simp only [cNew, Prod.mk.injEq] at hres
    obtain ⟨rfl, rfl, rfl, rfl, rfl, rfl, rfl⟩ := hres
    exact Co.reti hx hb hret hlk dCh_renewFrom_14 hS hP hD () rfl trivial rfl (Nat.le_of_ble_eq_true rfl) (Nat.le_of_ble_eq_true rfl)
  · refine lv_aload_n hx hb dCh_renewFrom_8 rfl (lv_at hl 0 rfl) ?_
    refine lv_iload_n hx hb dCh_renewFrom_9 rfl (lv_at hl 2 rfl) ?_
    refine kV (rV fx (c_Ch_renewAs l D ca q d da y st nx pa du ta r ns) ⟨callB_of 1 hts (tb_gi tw_223) rfl rfl rfl (ht _ tw_4) (ht _ tw_394) (by decide +kernel) ⟨(Nat.le_of_ble_eq_true rfl), (Nat.le_of_ble_eq_true rfl)⟩, ht _ tw_221, ht _ tw_222⟩ hE hP hD 0 rfl rfl rfl [0, 1, 2] rfl rfl rfl hl.1 rfl (Nat.le_of_ble_eq_true rfl) dCh_renewFrom_10 ⟨(Nat.le_of_ble_eq_true rfl), (Nat.le_of_ble_eq_true rfl)⟩) hP hD hS hA [0, 1, 2] [] rfl rfl rfl (by decide) (fun _ H locs _ hP hD hS => ?_)
    have hP : va_P D cls_ [(q, .inr (1, [.int (nI y), .ref d, .int (nI ns), .int (nI 0), .int (nI 0), .int (nI 0), .int (nI 0)])), (d, .inr (0, [.ref da, .int (nI ((rNone r).2))])), (da, .inl (ca 0, 2, .inl (fun j => nI (((rNone r).1) j))))] H := hP
    have hD : va_D A [(q, .inr (1, [.int (nI y), .ref d, .int (nI ns), .int (nI 0), .int (nI 0), .int (nI 0), .int (nI 0)])), (d, .inr (0, [.ref da, .int (nI ((rNone r).2))])), (da, .inl (ca 0, 2, .inl (fun j => nI (((rNone r).1) j))))] := hD
    refine lv_iconst (v := nI 0) hx hb dCh_renewFrom_13 (by decide) ?_
    rw [if_pos (by omega)] at hres
    simp only [cNew, Prod.mk.injEq] at hres
    obtain ⟨rfl, rfl, rfl, rfl, rfl, rfl, rfl⟩ := hres
    exact Co.reti hx hb hret hlk dCh_renewFrom_14 hS hP hD () rfl trivial rfl (Nat.le_of_ble_eq_true rfl) (Nat.le_of_ble_eq_true rfl)
set_option maxHeartbeats 4000000 in
set_option maxRecDepth 100000 in
theorem c_Ch_answerToCall (l : Launch) (D : va_G) (ca : Nat → ClassId) (q d da y st nx pa du ta : Nat) (r : Rw_) (hst : st < 6) (hnx : nx < 8) (hpa : pa < 8) (hdu : du < 8) (hta : ta < 8) (hr : r.2 ≤ 2) (hy : y < 2) (rk st' nx' pa' du' ta' : Nat) (r' : Rw_) (hres : (if st = 0 ∨ (st = 1 ∧ y ≠ 0) then (0, cNew 2 r) else (0, st, nx, pa, du, ta, r)) = ((rk, st', nx', pa', du', ta', r') : Nat × Cn_)) : Co (S := Unit) l yCh_answerToCall (Cond.code yCh_answerToCall cCh_answerToCall 1 (some FieldType.int) :: tb_) { frames := 1, cells := 0, slots := 0, locals := 32 } D ca [.ref q] [(q, .inr (1, [.int (nI y), .ref d, .int (nI st), .int (nI nx), .int (nI pa), .int (nI du), .int (nI ta)])), (d, .inr (0, [.ref da, .int (nI r.2)])), (da, .inl (ca 0, 2, .inl (fun j => nI (r.1 j))))] (fun _ => some (.int (nI rk))) (fun _ => True) (fun _ => [(q, .inr (1, [.int (nI y), .ref d, .int (nI st'), .int (nI nx'), .int (nI pa'), .int (nI du'), .int (nI ta')])), (d, .inr (0, [.ref da, .int (nI r'.2)])), (da, .inl (ca 0, 2, .inl (fun j => nI (r'.1 j))))]) 0 0 := by
  refine Co.of cCh_answerToCall 1 (some FieldType.int) (by decide) (Nat.le_of_ble_eq_true rfl) ?_
  intro p e s m args below meth c A ls fx hret hlk hin hE hP hD hS hA hl
  have hx := fx.1
  have hb := fx.2.1
  have hown : s.vm.findClass RCh = some m.cls := fx.2.2.2.1
  have hts := fx.2.2.2.2
  have ht : ∀ w ∈ tb_, w.before args s = true := fun w h => hts w (List.mem_cons_of_mem _ h)
  have hl : lv_has ls 1 [(0, .ref q)] := hl
  refine lv_aload_n hx hb dCh_answerToCall_0 rfl (lv_at hl 0 rfl) ?_
  refine va_get (D := D) (ci := 1) (v := .int (nI st)) (C := RCh) (T := TCh) (N := 7) hx hb ht inCh hown hE.1 hP 0 rfl rfl 2 (by decide) (ht _ tw_63) (fun _ h => h) rfl dCh_answerToCall_1 ?_
  refine k_if_eq (tgt := 22) hx hb (by omega) dCh_answerToCall_4 rfl (fun h4 => ?_) (fun h4 => ?_)
  · refine lv_aload_n hx hb dCh_answerToCall_22 rfl (lv_at hl 0 rfl) ?_
    refine lv_iconst (v := nI 2) hx hb dCh_answerToCall_23 (by decide) ?_
    refine kV (rV fx (c_Ch_renewAs l D ca q d da y st nx pa du ta r 2) ⟨callB_of 1 hts (tb_gi tw_223) rfl rfl rfl (ht _ tw_4) (ht _ tw_394) (by decide +kernel) ⟨(Nat.le_of_ble_eq_true rfl), (Nat.le_of_ble_eq_true rfl)⟩, ht _ tw_221, ht _ tw_222⟩ hE hP hD 0 rfl rfl rfl [0, 1, 2] rfl rfl rfl hl.1 rfl (Nat.le_of_ble_eq_true rfl) dCh_answerToCall_24 ⟨(Nat.le_of_ble_eq_true rfl), (Nat.le_of_ble_eq_true rfl)⟩) hP hD hS hA [0, 1, 2] [] rfl rfl rfl (by decide) (fun _ H locs _ hP hD hS => ?_)
    have hP : va_P D cls_ [(q, .inr (1, [.int (nI y), .ref d, .int (nI 2), .int (nI 0), .int (nI 0), .int (nI 0), .int (nI 0)])), (d, .inr (0, [.ref da, .int (nI ((rNone r).2))])), (da, .inl (ca 0, 2, .inl (fun j => nI (((rNone r).1) j))))] H := hP
    have hD : va_D A [(q, .inr (1, [.int (nI y), .ref d, .int (nI 2), .int (nI 0), .int (nI 0), .int (nI 0), .int (nI 0)])), (d, .inr (0, [.ref da, .int (nI ((rNone r).2))])), (da, .inl (ca 0, 2, .inl (fun j => nI (((rNone r).1) j))))] := hD
    refine lv_iconst (v := nI 0) hx hb dCh_answerToCall_27 (by decide) ?_
    rw [if_pos (by omega)] at hres
    simp only [cNew, Prod.mk.injEq] at hres
    obtain ⟨rfl, rfl, rfl, rfl, rfl, rfl, rfl⟩ := hres
    exact Co.reti hx hb hret hlk dCh_answerToCall_28 hS hP hD () rfl trivial rfl (Nat.le_of_ble_eq_true rfl) (Nat.le_of_ble_eq_true rfl)
  · refine lv_aload_n hx hb dCh_answerToCall_7 rfl (lv_at hl 0 rfl) ?_
    refine va_get (D := D) (ci := 1) (v := .int (nI st)) (C := RCh) (T := TCh) (N := 7) hx hb ht inCh hown hE.1 hP 0 rfl rfl 2 (by decide) (ht _ tw_63) (fun _ h => h) rfl dCh_answerToCall_8 ?_
    refine lv_iconst (v := nI 1) hx hb dCh_answerToCall_11 (by decide) ?_
    refine k_icmp_ne (tgt := 27) hx hb (by omega) (by omega) dCh_answerToCall_12 rfl (fun h12 => ?_) (fun h12 => ?_)
    · refine lv_iconst (v := nI 0) hx hb dCh_answerToCall_27 (by decide) ?_
      rw [if_neg (by omega)] at hres
      simp only [cNew, Prod.mk.injEq] at hres
      obtain ⟨rfl, rfl, rfl, rfl, rfl, rfl, rfl⟩ := hres
      exact Co.reti hx hb hret hlk dCh_answerToCall_28 hS hP hD () rfl trivial rfl (Nat.le_of_ble_eq_true rfl) (Nat.le_of_ble_eq_true rfl)
    · refine lv_aload_n hx hb dCh_answerToCall_15 rfl (lv_at hl 0 rfl) ?_
      refine va_get (D := D) (ci := 1) (v := .int (nI y)) (C := RCh) (T := TCh) (N := 7) hx hb ht inCh hown hE.1 hP 0 rfl rfl 0 (by decide) (ht _ tw_60) (fun _ h => h) rfl dCh_answerToCall_16 ?_
      refine k_if_eq (tgt := 27) hx hb (by omega) dCh_answerToCall_19 rfl (fun h19 => ?_) (fun h19 => ?_)
      · refine lv_iconst (v := nI 0) hx hb dCh_answerToCall_27 (by decide) ?_
        rw [if_neg (by omega)] at hres
        simp only [cNew, Prod.mk.injEq] at hres
        obtain ⟨rfl, rfl, rfl, rfl, rfl, rfl, rfl⟩ := hres
        exact Co.reti hx hb hret hlk dCh_answerToCall_28 hS hP hD () rfl trivial rfl (Nat.le_of_ble_eq_true rfl) (Nat.le_of_ble_eq_true rfl)
      · refine lv_aload_n hx hb dCh_answerToCall_22 rfl (lv_at hl 0 rfl) ?_
        refine lv_iconst (v := nI 2) hx hb dCh_answerToCall_23 (by decide) ?_
        refine kV (rV fx (c_Ch_renewAs l D ca q d da y st nx pa du ta r 2) ⟨callB_of 1 hts (tb_gi tw_223) rfl rfl rfl (ht _ tw_4) (ht _ tw_394) (by decide +kernel) ⟨(Nat.le_of_ble_eq_true rfl), (Nat.le_of_ble_eq_true rfl)⟩, ht _ tw_221, ht _ tw_222⟩ hE hP hD 0 rfl rfl rfl [0, 1, 2] rfl rfl rfl hl.1 rfl (Nat.le_of_ble_eq_true rfl) dCh_answerToCall_24 ⟨(Nat.le_of_ble_eq_true rfl), (Nat.le_of_ble_eq_true rfl)⟩) hP hD hS hA [0, 1, 2] [] rfl rfl rfl (by decide) (fun _ H locs _ hP hD hS => ?_)
        have hP : va_P D cls_ [(q, .inr (1, [.int (nI y), .ref d, .int (nI 2), .int (nI 0), .int (nI 0), .int (nI 0), .int (nI 0)])), (d, .inr (0, [.ref da, .int (nI ((rNone r).2))])), (da, .inl (ca 0, 2, .inl (fun j => nI (((rNone r).1) j))))] H := hP
        have hD : va_D A [(q, .inr (1, [.int (nI y), .ref d, .int (nI 2), .int (nI 0), .int (nI 0), .int (nI 0), .int (nI 0)])), (d, .inr (0, [.ref da, .int (nI ((rNone r).2))])), (da, .inl (ca 0, 2, .inl (fun j => nI (((rNone r).1) j))))] := hD
        refine lv_iconst (v := nI 0) hx hb dCh_answerToCall_27 (by decide) ?_
        rw [if_pos (by omega)] at hres
        simp only [cNew, Prod.mk.injEq] at hres
        obtain ⟨rfl, rfl, rfl, rfl, rfl, rfl, rfl⟩ := hres
        exact Co.reti hx hb hret hlk dCh_answerToCall_28 hS hP hD () rfl trivial rfl (Nat.le_of_ble_eq_true rfl) (Nat.le_of_ble_eq_true rfl)
set_option maxHeartbeats 4000000 in
set_option maxRecDepth 100000 in
theorem c_Ch_answerToClear (l : Launch) (D : va_G) (ca : Nat → ClassId) (q d da y st nx pa du ta : Nat) (r : Rw_) (hst : st < 6) (hnx : nx < 8) (hpa : pa < 8) (hdu : du < 8) (hta : ta < 8) (hr : r.2 ≤ 2) (rk st' nx' pa' du' ta' : Nat) (r' : Rw_) (hres : (if st ≠ 0 ∧ st ≠ 4 then (4, cNew 0 r) else (0, cNew 0 r)) = ((rk, st', nx', pa', du', ta', r') : Nat × Cn_)) : Co (S := Unit) l yCh_answerToClear (Cond.code yCh_answerToClear cCh_answerToClear 2 (some FieldType.int) :: tb_) { frames := 1, cells := 0, slots := 0, locals := 32 } D ca [.ref q] [(q, .inr (1, [.int (nI y), .ref d, .int (nI st), .int (nI nx), .int (nI pa), .int (nI du), .int (nI ta)])), (d, .inr (0, [.ref da, .int (nI r.2)])), (da, .inl (ca 0, 2, .inl (fun j => nI (r.1 j))))] (fun _ => some (.int (nI rk))) (fun _ => True) (fun _ => [(q, .inr (1, [.int (nI y), .ref d, .int (nI st'), .int (nI nx'), .int (nI pa'), .int (nI du'), .int (nI ta')])), (d, .inr (0, [.ref da, .int (nI r'.2)])), (da, .inl (ca 0, 2, .inl (fun j => nI (r'.1 j))))]) 0 0 := by
  refine Co.of cCh_answerToClear 2 (some FieldType.int) (by decide) (Nat.le_of_ble_eq_true rfl) ?_
  intro p e s m args below meth c A ls fx hret hlk hin hE hP hD hS hA hl
  have hx := fx.1
  have hb := fx.2.1
  have hown : s.vm.findClass RCh = some m.cls := fx.2.2.2.1
  have hts := fx.2.2.2.2
  have ht : ∀ w ∈ tb_, w.before args s = true := fun w h => hts w (List.mem_cons_of_mem _ h)
  have hl : lv_has ls 2 [(0, .ref q)] := hl
  refine lv_aload_n hx hb dCh_answerToClear_0 rfl (lv_at hl 0 rfl) ?_
  refine va_get (D := D) (ci := 1) (v := .int (nI st)) (C := RCh) (T := TCh) (N := 7) hx hb ht inCh hown hE.1 hP 0 rfl rfl 2 (by decide) (ht _ tw_63) (fun _ h => h) rfl dCh_answerToClear_1 ?_
  refine k_if_eq (tgt := 19) hx hb (by omega) dCh_answerToClear_4 rfl (fun h4 => ?_) (fun h4 => ?_)
  · refine lv_iconst (v := nI 0) hx hb dCh_answerToClear_19 (by decide) ?_
    refine lv_istore_n hx hb dCh_answerToClear_20 rfl hl (by decide) rfl (fun ls hl => ?_)
    have hl : lv_has ls 2 [(1, .int (nI 0)), (0, .ref q)] := hl
    refine lv_aload_n hx hb dCh_answerToClear_21 rfl (lv_at hl 1 rfl) ?_
    refine lv_iconst (v := nI 0) hx hb dCh_answerToClear_22 (by decide) ?_
    refine kV (rV fx (c_Ch_renewAs l D ca q d da y st nx pa du ta r 0) ⟨callB_of 1 hts (tb_gi tw_223) rfl rfl rfl (ht _ tw_4) (ht _ tw_394) (by decide +kernel) ⟨(Nat.le_of_ble_eq_true rfl), (Nat.le_of_ble_eq_true rfl)⟩, ht _ tw_221, ht _ tw_222⟩ hE hP hD 0 rfl rfl rfl [0, 1, 2] rfl rfl rfl hl.1 rfl (Nat.le_of_ble_eq_true rfl) dCh_answerToClear_23 ⟨(Nat.le_of_ble_eq_true rfl), (Nat.le_of_ble_eq_true rfl)⟩) hP hD hS hA [0, 1, 2] [] rfl rfl rfl (by decide) (fun _ H locs _ hP hD hS => ?_)
    have hP : va_P D cls_ [(q, .inr (1, [.int (nI y), .ref d, .int (nI 0), .int (nI 0), .int (nI 0), .int (nI 0), .int (nI 0)])), (d, .inr (0, [.ref da, .int (nI ((rNone r).2))])), (da, .inl (ca 0, 2, .inl (fun j => nI (((rNone r).1) j))))] H := hP
    have hD : va_D A [(q, .inr (1, [.int (nI y), .ref d, .int (nI 0), .int (nI 0), .int (nI 0), .int (nI 0), .int (nI 0)])), (d, .inr (0, [.ref da, .int (nI ((rNone r).2))])), (da, .inl (ca 0, 2, .inl (fun j => nI (((rNone r).1) j))))] := hD
    refine lv_iload_n hx hb dCh_answerToClear_26 rfl (lv_at hl 0 rfl) ?_
    refine k_if_eq (tgt := 34) hx hb (by omega) dCh_answerToClear_27 rfl (fun h27 => ?_) (fun hz => absurd hz (by omega))
    refine lv_iconst (v := nI 0) hx hb dCh_answerToClear_34 (by decide) ?_
    rw [if_neg (by omega)] at hres
    simp only [cNew, Prod.mk.injEq] at hres
    obtain ⟨rfl, rfl, rfl, rfl, rfl, rfl, rfl⟩ := hres
    exact Co.reti hx hb hret hlk dCh_answerToClear_35 hS hP hD () rfl trivial rfl (Nat.le_of_ble_eq_true rfl) (Nat.le_of_ble_eq_true rfl)
  · refine lv_aload_n hx hb dCh_answerToClear_7 rfl (lv_at hl 0 rfl) ?_
    refine va_get (D := D) (ci := 1) (v := .int (nI st)) (C := RCh) (T := TCh) (N := 7) hx hb ht inCh hown hE.1 hP 0 rfl rfl 2 (by decide) (ht _ tw_63) (fun _ h => h) rfl dCh_answerToClear_8 ?_
    refine lv_iconst (v := nI 4) hx hb dCh_answerToClear_11 (by decide) ?_
    refine k_icmp_eq (tgt := 19) hx hb (by omega) (by omega) dCh_answerToClear_12 rfl (fun h12 => ?_) (fun h12 => ?_)
    · refine lv_iconst (v := nI 0) hx hb dCh_answerToClear_19 (by decide) ?_
      refine lv_istore_n hx hb dCh_answerToClear_20 rfl hl (by decide) rfl (fun ls hl => ?_)
      have hl : lv_has ls 2 [(1, .int (nI 0)), (0, .ref q)] := hl
      refine lv_aload_n hx hb dCh_answerToClear_21 rfl (lv_at hl 1 rfl) ?_
      refine lv_iconst (v := nI 0) hx hb dCh_answerToClear_22 (by decide) ?_
      refine kV (rV fx (c_Ch_renewAs l D ca q d da y st nx pa du ta r 0) ⟨callB_of 1 hts (tb_gi tw_223) rfl rfl rfl (ht _ tw_4) (ht _ tw_394) (by decide +kernel) ⟨(Nat.le_of_ble_eq_true rfl), (Nat.le_of_ble_eq_true rfl)⟩, ht _ tw_221, ht _ tw_222⟩ hE hP hD 0 rfl rfl rfl [0, 1, 2] rfl rfl rfl hl.1 rfl (Nat.le_of_ble_eq_true rfl) dCh_answerToClear_23 ⟨(Nat.le_of_ble_eq_true rfl), (Nat.le_of_ble_eq_true rfl)⟩) hP hD hS hA [0, 1, 2] [] rfl rfl rfl (by decide) (fun _ H locs _ hP hD hS => ?_)
      have hP : va_P D cls_ [(q, .inr (1, [.int (nI y), .ref d, .int (nI 0), .int (nI 0), .int (nI 0), .int (nI 0), .int (nI 0)])), (d, .inr (0, [.ref da, .int (nI ((rNone r).2))])), (da, .inl (ca 0, 2, .inl (fun j => nI (((rNone r).1) j))))] H := hP
      have hD : va_D A [(q, .inr (1, [.int (nI y), .ref d, .int (nI 0), .int (nI 0), .int (nI 0), .int (nI 0), .int (nI 0)])), (d, .inr (0, [.ref da, .int (nI ((rNone r).2))])), (da, .inl (ca 0, 2, .inl (fun j => nI (((rNone r).1) j))))] := hD
      refine lv_iload_n hx hb dCh_answerToClear_26 rfl (lv_at hl 0 rfl) ?_
      refine k_if_eq (tgt := 34) hx hb (by omega) dCh_answerToClear_27 rfl (fun h27 => ?_) (fun hz => absurd hz (by omega))
      refine lv_iconst (v := nI 0) hx hb dCh_answerToClear_34 (by decide) ?_
      rw [if_neg (by omega)] at hres
      simp only [cNew, Prod.mk.injEq] at hres
      obtain ⟨rfl, rfl, rfl, rfl, rfl, rfl, rfl⟩ := hres
      exact Co.reti hx hb hret hlk dCh_answerToClear_35 hS hP hD () rfl trivial rfl (Nat.le_of_ble_eq_true rfl) (Nat.le_of_ble_eq_true rfl)
    · refine lv_iconst (v := nI 1) hx hb dCh_answerToClear_15 (by decide) ?_
      refine lv_goto (tgt := 20) hx hb dCh_answerToClear_16 rfl ?_
      refine lv_istore_n hx hb dCh_answerToClear_20 rfl hl (by decide) rfl (fun ls hl => ?_)
      have hl : lv_has ls 2 [(1, .int (nI 1)), (0, .ref q)] := hl
      refine lv_aload_n hx hb dCh_answerToClear_21 rfl (lv_at hl 1 rfl) ?_
      refine lv_iconst (v := nI 0) hx hb dCh_answerToClear_22 (by decide) ?_
      refine kV (rV fx (c_Ch_renewAs l D ca q d da y st nx pa du ta r 0) ⟨callB_of 1 hts (tb_gi tw_223) rfl rfl rfl (ht _ tw_4) (ht _ tw_394) (by decide +kernel) ⟨(Nat.le_of_ble_eq_true rfl), (Nat.le_of_ble_eq_true rfl)⟩, ht _ tw_221, ht _ tw_222⟩ hE hP hD 0 rfl rfl rfl [0, 1, 2] rfl rfl rfl hl.1 rfl (Nat.le_of_ble_eq_true rfl) dCh_answerToClear_23 ⟨(Nat.le_of_ble_eq_true rfl), (Nat.le_of_ble_eq_true rfl)⟩) hP hD hS hA [0, 1, 2] [] rfl rfl rfl (by decide) (fun _ H locs _ hP hD hS => ?_)
      have hP : va_P D cls_ [(q, .inr (1, [.int (nI y), .ref d, .int (nI 0), .int (nI 0), .int (nI 0), .int (nI 0), .int (nI 0)])), (d, .inr (0, [.ref da, .int (nI ((rNone r).2))])), (da, .inl (ca 0, 2, .inl (fun j => nI (((rNone r).1) j))))] H := hP
      have hD : va_D A [(q, .inr (1, [.int (nI y), .ref d, .int (nI 0), .int (nI 0), .int (nI 0), .int (nI 0), .int (nI 0)])), (d, .inr (0, [.ref da, .int (nI ((rNone r).2))])), (da, .inl (ca 0, 2, .inl (fun j => nI (((rNone r).1) j))))] := hD
      refine lv_iload_n hx hb dCh_answerToClear_26 rfl (lv_at hl 0 rfl) ?_
      refine k_if_eq (tgt := 34) hx hb (by omega) dCh_answerToClear_27 rfl (fun hz => absurd hz (by omega)) (fun h27 => ?_)
      refine lv_iconst (v := nI 4) hx hb dCh_answerToClear_30 (by decide) ?_
      refine lv_goto (tgt := 35) hx hb dCh_answerToClear_31 rfl ?_
      rw [if_pos (by omega)] at hres
      simp only [cNew, Prod.mk.injEq] at hres
      obtain ⟨rfl, rfl, rfl, rfl, rfl, rfl, rfl⟩ := hres
      exact Co.reti hx hb hret hlk dCh_answerToClear_35 hS hP hD () rfl trivial rfl (Nat.le_of_ble_eq_true rfl) (Nat.le_of_ble_eq_true rfl)
set_option maxHeartbeats 4000000 in
set_option maxRecDepth 100000 in
theorem c_Ch_answerToReset (l : Launch) (D : va_G) (ca : Nat → ClassId) (q d da y st nx pa du ta : Nat) (r : Rw_) (hst : st < 6) (hnx : nx < 8) (hpa : pa < 8) (hdu : du < 8) (hta : ta < 8) (hr : r.2 ≤ 2) (rk st' nx' pa' du' ta' : Nat) (r' : Rw_) (hres : (if st = 3 then (8, cNew 3 r) else if st = 5 then (0, cNew 3 r) else (0, st, nx, pa, du, ta, r)) = ((rk, st', nx', pa', du', ta', r') : Nat × Cn_)) : Co (S := Unit) l yCh_answerToReset (Cond.code yCh_answerToReset cCh_answerToReset 2 (some FieldType.int) :: tb_) { frames := 1, cells := 0, slots := 0, locals := 32 } D ca [.ref q] [(q, .inr (1, [.int (nI y), .ref d, .int (nI st), .int (nI nx), .int (nI pa), .int (nI du), .int (nI ta)])), (d, .inr (0, [.ref da, .int (nI r.2)])), (da, .inl (ca 0, 2, .inl (fun j => nI (r.1 j))))] (fun _ => some (.int (nI rk))) (fun _ => True) (fun _ => [(q, .inr (1, [.int (nI y), .ref d, .int (nI st'), .int (nI nx'), .int (nI pa'), .int (nI du'), .int (nI ta')])), (d, .inr (0, [.ref da, .int (nI r'.2)])), (da, .inl (ca 0, 2, .inl (fun j => nI (r'.1 j))))]) 0 0 := by
  refine Co.of cCh_answerToReset 2 (some FieldType.int) (by decide) (Nat.le_of_ble_eq_true rfl) ?_
  intro p e s m args below meth c A ls fx hret hlk hin hE hP hD hS hA hl
  have hx := fx.1
  have hb := fx.2.1
  have hown : s.vm.findClass RCh = some m.cls := fx.2.2.2.1
  have hts := fx.2.2.2.2
  have ht : ∀ w ∈ tb_, w.before args s = true := fun w h => hts w (List.mem_cons_of_mem _ h)
  have hl : lv_has ls 2 [(0, .ref q)] := hl
  refine lv_aload_n hx hb dCh_answerToReset_0 rfl (lv_at hl 0 rfl) ?_
  refine va_get (D := D) (ci := 1) (v := .int (nI st)) (C := RCh) (T := TCh) (N := 7) hx hb ht inCh hown hE.1 hP 0 rfl rfl 2 (by decide) (ht _ tw_63) (fun _ h => h) rfl dCh_answerToReset_1 ?_
  refine lv_iconst (v := nI 3) hx hb dCh_answerToReset_4 (by decide) ?_
  refine k_icmp_ne (tgt := 12) hx hb (by omega) (by omega) dCh_answerToReset_5 rfl (fun h5 => ?_) (fun h5 => ?_)
  · refine lv_iconst (v := nI 0) hx hb dCh_answerToReset_12 (by decide) ?_
    refine lv_istore_n hx hb dCh_answerToReset_13 rfl hl (by decide) rfl (fun ls hl => ?_)
    have hl : lv_has ls 2 [(1, .int (nI 0)), (0, .ref q)] := hl
    refine lv_iload_n hx hb dCh_answerToReset_14 rfl (lv_at hl 0 rfl) ?_
    refine k_if_ne (tgt := 26) hx hb (by omega) dCh_answerToReset_15 rfl (fun hz => absurd hz (by omega)) (fun h15 => ?_)
    refine lv_aload_n hx hb dCh_answerToReset_18 rfl (lv_at hl 1 rfl) ?_
    refine va_get (D := D) (ci := 1) (v := .int (nI st)) (C := RCh) (T := TCh) (N := 7) hx hb ht inCh hown hE.1 hP 0 rfl rfl 2 (by decide) (ht _ tw_63) (fun _ h => h) rfl dCh_answerToReset_19 ?_
    refine lv_iconst (v := nI 5) hx hb dCh_answerToReset_22 (by decide) ?_
    refine k_icmp_ne (tgt := 31) hx hb (by omega) (by omega) dCh_answerToReset_23 rfl (fun h23 => ?_) (fun h23 => ?_)
    · refine lv_iload_n hx hb dCh_answerToReset_31 rfl (lv_at hl 0 rfl) ?_
      refine k_if_eq (tgt := 40) hx hb (by omega) dCh_answerToReset_32 rfl (fun h32 => ?_) (fun hz => absurd hz (by omega))
      refine lv_iconst (v := nI 0) hx hb dCh_answerToReset_40 (by decide) ?_
      rw [if_neg (by omega), if_neg (by omega)] at hres
      simp only [cNew, Prod.mk.injEq] at hres
      obtain ⟨rfl, rfl, rfl, rfl, rfl, rfl, rfl⟩ := hres
      exact Co.reti hx hb hret hlk dCh_answerToReset_41 hS hP hD () rfl trivial rfl (Nat.le_of_ble_eq_true rfl) (Nat.le_of_ble_eq_true rfl)
    · refine lv_aload_n hx hb dCh_answerToReset_26 rfl (lv_at hl 1 rfl) ?_
      refine lv_iconst (v := nI 3) hx hb dCh_answerToReset_27 (by decide) ?_
      refine kV (rV fx (c_Ch_renewAs l D ca q d da y st nx pa du ta r 3) ⟨callB_of 1 hts (tb_gi tw_223) rfl rfl rfl (ht _ tw_4) (ht _ tw_394) (by decide +kernel) ⟨(Nat.le_of_ble_eq_true rfl), (Nat.le_of_ble_eq_true rfl)⟩, ht _ tw_221, ht _ tw_222⟩ hE hP hD 0 rfl rfl rfl [0, 1, 2] rfl rfl rfl hl.1 rfl (Nat.le_of_ble_eq_true rfl) dCh_answerToReset_28 ⟨(Nat.le_of_ble_eq_true rfl), (Nat.le_of_ble_eq_true rfl)⟩) hP hD hS hA [0, 1, 2] [] rfl rfl rfl (by decide) (fun _ H locs _ hP hD hS => ?_)
      have hP : va_P D cls_ [(q, .inr (1, [.int (nI y), .ref d, .int (nI 3), .int (nI 0), .int (nI 0), .int (nI 0), .int (nI 0)])), (d, .inr (0, [.ref da, .int (nI ((rNone r).2))])), (da, .inl (ca 0, 2, .inl (fun j => nI (((rNone r).1) j))))] H := hP
      have hD : va_D A [(q, .inr (1, [.int (nI y), .ref d, .int (nI 3), .int (nI 0), .int (nI 0), .int (nI 0), .int (nI 0)])), (d, .inr (0, [.ref da, .int (nI ((rNone r).2))])), (da, .inl (ca 0, 2, .inl (fun j => nI (((rNone r).1) j))))] := hD
      refine lv_iload_n hx hb dCh_answerToReset_31 rfl (lv_at hl 0 rfl) ?_
      refine k_if_eq (tgt := 40) hx hb (by omega) dCh_answerToReset_32 rfl (fun h32 => ?_) (fun hz => absurd hz (by omega))
      refine lv_iconst (v := nI 0) hx hb dCh_answerToReset_40 (by decide) ?_
      rw [if_neg (by omega), if_pos (by omega)] at hres
      simp only [cNew, Prod.mk.injEq] at hres
      obtain ⟨rfl, rfl, rfl, rfl, rfl, rfl, rfl⟩ := hres
      exact Co.reti hx hb hret hlk dCh_answerToReset_41 hS hP hD () rfl trivial rfl (Nat.le_of_ble_eq_true rfl) (Nat.le_of_ble_eq_true rfl)
  · refine lv_iconst (v := nI 1) hx hb dCh_answerToReset_8 (by decide) ?_
    refine lv_goto (tgt := 13) hx hb dCh_answerToReset_9 rfl ?_
    refine lv_istore_n hx hb dCh_answerToReset_13 rfl hl (by decide) rfl (fun ls hl => ?_)
    have hl : lv_has ls 2 [(1, .int (nI 1)), (0, .ref q)] := hl
    refine lv_iload_n hx hb dCh_answerToReset_14 rfl (lv_at hl 0 rfl) ?_
    refine k_if_ne (tgt := 26) hx hb (by omega) dCh_answerToReset_15 rfl (fun h15 => ?_) (fun hz => absurd hz (by omega))
    refine lv_aload_n hx hb dCh_answerToReset_26 rfl (lv_at hl 1 rfl) ?_
    refine lv_iconst (v := nI 3) hx hb dCh_answerToReset_27 (by decide) ?_
    refine kV (rV fx (c_Ch_renewAs l D ca q d da y st nx pa du ta r 3) ⟨callB_of 1 hts (tb_gi tw_223) rfl rfl rfl (ht _ tw_4) (ht _ tw_394) (by decide +kernel) ⟨(Nat.le_of_ble_eq_true rfl), (Nat.le_of_ble_eq_true rfl)⟩, ht _ tw_221, ht _ tw_222⟩ hE hP hD 0 rfl rfl rfl [0, 1, 2] rfl rfl rfl hl.1 rfl (Nat.le_of_ble_eq_true rfl) dCh_answerToReset_28 ⟨(Nat.le_of_ble_eq_true rfl), (Nat.le_of_ble_eq_true rfl)⟩) hP hD hS hA [0, 1, 2] [] rfl rfl rfl (by decide) (fun _ H locs _ hP hD hS => ?_)
    have hP : va_P D cls_ [(q, .inr (1, [.int (nI y), .ref d, .int (nI 3), .int (nI 0), .int (nI 0), .int (nI 0), .int (nI 0)])), (d, .inr (0, [.ref da, .int (nI ((rNone r).2))])), (da, .inl (ca 0, 2, .inl (fun j => nI (((rNone r).1) j))))] H := hP
    have hD : va_D A [(q, .inr (1, [.int (nI y), .ref d, .int (nI 3), .int (nI 0), .int (nI 0), .int (nI 0), .int (nI 0)])), (d, .inr (0, [.ref da, .int (nI ((rNone r).2))])), (da, .inl (ca 0, 2, .inl (fun j => nI (((rNone r).1) j))))] := hD
    refine lv_iload_n hx hb dCh_answerToReset_31 rfl (lv_at hl 0 rfl) ?_
    refine k_if_eq (tgt := 40) hx hb (by omega) dCh_answerToReset_32 rfl (fun hz => absurd hz (by omega)) (fun h32 => ?_)
    refine lv_bipush (v := nI 8) hx hb dCh_answerToReset_35 (by decide) ?_
    refine lv_goto (tgt := 41) hx hb dCh_answerToReset_37 rfl ?_
    rw [if_pos (by omega)] at hres
    simp only [cNew, Prod.mk.injEq] at hres
    obtain ⟨rfl, rfl, rfl, rfl, rfl, rfl, rfl⟩ := hres
    exact Co.reti hx hb hret hlk dCh_answerToReset_41 hS hP hD () rfl trivial rfl (Nat.le_of_ble_eq_true rfl) (Nat.le_of_ble_eq_true rfl)
set_option maxHeartbeats 4000000 in
set_option maxRecDepth 100000 in
theorem c_Ch_answerToFlow (l : Launch) (D : va_G) (ca : Nat → ClassId) (q d da y st nx pa du ta : Nat) (r : Rw_) (pk : Nat) (hpk : pk < 2 ^ 31) (hst : st < 6) (hnx : nx < 8) (hpa : pa < 8) (hdu : du < 8) (hta : ta < 8) (hr : r.2 ≤ 2) (rk st' nx' pa' du' ta' : Nat) (r' : Rw_) (hres : cFlow st nx pa du ta r pk = (rk, st', nx', pa', du', ta', r')) : Co (S := Unit) l yCh_answerToFlow (Cond.code yCh_answerToFlow cCh_answerToFlow 5 (some FieldType.int) :: tb_) { frames := 1, cells := 0, slots := 0, locals := 32 } D ca [.ref q, .int (nI pk)] [(q, .inr (1, [.int (nI y), .ref d, .int (nI st), .int (nI nx), .int (nI pa), .int (nI du), .int (nI ta)])), (d, .inr (0, [.ref da, .int (nI r.2)])), (da, .inl (ca 0, 2, .inl (fun j => nI (r.1 j))))] (fun _ => some (.int (nI rk))) (fun _ => True) (fun _ => [(q, .inr (1, [.int (nI y), .ref d, .int (nI st'), .int (nI nx'), .int (nI pa'), .int (nI du'), .int (nI ta')])), (d, .inr (0, [.ref da, .int (nI r'.2)])), (da, .inl (ca 0, 2, .inl (fun j => nI (r'.1 j))))]) 0 0 := by
  refine Co.of cCh_answerToFlow 5 (some FieldType.int) (by decide) (Nat.le_of_ble_eq_true rfl) ?_
  intro p e s m args below meth c A ls fx hret hlk hin hE hP hD hS hA hl
  have hx := fx.1
  have hb := fx.2.1
  have hown : s.vm.findClass RCh = some m.cls := fx.2.2.2.1
  have hts := fx.2.2.2.2
  have ht : ∀ w ∈ tb_, w.before args s = true := fun w h => hts w (List.mem_cons_of_mem _ h)
  have b1 := ds_lt pa nx
  have b2 := ds_lt pa (pAckn pk)
  have b3 : pKind pk < 16 := Nat.mod_lt _ (by decide)
  have b4 : pAckn pk < 8 := Nat.mod_lt _ (by decide)
  have b5 : pNumb pk < 8 := Nat.mod_lt _ (by decide)
  have b6 : pData pk < 512 := Nat.mod_lt _ (by decide)
  have hl : lv_has ls 5 [(0, .ref q), (1, .int (nI pk))] := hl
  refine lv_aload_n hx hb dCh_answerToFlow_0 rfl (lv_at hl 0 rfl) ?_
  refine va_get (D := D) (ci := 1) (v := .int (nI st)) (C := RCh) (T := TCh) (N := 7) hx hb ht inCh hown hE.1 hP 0 rfl rfl 2 (by decide) (ht _ tw_63) (fun _ h => h) rfl dCh_answerToFlow_1 ?_
  refine lv_iconst (v := nI 3) hx hb dCh_answerToFlow_4 (by decide) ?_
  refine k_icmp_eq (tgt := 10) hx hb (by omega) (by omega) dCh_answerToFlow_5 rfl (fun h5 => ?_) (fun h5 => ?_)
  · refine lv_iload_n hx hb dCh_answerToFlow_10 rfl (lv_at hl 1 rfl) ?_
    refine kI (rSN fx (c_Pk_kindOf l D ca pk (by omega)) ⟨va_cnB 1 hts (tb_gi tw_389) rfl rfl rfl (hE.nest tw_387 rfl) (ht _ tw_14) (by decide +kernel) ⟨(Nat.le_of_ble_eq_true rfl), (Nat.le_of_ble_eq_true rfl)⟩, ht _ tw_388, trivial⟩ hE hP hD [] rfl rfl rfl hl.1 rfl (Nat.le_of_ble_eq_true rfl) dCh_answerToFlow_11 ⟨(Nat.le_of_ble_eq_true rfl), (Nat.le_of_ble_eq_true rfl)⟩) hP hD hS hA [] [0, 1, 2] rfl rfl rfl (by decide) (fun _ H locs _ hP hD hS => ?_)
    have hP : va_P D cls_ [(q, .inr (1, [.int (nI y), .ref d, .int (nI st), .int (nI nx), .int (nI pa), .int (nI du), .int (nI ta)])), (d, .inr (0, [.ref da, .int (nI r.2)])), (da, .inl (ca 0, 2, .inl (fun j => nI (r.1 j))))] H := hP
    have hD : va_D A [(q, .inr (1, [.int (nI y), .ref d, .int (nI st), .int (nI nx), .int (nI pa), .int (nI du), .int (nI ta)])), (d, .inr (0, [.ref da, .int (nI r.2)])), (da, .inl (ca 0, 2, .inl (fun j => nI (r.1 j))))] := hD
    refine lv_iconst (v := nI 5) hx hb dCh_answerToFlow_14 (by decide) ?_
    refine k_icmp_ne (tgt := 22) hx hb (by omega) (by omega) dCh_answerToFlow_15 rfl (fun h15 => ?_) (fun h15 => ?_)
    · refine lv_iconst (v := nI 0) hx hb dCh_answerToFlow_22 (by decide) ?_
      refine lv_istore_n hx hb dCh_answerToFlow_23 rfl hl (by decide) rfl (fun ls hl => ?_)
      have hl : lv_has ls 5 [(2, .int (nI 0)), (0, .ref q), (1, .int (nI pk))] := hl
      refine lv_iload_n hx hb dCh_answerToFlow_24 rfl (lv_at hl 2 rfl) ?_
      refine kI (rSN fx (c_Pk_acknowledgementOf l D ca pk (by omega)) ⟨va_cnB 1 hts (tb_gi tw_409) rfl rfl rfl (hE.nest tw_407 rfl) (ht _ tw_14) (by decide +kernel) ⟨(Nat.le_of_ble_eq_true rfl), (Nat.le_of_ble_eq_true rfl)⟩, ht _ tw_408, trivial⟩ hE hP hD [] rfl rfl rfl hl.1 rfl (Nat.le_of_ble_eq_true rfl) dCh_answerToFlow_25 ⟨(Nat.le_of_ble_eq_true rfl), (Nat.le_of_ble_eq_true rfl)⟩) hP hD hS hA [] [0, 1, 2] rfl rfl rfl (by decide) (fun _ H locs _ hP hD hS => ?_)
      have hP : va_P D cls_ [(q, .inr (1, [.int (nI y), .ref d, .int (nI st), .int (nI nx), .int (nI pa), .int (nI du), .int (nI ta)])), (d, .inr (0, [.ref da, .int (nI r.2)])), (da, .inl (ca 0, 2, .inl (fun j => nI (r.1 j))))] H := hP
      have hD : va_D A [(q, .inr (1, [.int (nI y), .ref d, .int (nI st), .int (nI nx), .int (nI pa), .int (nI du), .int (nI ta)])), (d, .inr (0, [.ref da, .int (nI r.2)])), (da, .inl (ca 0, 2, .inl (fun j => nI (r.1 j))))] := hD
      refine lv_istore_n hx hb dCh_answerToFlow_28 rfl hl (by decide) rfl (fun ls hl => ?_)
      have hl : lv_has ls 5 [(3, .int (nI (pAckn pk))), (2, .int (nI 0)), (0, .ref q), (1, .int (nI pk))] := hl
      refine lv_aload_n hx hb dCh_answerToFlow_29 rfl (lv_at hl 2 rfl) ?_
      refine va_get (D := D) (ci := 1) (v := .int (nI pa)) (C := RCh) (T := TCh) (N := 7) hx hb ht inCh hown hE.1 hP 0 rfl rfl 4 (by decide) (ht _ tw_67) (fun _ h => h) rfl dCh_answerToFlow_30 ?_
      refine lv_iload_n hx hb dCh_answerToFlow_33 rfl (lv_at hl 0 rfl) ?_
      refine kI (rSN fx (c_Cl_distance l D ca pa (pAckn pk) (by omega) (by omega)) ⟨va_cnB 2 hts (tb_gi tw_352) rfl rfl rfl (hE.nest tw_410 rfl) (ht _ tw_1) (by decide +kernel) ⟨(Nat.le_of_ble_eq_true rfl), (Nat.le_of_ble_eq_true rfl)⟩, ht _ tw_351, trivial⟩ hE hP hD [] rfl rfl rfl hl.1 rfl (Nat.le_of_ble_eq_true rfl) dCh_answerToFlow_34 ⟨(Nat.le_of_ble_eq_true rfl), (Nat.le_of_ble_eq_true rfl)⟩) hP hD hS hA [] [0, 1, 2] rfl rfl rfl (by decide) (fun _ H locs _ hP hD hS => ?_)
      have hP : va_P D cls_ [(q, .inr (1, [.int (nI y), .ref d, .int (nI st), .int (nI nx), .int (nI pa), .int (nI du), .int (nI ta)])), (d, .inr (0, [.ref da, .int (nI r.2)])), (da, .inl (ca 0, 2, .inl (fun j => nI (r.1 j))))] H := hP
      have hD : va_D A [(q, .inr (1, [.int (nI y), .ref d, .int (nI st), .int (nI nx), .int (nI pa), .int (nI du), .int (nI ta)])), (d, .inr (0, [.ref da, .int (nI r.2)])), (da, .inl (ca 0, 2, .inl (fun j => nI (r.1 j))))] := hD
      refine lv_aload_n hx hb dCh_answerToFlow_37 rfl (lv_at hl 2 rfl) ?_
      refine va_get (D := D) (ci := 1) (v := .int (nI pa)) (C := RCh) (T := TCh) (N := 7) hx hb ht inCh hown hE.1 hP 0 rfl rfl 4 (by decide) (ht _ tw_67) (fun _ h => h) rfl dCh_answerToFlow_38 ?_
      refine lv_aload_n hx hb dCh_answerToFlow_41 rfl (lv_at hl 2 rfl) ?_
      refine va_get (D := D) (ci := 1) (v := .int (nI nx)) (C := RCh) (T := TCh) (N := 7) hx hb ht inCh hown hE.1 hP 0 rfl rfl 3 (by decide) (ht _ tw_65) (fun _ h => h) rfl dCh_answerToFlow_42 ?_
      refine kI (rSN fx (c_Cl_distance l D ca pa nx (by omega) (by omega)) ⟨va_cnB 2 hts (tb_gi tw_352) rfl rfl rfl (hE.nest tw_410 rfl) (ht _ tw_1) (by decide +kernel) ⟨(Nat.le_of_ble_eq_true rfl), (Nat.le_of_ble_eq_true rfl)⟩, ht _ tw_351, trivial⟩ hE hP hD [] rfl rfl rfl hl.1 rfl (Nat.le_of_ble_eq_true rfl) dCh_answerToFlow_45 ⟨(Nat.le_of_ble_eq_true rfl), (Nat.le_of_ble_eq_true rfl)⟩) hP hD hS hA [] [0, 1, 2] rfl rfl rfl (by decide) (fun _ H locs _ hP hD hS => ?_)
      have hP : va_P D cls_ [(q, .inr (1, [.int (nI y), .ref d, .int (nI st), .int (nI nx), .int (nI pa), .int (nI du), .int (nI ta)])), (d, .inr (0, [.ref da, .int (nI r.2)])), (da, .inl (ca 0, 2, .inl (fun j => nI (r.1 j))))] H := hP
      have hD : va_D A [(q, .inr (1, [.int (nI y), .ref d, .int (nI st), .int (nI nx), .int (nI pa), .int (nI du), .int (nI ta)])), (d, .inr (0, [.ref da, .int (nI r.2)])), (da, .inl (ca 0, 2, .inl (fun j => nI (r.1 j))))] := hD
      refine k_icmp_le (tgt := 55) hx hb (by omega) (by omega) dCh_answerToFlow_48 rfl (fun h48 => ?_) (fun h48 => ?_)
      · refine lv_iconst (v := nI 0) hx hb dCh_answerToFlow_55 (by decide) ?_
        refine lv_istore hx hb dCh_answerToFlow_56 hl (by decide) rfl (fun ls hl => ?_)
        have hl : lv_has ls 5 [(4, .int (nI 0)), (3, .int (nI (pAckn pk))), (2, .int (nI 0)), (0, .ref q), (1, .int (nI pk))] := hl
        refine lv_iload_n hx hb dCh_answerToFlow_58 rfl (lv_at hl 2 rfl) ?_
        refine k_if_eq (tgt := 96) hx hb (by omega) dCh_answerToFlow_59 rfl (fun h59 => ?_) (fun hz => absurd hz (by omega))
        refine lv_iload hx hb dCh_answerToFlow_96 (lv_at hl 0 rfl) ?_
        refine k_if_eq (tgt := 109) hx hb (by omega) dCh_answerToFlow_98 rfl (fun h98 => ?_) (fun hz => absurd hz (by omega))
        refine lv_aload_n hx hb dCh_answerToFlow_109 rfl (lv_at hl 3 rfl) ?_
        refine lv_iload_n hx hb dCh_answerToFlow_110 rfl (lv_at hl 1 rfl) ?_
        refine va_put (D := D) (ci := 1) (v := .int (nI (pAckn pk))) (ty := .int) (C := RCh) (T := TCh) (N := 7) hx hb ht inCh tyCh tyCh_ok nmCh hown hE.1 hP hD hS 0 rfl rfl 4 (by decide) (ht _ tw_67) (fun _ h => h) rfl (by decide +kernel) rfl rfl (Nat.le_of_ble_eq_true rfl) dCh_answerToFlow_111 (fun H locs hP hD hS => ?_)
        have hP : va_P D cls_ [(q, .inr (1, [.int (nI y), .ref d, .int (nI st), .int (nI nx), .int (nI (pAckn pk)), .int (nI du), .int (nI ta)])), (d, .inr (0, [.ref da, .int (nI r.2)])), (da, .inl (ca 0, 2, .inl (fun j => nI (r.1 j))))] H := hP
        have hD : va_D A [(q, .inr (1, [.int (nI y), .ref d, .int (nI st), .int (nI nx), .int (nI (pAckn pk)), .int (nI du), .int (nI ta)])), (d, .inr (0, [.ref da, .int (nI r.2)])), (da, .inl (ca 0, 2, .inl (fun j => nI (r.1 j))))] := hD
        refine lv_iload_n hx hb dCh_answerToFlow_114 rfl (lv_at hl 2 rfl) ?_
        refine k_if_eq (tgt := 140) hx hb (by omega) dCh_answerToFlow_115 rfl (fun h115 => ?_) (fun hz => absurd hz (by omega))
        refine lv_iconst (v := nI 0) hx hb dCh_answerToFlow_140 (by decide) ?_
        rw [cFlow, if_neg (by omega), if_neg (by omega), if_neg (by omega)] at hres
        simp only [cNew, Prod.mk.injEq] at hres
        obtain ⟨rfl, rfl, rfl, rfl, rfl, rfl, rfl⟩ := hres
        exact Co.reti hx hb hret hlk dCh_answerToFlow_141 hS hP hD () rfl trivial rfl (Nat.le_of_ble_eq_true rfl) (Nat.le_of_ble_eq_true rfl)
      · refine lv_iconst (v := nI 1) hx hb dCh_answerToFlow_51 (by decide) ?_
        refine lv_goto (tgt := 56) hx hb dCh_answerToFlow_52 rfl ?_
        refine lv_istore hx hb dCh_answerToFlow_56 hl (by decide) rfl (fun ls hl => ?_)
        have hl : lv_has ls 5 [(4, .int (nI 1)), (3, .int (nI (pAckn pk))), (2, .int (nI 0)), (0, .ref q), (1, .int (nI pk))] := hl
        refine lv_iload_n hx hb dCh_answerToFlow_58 rfl (lv_at hl 2 rfl) ?_
        refine k_if_eq (tgt := 96) hx hb (by omega) dCh_answerToFlow_59 rfl (fun h59 => ?_) (fun hz => absurd hz (by omega))
        refine lv_iload hx hb dCh_answerToFlow_96 (lv_at hl 0 rfl) ?_
        refine k_if_eq (tgt := 109) hx hb (by omega) dCh_answerToFlow_98 rfl (fun hz => absurd hz (by omega)) (fun h98 => ?_)
        refine lv_aload_n hx hb dCh_answerToFlow_101 rfl (lv_at hl 3 rfl) ?_
        refine lv_iconst (v := nI 5) hx hb dCh_answerToFlow_102 (by decide) ?_
        refine kV (rV fx (c_Ch_renewAs l D ca q d da y st nx pa du ta r 5) ⟨callB_of 1 hts (tb_gi tw_223) rfl rfl rfl (ht _ tw_4) (ht _ tw_394) (by decide +kernel) ⟨(Nat.le_of_ble_eq_true rfl), (Nat.le_of_ble_eq_true rfl)⟩, ht _ tw_221, ht _ tw_222⟩ hE hP hD 0 rfl rfl rfl [0, 1, 2] rfl rfl rfl hl.1 rfl (Nat.le_of_ble_eq_true rfl) dCh_answerToFlow_103 ⟨(Nat.le_of_ble_eq_true rfl), (Nat.le_of_ble_eq_true rfl)⟩) hP hD hS hA [0, 1, 2] [] rfl rfl rfl (by decide) (fun _ H locs _ hP hD hS => ?_)
        have hP : va_P D cls_ [(q, .inr (1, [.int (nI y), .ref d, .int (nI 5), .int (nI 0), .int (nI 0), .int (nI 0), .int (nI 0)])), (d, .inr (0, [.ref da, .int (nI ((rNone r).2))])), (da, .inl (ca 0, 2, .inl (fun j => nI (((rNone r).1) j))))] H := hP
        have hD : va_D A [(q, .inr (1, [.int (nI y), .ref d, .int (nI 5), .int (nI 0), .int (nI 0), .int (nI 0), .int (nI 0)])), (d, .inr (0, [.ref da, .int (nI ((rNone r).2))])), (da, .inl (ca 0, 2, .inl (fun j => nI (((rNone r).1) j))))] := hD
        refine lv_bipush (v := nI 7) hx hb dCh_answerToFlow_106 (by decide) ?_
        rw [cFlow, if_neg (by omega), if_pos (by omega)] at hres
        simp only [cNew, Prod.mk.injEq] at hres
        obtain ⟨rfl, rfl, rfl, rfl, rfl, rfl, rfl⟩ := hres
        exact Co.reti hx hb hret hlk dCh_answerToFlow_108 hS hP hD () rfl trivial rfl (Nat.le_of_ble_eq_true rfl) (Nat.le_of_ble_eq_true rfl)
    · refine lv_iconst (v := nI 1) hx hb dCh_answerToFlow_18 (by decide) ?_
      refine lv_goto (tgt := 23) hx hb dCh_answerToFlow_19 rfl ?_
      refine lv_istore_n hx hb dCh_answerToFlow_23 rfl hl (by decide) rfl (fun ls hl => ?_)
      have hl : lv_has ls 5 [(2, .int (nI 1)), (0, .ref q), (1, .int (nI pk))] := hl
      refine lv_iload_n hx hb dCh_answerToFlow_24 rfl (lv_at hl 2 rfl) ?_
      refine kI (rSN fx (c_Pk_acknowledgementOf l D ca pk (by omega)) ⟨va_cnB 1 hts (tb_gi tw_409) rfl rfl rfl (hE.nest tw_407 rfl) (ht _ tw_14) (by decide +kernel) ⟨(Nat.le_of_ble_eq_true rfl), (Nat.le_of_ble_eq_true rfl)⟩, ht _ tw_408, trivial⟩ hE hP hD [] rfl rfl rfl hl.1 rfl (Nat.le_of_ble_eq_true rfl) dCh_answerToFlow_25 ⟨(Nat.le_of_ble_eq_true rfl), (Nat.le_of_ble_eq_true rfl)⟩) hP hD hS hA [] [0, 1, 2] rfl rfl rfl (by decide) (fun _ H locs _ hP hD hS => ?_)
      have hP : va_P D cls_ [(q, .inr (1, [.int (nI y), .ref d, .int (nI st), .int (nI nx), .int (nI pa), .int (nI du), .int (nI ta)])), (d, .inr (0, [.ref da, .int (nI r.2)])), (da, .inl (ca 0, 2, .inl (fun j => nI (r.1 j))))] H := hP
      have hD : va_D A [(q, .inr (1, [.int (nI y), .ref d, .int (nI st), .int (nI nx), .int (nI pa), .int (nI du), .int (nI ta)])), (d, .inr (0, [.ref da, .int (nI r.2)])), (da, .inl (ca 0, 2, .inl (fun j => nI (r.1 j))))] := hD
      refine lv_istore_n hx hb dCh_answerToFlow_28 rfl hl (by decide) rfl (fun ls hl => ?_)
      have hl : lv_has ls 5 [(3, .int (nI (pAckn pk))), (2, .int (nI 1)), (0, .ref q), (1, .int (nI pk))] := hl
      refine lv_aload_n hx hb dCh_answerToFlow_29 rfl (lv_at hl 2 rfl) ?_
      refine va_get (D := D) (ci := 1) (v := .int (nI pa)) (C := RCh) (T := TCh) (N := 7) hx hb ht inCh hown hE.1 hP 0 rfl rfl 4 (by decide) (ht _ tw_67) (fun _ h => h) rfl dCh_answerToFlow_30 ?_
      refine lv_iload_n hx hb dCh_answerToFlow_33 rfl (lv_at hl 0 rfl) ?_
      refine kI (rSN fx (c_Cl_distance l D ca pa (pAckn pk) (by omega) (by omega)) ⟨va_cnB 2 hts (tb_gi tw_352) rfl rfl rfl (hE.nest tw_410 rfl) (ht _ tw_1) (by decide +kernel) ⟨(Nat.le_of_ble_eq_true rfl), (Nat.le_of_ble_eq_true rfl)⟩, ht _ tw_351, trivial⟩ hE hP hD [] rfl rfl rfl hl.1 rfl (Nat.le_of_ble_eq_true rfl) dCh_answerToFlow_34 ⟨(Nat.le_of_ble_eq_true rfl), (Nat.le_of_ble_eq_true rfl)⟩) hP hD hS hA [] [0, 1, 2] rfl rfl rfl (by decide) (fun _ H locs _ hP hD hS => ?_)
      have hP : va_P D cls_ [(q, .inr (1, [.int (nI y), .ref d, .int (nI st), .int (nI nx), .int (nI pa), .int (nI du), .int (nI ta)])), (d, .inr (0, [.ref da, .int (nI r.2)])), (da, .inl (ca 0, 2, .inl (fun j => nI (r.1 j))))] H := hP
      have hD : va_D A [(q, .inr (1, [.int (nI y), .ref d, .int (nI st), .int (nI nx), .int (nI pa), .int (nI du), .int (nI ta)])), (d, .inr (0, [.ref da, .int (nI r.2)])), (da, .inl (ca 0, 2, .inl (fun j => nI (r.1 j))))] := hD
      refine lv_aload_n hx hb dCh_answerToFlow_37 rfl (lv_at hl 2 rfl) ?_
      refine va_get (D := D) (ci := 1) (v := .int (nI pa)) (C := RCh) (T := TCh) (N := 7) hx hb ht inCh hown hE.1 hP 0 rfl rfl 4 (by decide) (ht _ tw_67) (fun _ h => h) rfl dCh_answerToFlow_38 ?_
      refine lv_aload_n hx hb dCh_answerToFlow_41 rfl (lv_at hl 2 rfl) ?_
      refine va_get (D := D) (ci := 1) (v := .int (nI nx)) (C := RCh) (T := TCh) (N := 7) hx hb ht inCh hown hE.1 hP 0 rfl rfl 3 (by decide) (ht _ tw_65) (fun _ h => h) rfl dCh_answerToFlow_42 ?_
      refine kI (rSN fx (c_Cl_distance l D ca pa nx (by omega) (by omega)) ⟨va_cnB 2 hts (tb_gi tw_352) rfl rfl rfl (hE.nest tw_410 rfl) (ht _ tw_1) (by decide +kernel) ⟨(Nat.le_of_ble_eq_true rfl), (Nat.le_of_ble_eq_true rfl)⟩, ht _ tw_351, trivial⟩ hE hP hD [] rfl rfl rfl hl.1 rfl (Nat.le_of_ble_eq_true rfl) dCh_answerToFlow_45 ⟨(Nat.le_of_ble_eq_true rfl), (Nat.le_of_ble_eq_true rfl)⟩) hP hD hS hA [] [0, 1, 2] rfl rfl rfl (by decide) (fun _ H locs _ hP hD hS => ?_)
      have hP : va_P D cls_ [(q, .inr (1, [.int (nI y), .ref d, .int (nI st), .int (nI nx), .int (nI pa), .int (nI du), .int (nI ta)])), (d, .inr (0, [.ref da, .int (nI r.2)])), (da, .inl (ca 0, 2, .inl (fun j => nI (r.1 j))))] H := hP
      have hD : va_D A [(q, .inr (1, [.int (nI y), .ref d, .int (nI st), .int (nI nx), .int (nI pa), .int (nI du), .int (nI ta)])), (d, .inr (0, [.ref da, .int (nI r.2)])), (da, .inl (ca 0, 2, .inl (fun j => nI (r.1 j))))] := hD
      refine k_icmp_le (tgt := 55) hx hb (by omega) (by omega) dCh_answerToFlow_48 rfl (fun h48 => ?_) (fun h48 => ?_)
      · refine lv_iconst (v := nI 0) hx hb dCh_answerToFlow_55 (by decide) ?_
        refine lv_istore hx hb dCh_answerToFlow_56 hl (by decide) rfl (fun ls hl => ?_)
        have hl : lv_has ls 5 [(4, .int (nI 0)), (3, .int (nI (pAckn pk))), (2, .int (nI 1)), (0, .ref q), (1, .int (nI pk))] := hl
        refine lv_iload_n hx hb dCh_answerToFlow_58 rfl (lv_at hl 2 rfl) ?_
        refine k_if_eq (tgt := 96) hx hb (by omega) dCh_answerToFlow_59 rfl (fun hz => absurd hz (by omega)) (fun h59 => ?_)
        refine lv_iload hx hb dCh_answerToFlow_62 (lv_at hl 0 rfl) ?_
        refine k_if_ne (tgt := 89) hx hb (by omega) dCh_answerToFlow_64 rfl (fun hz => absurd hz (by omega)) (fun h64 => ?_)
        refine lv_iload_n hx hb dCh_answerToFlow_67 rfl (lv_at hl 4 rfl) ?_
        refine kI (rSN fx (c_Pk_numberOf l D ca pk (by omega)) ⟨va_cnB 1 hts (tb_gi tw_413) rfl rfl rfl (hE.nest tw_411 rfl) (ht _ tw_14) (by decide +kernel) ⟨(Nat.le_of_ble_eq_true rfl), (Nat.le_of_ble_eq_true rfl)⟩, ht _ tw_412, trivial⟩ hE hP hD [] rfl rfl rfl hl.1 rfl (Nat.le_of_ble_eq_true rfl) dCh_answerToFlow_68 ⟨(Nat.le_of_ble_eq_true rfl), (Nat.le_of_ble_eq_true rfl)⟩) hP hD hS hA [] [0, 1, 2] rfl rfl rfl (by decide) (fun _ H locs _ hP hD hS => ?_)
        have hP : va_P D cls_ [(q, .inr (1, [.int (nI y), .ref d, .int (nI st), .int (nI nx), .int (nI pa), .int (nI du), .int (nI ta)])), (d, .inr (0, [.ref da, .int (nI r.2)])), (da, .inl (ca 0, 2, .inl (fun j => nI (r.1 j))))] H := hP
        have hD : va_D A [(q, .inr (1, [.int (nI y), .ref d, .int (nI st), .int (nI nx), .int (nI pa), .int (nI du), .int (nI ta)])), (d, .inr (0, [.ref da, .int (nI r.2)])), (da, .inl (ca 0, 2, .inl (fun j => nI (r.1 j))))] := hD
        refine lv_aload_n hx hb dCh_answerToFlow_71 rfl (lv_at hl 3 rfl) ?_
        refine va_get (D := D) (ci := 1) (v := .int (nI du)) (C := RCh) (T := TCh) (N := 7) hx hb ht inCh hown hE.1 hP 0 rfl rfl 5 (by decide) (ht _ tw_69) (fun _ h => h) rfl dCh_answerToFlow_72 ?_
        refine k_icmp_ne (tgt := 89) hx hb (by omega) (by omega) dCh_answerToFlow_75 rfl (fun h75 => ?_) (fun h75 => ?_)
        · refine lv_iconst (v := nI 1) hx hb dCh_answerToFlow_89 (by decide) ?_
          refine lv_goto (tgt := 94) hx hb dCh_answerToFlow_90 rfl ?_
          refine lv_istore hx hb dCh_answerToFlow_94 hl (by decide) rfl (fun ls hl => ?_)
          have hl : lv_has ls 5 [(4, .int (nI 1)), (3, .int (nI (pAckn pk))), (2, .int (nI 1)), (0, .ref q), (1, .int (nI pk))] := hl
          refine lv_iload hx hb dCh_answerToFlow_96 (lv_at hl 0 rfl) ?_
          refine k_if_eq (tgt := 109) hx hb (by omega) dCh_answerToFlow_98 rfl (fun hz => absurd hz (by omega)) (fun h98 => ?_)
          refine lv_aload_n hx hb dCh_answerToFlow_101 rfl (lv_at hl 3 rfl) ?_
          refine lv_iconst (v := nI 5) hx hb dCh_answerToFlow_102 (by decide) ?_
          refine kV (rV fx (c_Ch_renewAs l D ca q d da y st nx pa du ta r 5) ⟨callB_of 1 hts (tb_gi tw_223) rfl rfl rfl (ht _ tw_4) (ht _ tw_394) (by decide +kernel) ⟨(Nat.le_of_ble_eq_true rfl), (Nat.le_of_ble_eq_true rfl)⟩, ht _ tw_221, ht _ tw_222⟩ hE hP hD 0 rfl rfl rfl [0, 1, 2] rfl rfl rfl hl.1 rfl (Nat.le_of_ble_eq_true rfl) dCh_answerToFlow_103 ⟨(Nat.le_of_ble_eq_true rfl), (Nat.le_of_ble_eq_true rfl)⟩) hP hD hS hA [0, 1, 2] [] rfl rfl rfl (by decide) (fun _ H locs _ hP hD hS => ?_)
          have hP : va_P D cls_ [(q, .inr (1, [.int (nI y), .ref d, .int (nI 5), .int (nI 0), .int (nI 0), .int (nI 0), .int (nI 0)])), (d, .inr (0, [.ref da, .int (nI ((rNone r).2))])), (da, .inl (ca 0, 2, .inl (fun j => nI (((rNone r).1) j))))] H := hP
          have hD : va_D A [(q, .inr (1, [.int (nI y), .ref d, .int (nI 5), .int (nI 0), .int (nI 0), .int (nI 0), .int (nI 0)])), (d, .inr (0, [.ref da, .int (nI ((rNone r).2))])), (da, .inl (ca 0, 2, .inl (fun j => nI (((rNone r).1) j))))] := hD
          refine lv_bipush (v := nI 7) hx hb dCh_answerToFlow_106 (by decide) ?_
          rw [cFlow, if_neg (by omega), if_pos (by omega)] at hres
          simp only [cNew, Prod.mk.injEq] at hres
          obtain ⟨rfl, rfl, rfl, rfl, rfl, rfl, rfl⟩ := hres
          exact Co.reti hx hb hret hlk dCh_answerToFlow_108 hS hP hD () rfl trivial rfl (Nat.le_of_ble_eq_true rfl) (Nat.le_of_ble_eq_true rfl)
        · refine lv_aload_n hx hb dCh_answerToFlow_78 rfl (lv_at hl 3 rfl) ?_
          refine va_get (D := D) (ci := 1) (v := .ref d) (C := RCh) (T := TCh) (N := 7) hx hb ht inCh hown hE.1 hP 0 rfl rfl 1 (by decide) (ht _ tw_61) (fun _ h => h) rfl dCh_answerToFlow_79 ?_
          refine va_getN (D := D) (ci := 0) (v := .int (nI r.2)) (host := "ChannelledLink") (C := RRw) (T := TRw) (N := 2) hx hb ht inRw hown hE.1 hP 1 rfl rfl 1 (by decide) (hE.nestU tw_33 rfl) (fun _ h => h) rfl dCh_answerToFlow_82 ?_
          refine lv_iconst (v := nI 2) hx hb dCh_answerToFlow_85 (by decide) ?_
          refine k_icmp_lt (tgt := 93) hx hb (by omega) (by omega) dCh_answerToFlow_86 rfl (fun h86 => ?_) (fun h86 => ?_)
          · refine lv_iconst (v := nI 0) hx hb dCh_answerToFlow_93 (by decide) ?_
            refine lv_istore hx hb dCh_answerToFlow_94 hl (by decide) rfl (fun ls hl => ?_)
            have hl : lv_has ls 5 [(4, .int (nI 0)), (3, .int (nI (pAckn pk))), (2, .int (nI 1)), (0, .ref q), (1, .int (nI pk))] := hl
            refine lv_iload hx hb dCh_answerToFlow_96 (lv_at hl 0 rfl) ?_
            refine k_if_eq (tgt := 109) hx hb (by omega) dCh_answerToFlow_98 rfl (fun h98 => ?_) (fun hz => absurd hz (by omega))
            refine lv_aload_n hx hb dCh_answerToFlow_109 rfl (lv_at hl 3 rfl) ?_
            refine lv_iload_n hx hb dCh_answerToFlow_110 rfl (lv_at hl 1 rfl) ?_
            refine va_put (D := D) (ci := 1) (v := .int (nI (pAckn pk))) (ty := .int) (C := RCh) (T := TCh) (N := 7) hx hb ht inCh tyCh tyCh_ok nmCh hown hE.1 hP hD hS 0 rfl rfl 4 (by decide) (ht _ tw_67) (fun _ h => h) rfl (by decide +kernel) rfl rfl (Nat.le_of_ble_eq_true rfl) dCh_answerToFlow_111 (fun H locs hP hD hS => ?_)
            have hP : va_P D cls_ [(q, .inr (1, [.int (nI y), .ref d, .int (nI st), .int (nI nx), .int (nI (pAckn pk)), .int (nI du), .int (nI ta)])), (d, .inr (0, [.ref da, .int (nI r.2)])), (da, .inl (ca 0, 2, .inl (fun j => nI (r.1 j))))] H := hP
            have hD : va_D A [(q, .inr (1, [.int (nI y), .ref d, .int (nI st), .int (nI nx), .int (nI (pAckn pk)), .int (nI du), .int (nI ta)])), (d, .inr (0, [.ref da, .int (nI r.2)])), (da, .inl (ca 0, 2, .inl (fun j => nI (r.1 j))))] := hD
            refine lv_iload_n hx hb dCh_answerToFlow_114 rfl (lv_at hl 2 rfl) ?_
            refine k_if_eq (tgt := 140) hx hb (by omega) dCh_answerToFlow_115 rfl (fun hz => absurd hz (by omega)) (fun h115 => ?_)
            refine lv_aload_n hx hb dCh_answerToFlow_118 rfl (lv_at hl 3 rfl) ?_
            refine va_get (D := D) (ci := 1) (v := .ref d) (C := RCh) (T := TCh) (N := 7) hx hb ht inCh hown hE.1 hP 0 rfl rfl 1 (by decide) (ht _ tw_61) (fun _ h => h) rfl dCh_answerToFlow_119 ?_
            refine lv_iload_n hx hb dCh_answerToFlow_122 rfl (lv_at hl 4 rfl) ?_
            refine kI (rSN fx (c_Pk_dataOf l D ca pk (by omega)) ⟨va_cnB 1 hts (tb_gi tw_416) rfl rfl rfl (hE.nest tw_414 rfl) (ht _ tw_14) (by decide +kernel) ⟨(Nat.le_of_ble_eq_true rfl), (Nat.le_of_ble_eq_true rfl)⟩, ht _ tw_415, trivial⟩ hE hP hD [] rfl rfl rfl hl.1 rfl (Nat.le_of_ble_eq_true rfl) dCh_answerToFlow_123 ⟨(Nat.le_of_ble_eq_true rfl), (Nat.le_of_ble_eq_true rfl)⟩) hP hD hS hA [] [0, 1, 2] rfl rfl rfl (by decide) (fun _ H locs _ hP hD hS => ?_)
            have hP : va_P D cls_ [(q, .inr (1, [.int (nI y), .ref d, .int (nI st), .int (nI nx), .int (nI (pAckn pk)), .int (nI du), .int (nI ta)])), (d, .inr (0, [.ref da, .int (nI r.2)])), (da, .inl (ca 0, 2, .inl (fun j => nI (r.1 j))))] H := hP
            have hD : va_D A [(q, .inr (1, [.int (nI y), .ref d, .int (nI st), .int (nI nx), .int (nI (pAckn pk)), .int (nI du), .int (nI ta)])), (d, .inr (0, [.ref da, .int (nI r.2)])), (da, .inl (ca 0, 2, .inl (fun j => nI (r.1 j))))] := hD
            refine kV (rV fx (c_Rw_add l D ca d da 2 r (pData pk) (by decide) (by first | assumption | exact rAdd_le (by assumption) | omega)) ⟨callB_of 1 hts (tb_gi tw_234) rfl rfl rfl (ht _ tw_2) (ht _ tw_417) (by decide +kernel) ⟨(Nat.le_of_ble_eq_true rfl), (Nat.le_of_ble_eq_true rfl)⟩, ht _ tw_232, ht _ tw_233⟩ hE hP hD 1 rfl rfl rfl [1, 2] rfl rfl rfl hl.1 rfl (Nat.le_of_ble_eq_true rfl) dCh_answerToFlow_126 ⟨(Nat.le_of_ble_eq_true rfl), (Nat.le_of_ble_eq_true rfl)⟩) hP hD hS hA [1, 2] [0] rfl rfl rfl (by decide) (fun _ H locs _ hP hD hS => ?_)
            have hP : va_P D cls_ [(q, .inr (1, [.int (nI y), .ref d, .int (nI st), .int (nI nx), .int (nI (pAckn pk)), .int (nI du), .int (nI ta)])), (d, .inr (0, [.ref da, .int (nI ((rAdd 2 r (pData pk)).2))])), (da, .inl (ca 0, 2, .inl (fun j => nI (((rAdd 2 r (pData pk)).1) j))))] H := hP
            have hD : va_D A [(q, .inr (1, [.int (nI y), .ref d, .int (nI st), .int (nI nx), .int (nI (pAckn pk)), .int (nI du), .int (nI ta)])), (d, .inr (0, [.ref da, .int (nI ((rAdd 2 r (pData pk)).2))])), (da, .inl (ca 0, 2, .inl (fun j => nI (((rAdd 2 r (pData pk)).1) j))))] := hD
            refine lv_aload_n hx hb dCh_answerToFlow_129 rfl (lv_at hl 3 rfl) ?_
            refine lv_aload_n hx hb dCh_answerToFlow_130 rfl (lv_at hl 3 rfl) ?_
            refine va_get (D := D) (ci := 1) (v := .int (nI du)) (C := RCh) (T := TCh) (N := 7) hx hb ht inCh hown hE.1 hP 0 rfl rfl 5 (by decide) (ht _ tw_69) (fun _ h => h) rfl dCh_answerToFlow_131 ?_
            refine kI (rSN fx (c_Cl_after l D ca du (by omega)) ⟨va_cnB 1 hts (tb_gi tw_289) rfl rfl rfl (hE.nest tw_418 rfl) (ht _ tw_1) (by decide +kernel) ⟨(Nat.le_of_ble_eq_true rfl), (Nat.le_of_ble_eq_true rfl)⟩, ht _ tw_288, trivial⟩ hE hP hD [] rfl rfl rfl hl.1 rfl (Nat.le_of_ble_eq_true rfl) dCh_answerToFlow_134 ⟨(Nat.le_of_ble_eq_true rfl), (Nat.le_of_ble_eq_true rfl)⟩) hP hD hS hA [] [0, 1, 2] rfl rfl rfl (by decide) (fun _ H locs _ hP hD hS => ?_)
            have hP : va_P D cls_ [(q, .inr (1, [.int (nI y), .ref d, .int (nI st), .int (nI nx), .int (nI (pAckn pk)), .int (nI du), .int (nI ta)])), (d, .inr (0, [.ref da, .int (nI ((rAdd 2 r (pData pk)).2))])), (da, .inl (ca 0, 2, .inl (fun j => nI (((rAdd 2 r (pData pk)).1) j))))] H := hP
            have hD : va_D A [(q, .inr (1, [.int (nI y), .ref d, .int (nI st), .int (nI nx), .int (nI (pAckn pk)), .int (nI du), .int (nI ta)])), (d, .inr (0, [.ref da, .int (nI ((rAdd 2 r (pData pk)).2))])), (da, .inl (ca 0, 2, .inl (fun j => nI (((rAdd 2 r (pData pk)).1) j))))] := hD
            refine va_put (D := D) (ci := 1) (v := .int (nI (af du))) (ty := .int) (C := RCh) (T := TCh) (N := 7) hx hb ht inCh tyCh tyCh_ok nmCh hown hE.1 hP hD hS 0 rfl rfl 5 (by decide) (ht _ tw_69) (fun _ h => h) rfl (by decide +kernel) rfl rfl (Nat.le_of_ble_eq_true rfl) dCh_answerToFlow_137 (fun H locs hP hD hS => ?_)
            have hP : va_P D cls_ [(q, .inr (1, [.int (nI y), .ref d, .int (nI st), .int (nI nx), .int (nI (pAckn pk)), .int (nI (af du)), .int (nI ta)])), (d, .inr (0, [.ref da, .int (nI ((rAdd 2 r (pData pk)).2))])), (da, .inl (ca 0, 2, .inl (fun j => nI (((rAdd 2 r (pData pk)).1) j))))] H := hP
            have hD : va_D A [(q, .inr (1, [.int (nI y), .ref d, .int (nI st), .int (nI nx), .int (nI (pAckn pk)), .int (nI (af du)), .int (nI ta)])), (d, .inr (0, [.ref da, .int (nI ((rAdd 2 r (pData pk)).2))])), (da, .inl (ca 0, 2, .inl (fun j => nI (((rAdd 2 r (pData pk)).1) j))))] := hD
            refine lv_iconst (v := nI 0) hx hb dCh_answerToFlow_140 (by decide) ?_
            rw [cFlow, if_neg (by omega), if_neg (by omega), if_pos (by omega)] at hres
            simp only [cNew, Prod.mk.injEq] at hres
            obtain ⟨rfl, rfl, rfl, rfl, rfl, rfl, rfl⟩ := hres
            exact Co.reti hx hb hret hlk dCh_answerToFlow_141 hS hP hD () rfl trivial rfl (Nat.le_of_ble_eq_true rfl) (Nat.le_of_ble_eq_true rfl)
          · refine lv_iconst (v := nI 1) hx hb dCh_answerToFlow_89 (by decide) ?_
            refine lv_goto (tgt := 94) hx hb dCh_answerToFlow_90 rfl ?_
            refine lv_istore hx hb dCh_answerToFlow_94 hl (by decide) rfl (fun ls hl => ?_)
            have hl : lv_has ls 5 [(4, .int (nI 1)), (3, .int (nI (pAckn pk))), (2, .int (nI 1)), (0, .ref q), (1, .int (nI pk))] := hl
            refine lv_iload hx hb dCh_answerToFlow_96 (lv_at hl 0 rfl) ?_
            refine k_if_eq (tgt := 109) hx hb (by omega) dCh_answerToFlow_98 rfl (fun hz => absurd hz (by omega)) (fun h98 => ?_)
            refine lv_aload_n hx hb dCh_answerToFlow_101 rfl (lv_at hl 3 rfl) ?_
            refine lv_iconst (v := nI 5) hx hb dCh_answerToFlow_102 (by decide) ?_
            refine kV (rV fx (c_Ch_renewAs l D ca q d da y st nx pa du ta r 5) ⟨callB_of 1 hts (tb_gi tw_223) rfl rfl rfl (ht _ tw_4) (ht _ tw_394) (by decide +kernel) ⟨(Nat.le_of_ble_eq_true rfl), (Nat.le_of_ble_eq_true rfl)⟩, ht _ tw_221, ht _ tw_222⟩ hE hP hD 0 rfl rfl rfl [0, 1, 2] rfl rfl rfl hl.1 rfl (Nat.le_of_ble_eq_true rfl) dCh_answerToFlow_103 ⟨(Nat.le_of_ble_eq_true rfl), (Nat.le_of_ble_eq_true rfl)⟩) hP hD hS hA [0, 1, 2] [] rfl rfl rfl (by decide) (fun _ H locs _ hP hD hS => ?_)
            have hP : va_P D cls_ [(q, .inr (1, [.int (nI y), .ref d, .int (nI 5), .int (nI 0), .int (nI 0), .int (nI 0), .int (nI 0)])), (d, .inr (0, [.ref da, .int (nI ((rNone r).2))])), (da, .inl (ca 0, 2, .inl (fun j => nI (((rNone r).1) j))))] H := hP
            have hD : va_D A [(q, .inr (1, [.int (nI y), .ref d, .int (nI 5), .int (nI 0), .int (nI 0), .int (nI 0), .int (nI 0)])), (d, .inr (0, [.ref da, .int (nI ((rNone r).2))])), (da, .inl (ca 0, 2, .inl (fun j => nI (((rNone r).1) j))))] := hD
            refine lv_bipush (v := nI 7) hx hb dCh_answerToFlow_106 (by decide) ?_
            rw [cFlow, if_neg (by omega), if_pos (by omega)] at hres
            simp only [cNew, Prod.mk.injEq] at hres
            obtain ⟨rfl, rfl, rfl, rfl, rfl, rfl, rfl⟩ := hres
            exact Co.reti hx hb hret hlk dCh_answerToFlow_108 hS hP hD () rfl trivial rfl (Nat.le_of_ble_eq_true rfl) (Nat.le_of_ble_eq_true rfl)
      · refine lv_iconst (v := nI 1) hx hb dCh_answerToFlow_51 (by decide) ?_
        refine lv_goto (tgt := 56) hx hb dCh_answerToFlow_52 rfl ?_
        refine lv_istore hx hb dCh_answerToFlow_56 hl (by decide) rfl (fun ls hl => ?_)
        have hl : lv_has ls 5 [(4, .int (nI 1)), (3, .int (nI (pAckn pk))), (2, .int (nI 1)), (0, .ref q), (1, .int (nI pk))] := hl
        refine lv_iload_n hx hb dCh_answerToFlow_58 rfl (lv_at hl 2 rfl) ?_
        refine k_if_eq (tgt := 96) hx hb (by omega) dCh_answerToFlow_59 rfl (fun hz => absurd hz (by omega)) (fun h59 => ?_)
        refine lv_iload hx hb dCh_answerToFlow_62 (lv_at hl 0 rfl) ?_
        refine k_if_ne (tgt := 89) hx hb (by omega) dCh_answerToFlow_64 rfl (fun h64 => ?_) (fun hz => absurd hz (by omega))
        refine lv_iconst (v := nI 1) hx hb dCh_answerToFlow_89 (by decide) ?_
        refine lv_goto (tgt := 94) hx hb dCh_answerToFlow_90 rfl ?_
        refine lv_istore hx hb dCh_answerToFlow_94 hl (by decide) rfl (fun ls hl => ?_)
        have hl : lv_has ls 5 [(4, .int (nI 1)), (3, .int (nI (pAckn pk))), (2, .int (nI 1)), (0, .ref q), (1, .int (nI pk))] := hl
        refine lv_iload hx hb dCh_answerToFlow_96 (lv_at hl 0 rfl) ?_
        refine k_if_eq (tgt := 109) hx hb (by omega) dCh_answerToFlow_98 rfl (fun hz => absurd hz (by omega)) (fun h98 => ?_)
        refine lv_aload_n hx hb dCh_answerToFlow_101 rfl (lv_at hl 3 rfl) ?_
        refine lv_iconst (v := nI 5) hx hb dCh_answerToFlow_102 (by decide) ?_
        refine kV (rV fx (c_Ch_renewAs l D ca q d da y st nx pa du ta r 5) ⟨callB_of 1 hts (tb_gi tw_223) rfl rfl rfl (ht _ tw_4) (ht _ tw_394) (by decide +kernel) ⟨(Nat.le_of_ble_eq_true rfl), (Nat.le_of_ble_eq_true rfl)⟩, ht _ tw_221, ht _ tw_222⟩ hE hP hD 0 rfl rfl rfl [0, 1, 2] rfl rfl rfl hl.1 rfl (Nat.le_of_ble_eq_true rfl) dCh_answerToFlow_103 ⟨(Nat.le_of_ble_eq_true rfl), (Nat.le_of_ble_eq_true rfl)⟩) hP hD hS hA [0, 1, 2] [] rfl rfl rfl (by decide) (fun _ H locs _ hP hD hS => ?_)
        have hP : va_P D cls_ [(q, .inr (1, [.int (nI y), .ref d, .int (nI 5), .int (nI 0), .int (nI 0), .int (nI 0), .int (nI 0)])), (d, .inr (0, [.ref da, .int (nI ((rNone r).2))])), (da, .inl (ca 0, 2, .inl (fun j => nI (((rNone r).1) j))))] H := hP
        have hD : va_D A [(q, .inr (1, [.int (nI y), .ref d, .int (nI 5), .int (nI 0), .int (nI 0), .int (nI 0), .int (nI 0)])), (d, .inr (0, [.ref da, .int (nI ((rNone r).2))])), (da, .inl (ca 0, 2, .inl (fun j => nI (((rNone r).1) j))))] := hD
        refine lv_bipush (v := nI 7) hx hb dCh_answerToFlow_106 (by decide) ?_
        rw [cFlow, if_neg (by omega), if_pos (by omega)] at hres
        simp only [cNew, Prod.mk.injEq] at hres
        obtain ⟨rfl, rfl, rfl, rfl, rfl, rfl, rfl⟩ := hres
        exact Co.reti hx hb hret hlk dCh_answerToFlow_108 hS hP hD () rfl trivial rfl (Nat.le_of_ble_eq_true rfl) (Nat.le_of_ble_eq_true rfl)
  · refine lv_iconst (v := nI 0) hx hb dCh_answerToFlow_8 (by decide) ?_
    rw [cFlow, if_pos (by omega)] at hres
    simp only [cNew, Prod.mk.injEq] at hres
    obtain ⟨rfl, rfl, rfl, rfl, rfl, rfl, rfl⟩ := hres
    exact Co.reti hx hb hret hlk dCh_answerToFlow_9 hS hP hD () rfl trivial rfl (Nat.le_of_ble_eq_true rfl) (Nat.le_of_ble_eq_true rfl)
set_option maxHeartbeats 4000000 in
set_option maxRecDepth 100000 in
theorem c_Ch_answerTo (l : Launch) (D : va_G) (ca : Nat → ClassId) (q d da y st nx pa du ta : Nat) (r : Rw_) (pk : Nat) (hpk : pk < 2 ^ 31) (hy : y < 2) (hst : st < 6) (hnx : nx < 8) (hpa : pa < 8) (hdu : du < 8) (hta : ta < 8) (hr : r.2 ≤ 2) (rk st' nx' pa' du' ta' : Nat) (r' : Rw_) (hres : cAns y st nx pa du ta r pk = (rk, st', nx', pa', du', ta', r')) : Co (S := Unit) l yCh_answerTo (Cond.code yCh_answerTo cCh_answerTo 2 (some FieldType.int) :: tb_) { frames := 2, cells := 0, slots := 0, locals := 64 } D ca [.ref q, .int (nI pk)] [(q, .inr (1, [.int (nI y), .ref d, .int (nI st), .int (nI nx), .int (nI pa), .int (nI du), .int (nI ta)])), (d, .inr (0, [.ref da, .int (nI r.2)])), (da, .inl (ca 0, 2, .inl (fun j => nI (r.1 j))))] (fun _ => some (.int (nI rk))) (fun _ => True) (fun _ => [(q, .inr (1, [.int (nI y), .ref d, .int (nI st'), .int (nI nx'), .int (nI pa'), .int (nI du'), .int (nI ta')])), (d, .inr (0, [.ref da, .int (nI r'.2)])), (da, .inl (ca 0, 2, .inl (fun j => nI (r'.1 j))))]) 0 0 := by
  refine Co.of cCh_answerTo 2 (some FieldType.int) (by decide) (Nat.le_of_ble_eq_true rfl) ?_
  intro p e s m args below meth c A ls fx hret hlk hin hE hP hD hS hA hl
  have hx := fx.1
  have hb := fx.2.1
  have hown : s.vm.findClass RCh = some m.cls := fx.2.2.2.1
  have hts := fx.2.2.2.2
  have ht : ∀ w ∈ tb_, w.before args s = true := fun w h => hts w (List.mem_cons_of_mem _ h)
  have b3 : pKind pk < 16 := Nat.mod_lt _ (by decide)
  have hl : lv_has ls 2 [(0, .ref q), (1, .int (nI pk))] := hl
  refine lv_iload_n hx hb dCh_answerTo_0 rfl (lv_at hl 1 rfl) ?_
  refine kI (rSN fx (c_Pk_kindOf l D ca pk (by omega)) ⟨va_cnB 1 hts (tb_gi tw_389) rfl rfl rfl (hE.nest tw_387 rfl) (ht _ tw_14) (by decide +kernel) ⟨(Nat.le_of_ble_eq_true rfl), (Nat.le_of_ble_eq_true rfl)⟩, ht _ tw_388, trivial⟩ hE hP hD [] rfl rfl rfl hl.1 rfl (Nat.le_of_ble_eq_true rfl) dCh_answerTo_1 ⟨(Nat.le_of_ble_eq_true rfl), (Nat.le_of_ble_eq_true rfl)⟩) hP hD hS hA [] [0, 1, 2] rfl rfl rfl (by decide) (fun _ H locs _ hP hD hS => ?_)
  have hP : va_P D cls_ [(q, .inr (1, [.int (nI y), .ref d, .int (nI st), .int (nI nx), .int (nI pa), .int (nI du), .int (nI ta)])), (d, .inr (0, [.ref da, .int (nI r.2)])), (da, .inl (ca 0, 2, .inl (fun j => nI (r.1 j))))] H := hP
  have hD : va_D A [(q, .inr (1, [.int (nI y), .ref d, .int (nI st), .int (nI nx), .int (nI pa), .int (nI du), .int (nI ta)])), (d, .inr (0, [.ref da, .int (nI r.2)])), (da, .inl (ca 0, 2, .inl (fun j => nI (r.1 j))))] := hD
  rcases (show (pKind pk) = 1 ∨ (pKind pk) = 2 ∨ (pKind pk) = 3 ∨ (pKind pk) = 4 ∨ (pKind pk) = 5 ∨ (pKind pk) = 6 ∨ (pKind pk) = 7 ∨ (pKind pk) = 8 ∨ ((pKind pk) < 1 ∨ 8 < (pKind pk)) by omega) with h4 | h4 | h4 | h4 | h4 | h4 | h4 | h4 | h4
  · refine k_tab (tgt := 52) hx hb 1 h4 dCh_answerTo_4 (by decide) (by decide) rfl rfl ?_
    rw [cAns, if_pos (by omega)] at hres
    refine lv_aload_n hx hb dCh_answerTo_52 rfl (lv_at hl 0 rfl) ?_
    refine kI (rV fx (c_Ch_answerToCall l D ca q d da y st nx pa du ta r (by omega) (by omega) (by omega) (by omega) (by omega) (by omega) (by omega) _ _ _ _ _ _ _ hres) ⟨callB_of 0 hts (tb_gi tw_393) rfl rfl rfl (ht _ tw_4) (ht _ tw_390) (by decide +kernel) ⟨(Nat.le_of_ble_eq_true rfl), (Nat.le_of_ble_eq_true rfl)⟩, ht _ tw_392, ht _ tw_839⟩ hE hP hD 0 rfl rfl rfl [0, 1, 2] rfl rfl rfl hl.1 rfl (Nat.le_of_ble_eq_true rfl) dCh_answerTo_53 ⟨(Nat.le_of_ble_eq_true rfl), (Nat.le_of_ble_eq_true rfl)⟩) hP hD hS hA [0, 1, 2] [] rfl rfl rfl (by decide) (fun _ H locs _ hP hD hS => ?_)
    have hP : va_P D cls_ [(q, .inr (1, [.int (nI y), .ref d, .int (nI st'), .int (nI nx'), .int (nI pa'), .int (nI du'), .int (nI ta')])), (d, .inr (0, [.ref da, .int (nI r'.2)])), (da, .inl (ca 0, 2, .inl (fun j => nI (r'.1 j))))] H := hP
    have hD : va_D A [(q, .inr (1, [.int (nI y), .ref d, .int (nI st'), .int (nI nx'), .int (nI pa'), .int (nI du'), .int (nI ta')])), (d, .inr (0, [.ref da, .int (nI r'.2)])), (da, .inl (ca 0, 2, .inl (fun j => nI (r'.1 j))))] := hD
    exact Co.reti hx hb hret hlk dCh_answerTo_56 hS hP hD () rfl trivial rfl (Nat.le_of_ble_eq_true rfl) (Nat.le_of_ble_eq_true rfl)
  · refine k_tab (tgt := 57) hx hb 2 h4 dCh_answerTo_4 (by decide) (by decide) rfl rfl ?_
    rw [cAns, if_neg (by omega), if_pos (by omega)] at hres
    refine lv_aload_n hx hb dCh_answerTo_57 rfl (lv_at hl 0 rfl) ?_
    refine lv_iconst (v := nI 1) hx hb dCh_answerTo_58 (by decide) ?_
    refine lv_iconst (v := nI 3) hx hb dCh_answerTo_59 (by decide) ?_
    refine kI (rV fx (c_Ch_renewFrom l D ca q d da y st nx pa du ta r 1 3 (by omega) (by omega) (by omega) (by omega) (by omega) (by omega) (by omega) _ _ _ _ _ _ _ hres) ⟨callB_of 2 hts (tb_gi tw_398) rfl rfl rfl (ht _ tw_4) (ht _ tw_395) (by decide +kernel) ⟨(Nat.le_of_ble_eq_true rfl), (Nat.le_of_ble_eq_true rfl)⟩, ht _ tw_397, ht _ tw_840⟩ hE hP hD 0 rfl rfl rfl [0, 1, 2] rfl rfl rfl hl.1 rfl (Nat.le_of_ble_eq_true rfl) dCh_answerTo_60 ⟨(Nat.le_of_ble_eq_true rfl), (Nat.le_of_ble_eq_true rfl)⟩) hP hD hS hA [0, 1, 2] [] rfl rfl rfl (by decide) (fun _ H locs _ hP hD hS => ?_)
    have hP : va_P D cls_ [(q, .inr (1, [.int (nI y), .ref d, .int (nI st'), .int (nI nx'), .int (nI pa'), .int (nI du'), .int (nI ta')])), (d, .inr (0, [.ref da, .int (nI r'.2)])), (da, .inl (ca 0, 2, .inl (fun j => nI (r'.1 j))))] H := hP
    have hD : va_D A [(q, .inr (1, [.int (nI y), .ref d, .int (nI st'), .int (nI nx'), .int (nI pa'), .int (nI du'), .int (nI ta')])), (d, .inr (0, [.ref da, .int (nI r'.2)])), (da, .inl (ca 0, 2, .inl (fun j => nI (r'.1 j))))] := hD
    exact Co.reti hx hb hret hlk dCh_answerTo_63 hS hP hD () rfl trivial rfl (Nat.le_of_ble_eq_true rfl) (Nat.le_of_ble_eq_true rfl)
  · refine k_tab (tgt := 64) hx hb 3 h4 dCh_answerTo_4 (by decide) (by decide) rfl rfl ?_
    rw [cAns, if_neg (by omega), if_neg (by omega), if_pos (by omega)] at hres
    refine lv_aload_n hx hb dCh_answerTo_64 rfl (lv_at hl 0 rfl) ?_
    refine kI (rV fx (c_Ch_answerToClear l D ca q d da y st nx pa du ta r  (by omega) (by omega) (by omega) (by omega) (by omega) (by omega) _ _ _ _ _ _ _ hres) ⟨callB_of 0 hts (tb_gi tw_402) rfl rfl rfl (ht _ tw_4) (ht _ tw_399) (by decide +kernel) ⟨(Nat.le_of_ble_eq_true rfl), (Nat.le_of_ble_eq_true rfl)⟩, ht _ tw_401, ht _ tw_841⟩ hE hP hD 0 rfl rfl rfl [0, 1, 2] rfl rfl rfl hl.1 rfl (Nat.le_of_ble_eq_true rfl) dCh_answerTo_65 ⟨(Nat.le_of_ble_eq_true rfl), (Nat.le_of_ble_eq_true rfl)⟩) hP hD hS hA [0, 1, 2] [] rfl rfl rfl (by decide) (fun _ H locs _ hP hD hS => ?_)
    have hP : va_P D cls_ [(q, .inr (1, [.int (nI y), .ref d, .int (nI st'), .int (nI nx'), .int (nI pa'), .int (nI du'), .int (nI ta')])), (d, .inr (0, [.ref da, .int (nI r'.2)])), (da, .inl (ca 0, 2, .inl (fun j => nI (r'.1 j))))] H := hP
    have hD : va_D A [(q, .inr (1, [.int (nI y), .ref d, .int (nI st'), .int (nI nx'), .int (nI pa'), .int (nI du'), .int (nI ta')])), (d, .inr (0, [.ref da, .int (nI r'.2)])), (da, .inl (ca 0, 2, .inl (fun j => nI (r'.1 j))))] := hD
    exact Co.reti hx hb hret hlk dCh_answerTo_68 hS hP hD () rfl trivial rfl (Nat.le_of_ble_eq_true rfl) (Nat.le_of_ble_eq_true rfl)
  · refine k_tab (tgt := 69) hx hb 4 h4 dCh_answerTo_4 (by decide) (by decide) rfl rfl ?_
    rw [cAns, if_neg (by omega), if_neg (by omega), if_neg (by omega), if_pos (by omega)] at hres
    refine lv_aload_n hx hb dCh_answerTo_69 rfl (lv_at hl 0 rfl) ?_
    refine lv_iconst (v := nI 4) hx hb dCh_answerTo_70 (by decide) ?_
    refine lv_iconst (v := nI 0) hx hb dCh_answerTo_71 (by decide) ?_
    refine kI (rV fx (c_Ch_renewFrom l D ca q d da y st nx pa du ta r 4 0 (by omega) (by omega) (by omega) (by omega) (by omega) (by omega) (by omega) _ _ _ _ _ _ _ hres) ⟨callB_of 2 hts (tb_gi tw_398) rfl rfl rfl (ht _ tw_4) (ht _ tw_395) (by decide +kernel) ⟨(Nat.le_of_ble_eq_true rfl), (Nat.le_of_ble_eq_true rfl)⟩, ht _ tw_397, ht _ tw_840⟩ hE hP hD 0 rfl rfl rfl [0, 1, 2] rfl rfl rfl hl.1 rfl (Nat.le_of_ble_eq_true rfl) dCh_answerTo_72 ⟨(Nat.le_of_ble_eq_true rfl), (Nat.le_of_ble_eq_true rfl)⟩) hP hD hS hA [0, 1, 2] [] rfl rfl rfl (by decide) (fun _ H locs _ hP hD hS => ?_)
    have hP : va_P D cls_ [(q, .inr (1, [.int (nI y), .ref d, .int (nI st'), .int (nI nx'), .int (nI pa'), .int (nI du'), .int (nI ta')])), (d, .inr (0, [.ref da, .int (nI r'.2)])), (da, .inl (ca 0, 2, .inl (fun j => nI (r'.1 j))))] H := hP
    have hD : va_D A [(q, .inr (1, [.int (nI y), .ref d, .int (nI st'), .int (nI nx'), .int (nI pa'), .int (nI du'), .int (nI ta')])), (d, .inr (0, [.ref da, .int (nI r'.2)])), (da, .inl (ca 0, 2, .inl (fun j => nI (r'.1 j))))] := hD
    exact Co.reti hx hb hret hlk dCh_answerTo_75 hS hP hD () rfl trivial rfl (Nat.le_of_ble_eq_true rfl) (Nat.le_of_ble_eq_true rfl)
  · refine k_tab (tgt := 76) hx hb 5 h4 dCh_answerTo_4 (by decide) (by decide) rfl rfl ?_
    rw [cAns, if_neg (by omega), if_neg (by omega), if_neg (by omega), if_neg (by omega), if_pos (by omega)] at hres
    refine lv_aload_n hx hb dCh_answerTo_76 rfl (lv_at hl 0 rfl) ?_
    refine lv_iload_n hx hb dCh_answerTo_77 rfl (lv_at hl 1 rfl) ?_
    refine kI (rV fx (c_Ch_answerToFlow l D ca q d da y st nx pa du ta r pk (by omega) (by omega) (by omega) (by omega) (by omega) (by omega) (by omega) _ _ _ _ _ _ _ hres) ⟨callB_of 1 hts (tb_gi tw_406) rfl rfl rfl (ht _ tw_4) (ht _ tw_403) (by decide +kernel) ⟨(Nat.le_of_ble_eq_true rfl), (Nat.le_of_ble_eq_true rfl)⟩, ht _ tw_405, ht _ tw_842⟩ hE hP hD 0 rfl rfl rfl [0, 1, 2] rfl rfl rfl hl.1 rfl (Nat.le_of_ble_eq_true rfl) dCh_answerTo_78 ⟨(Nat.le_of_ble_eq_true rfl), (Nat.le_of_ble_eq_true rfl)⟩) hP hD hS hA [0, 1, 2] [] rfl rfl rfl (by decide) (fun _ H locs _ hP hD hS => ?_)
    have hP : va_P D cls_ [(q, .inr (1, [.int (nI y), .ref d, .int (nI st'), .int (nI nx'), .int (nI pa'), .int (nI du'), .int (nI ta')])), (d, .inr (0, [.ref da, .int (nI r'.2)])), (da, .inl (ca 0, 2, .inl (fun j => nI (r'.1 j))))] H := hP
    have hD : va_D A [(q, .inr (1, [.int (nI y), .ref d, .int (nI st'), .int (nI nx'), .int (nI pa'), .int (nI du'), .int (nI ta')])), (d, .inr (0, [.ref da, .int (nI r'.2)])), (da, .inl (ca 0, 2, .inl (fun j => nI (r'.1 j))))] := hD
    exact Co.reti hx hb hret hlk dCh_answerTo_81 hS hP hD () rfl trivial rfl (Nat.le_of_ble_eq_true rfl) (Nat.le_of_ble_eq_true rfl)
  · refine k_tab (tgt := 76) hx hb 6 h4 dCh_answerTo_4 (by decide) (by decide) rfl rfl ?_
    rw [cAns, if_neg (by omega), if_neg (by omega), if_neg (by omega), if_neg (by omega), if_pos (by omega)] at hres
    refine lv_aload_n hx hb dCh_answerTo_76 rfl (lv_at hl 0 rfl) ?_
    refine lv_iload_n hx hb dCh_answerTo_77 rfl (lv_at hl 1 rfl) ?_
    refine kI (rV fx (c_Ch_answerToFlow l D ca q d da y st nx pa du ta r pk (by omega) (by omega) (by omega) (by omega) (by omega) (by omega) (by omega) _ _ _ _ _ _ _ hres) ⟨callB_of 1 hts (tb_gi tw_406) rfl rfl rfl (ht _ tw_4) (ht _ tw_403) (by decide +kernel) ⟨(Nat.le_of_ble_eq_true rfl), (Nat.le_of_ble_eq_true rfl)⟩, ht _ tw_405, ht _ tw_842⟩ hE hP hD 0 rfl rfl rfl [0, 1, 2] rfl rfl rfl hl.1 rfl (Nat.le_of_ble_eq_true rfl) dCh_answerTo_78 ⟨(Nat.le_of_ble_eq_true rfl), (Nat.le_of_ble_eq_true rfl)⟩) hP hD hS hA [0, 1, 2] [] rfl rfl rfl (by decide) (fun _ H locs _ hP hD hS => ?_)
    have hP : va_P D cls_ [(q, .inr (1, [.int (nI y), .ref d, .int (nI st'), .int (nI nx'), .int (nI pa'), .int (nI du'), .int (nI ta')])), (d, .inr (0, [.ref da, .int (nI r'.2)])), (da, .inl (ca 0, 2, .inl (fun j => nI (r'.1 j))))] H := hP
    have hD : va_D A [(q, .inr (1, [.int (nI y), .ref d, .int (nI st'), .int (nI nx'), .int (nI pa'), .int (nI du'), .int (nI ta')])), (d, .inr (0, [.ref da, .int (nI r'.2)])), (da, .inl (ca 0, 2, .inl (fun j => nI (r'.1 j))))] := hD
    exact Co.reti hx hb hret hlk dCh_answerTo_81 hS hP hD () rfl trivial rfl (Nat.le_of_ble_eq_true rfl) (Nat.le_of_ble_eq_true rfl)
  · refine k_tab (tgt := 82) hx hb 7 h4 dCh_answerTo_4 (by decide) (by decide) rfl rfl ?_
    rw [cAns, if_neg (by omega), if_neg (by omega), if_neg (by omega), if_neg (by omega), if_neg (by omega), if_pos (by omega)] at hres
    refine lv_aload_n hx hb dCh_answerTo_82 rfl (lv_at hl 0 rfl) ?_
    refine kI (rV fx (c_Ch_answerToReset l D ca q d da y st nx pa du ta r  (by omega) (by omega) (by omega) (by omega) (by omega) (by omega) _ _ _ _ _ _ _ hres) ⟨callB_of 0 hts (tb_gi tw_422) rfl rfl rfl (ht _ tw_4) (ht _ tw_419) (by decide +kernel) ⟨(Nat.le_of_ble_eq_true rfl), (Nat.le_of_ble_eq_true rfl)⟩, ht _ tw_421, ht _ tw_843⟩ hE hP hD 0 rfl rfl rfl [0, 1, 2] rfl rfl rfl hl.1 rfl (Nat.le_of_ble_eq_true rfl) dCh_answerTo_83 ⟨(Nat.le_of_ble_eq_true rfl), (Nat.le_of_ble_eq_true rfl)⟩) hP hD hS hA [0, 1, 2] [] rfl rfl rfl (by decide) (fun _ H locs _ hP hD hS => ?_)
    have hP : va_P D cls_ [(q, .inr (1, [.int (nI y), .ref d, .int (nI st'), .int (nI nx'), .int (nI pa'), .int (nI du'), .int (nI ta')])), (d, .inr (0, [.ref da, .int (nI r'.2)])), (da, .inl (ca 0, 2, .inl (fun j => nI (r'.1 j))))] H := hP
    have hD : va_D A [(q, .inr (1, [.int (nI y), .ref d, .int (nI st'), .int (nI nx'), .int (nI pa'), .int (nI du'), .int (nI ta')])), (d, .inr (0, [.ref da, .int (nI r'.2)])), (da, .inl (ca 0, 2, .inl (fun j => nI (r'.1 j))))] := hD
    exact Co.reti hx hb hret hlk dCh_answerTo_86 hS hP hD () rfl trivial rfl (Nat.le_of_ble_eq_true rfl) (Nat.le_of_ble_eq_true rfl)
  · refine k_tab (tgt := 87) hx hb 8 h4 dCh_answerTo_4 (by decide) (by decide) rfl rfl ?_
    rw [cAns, if_neg (by omega), if_neg (by omega), if_neg (by omega), if_neg (by omega), if_neg (by omega), if_neg (by omega), if_pos (by omega)] at hres
    refine lv_aload_n hx hb dCh_answerTo_87 rfl (lv_at hl 0 rfl) ?_
    refine lv_iconst (v := nI 5) hx hb dCh_answerTo_88 (by decide) ?_
    refine lv_iconst (v := nI 3) hx hb dCh_answerTo_89 (by decide) ?_
    refine kI (rV fx (c_Ch_renewFrom l D ca q d da y st nx pa du ta r 5 3 (by omega) (by omega) (by omega) (by omega) (by omega) (by omega) (by omega) _ _ _ _ _ _ _ hres) ⟨callB_of 2 hts (tb_gi tw_398) rfl rfl rfl (ht _ tw_4) (ht _ tw_395) (by decide +kernel) ⟨(Nat.le_of_ble_eq_true rfl), (Nat.le_of_ble_eq_true rfl)⟩, ht _ tw_397, ht _ tw_840⟩ hE hP hD 0 rfl rfl rfl [0, 1, 2] rfl rfl rfl hl.1 rfl (Nat.le_of_ble_eq_true rfl) dCh_answerTo_90 ⟨(Nat.le_of_ble_eq_true rfl), (Nat.le_of_ble_eq_true rfl)⟩) hP hD hS hA [0, 1, 2] [] rfl rfl rfl (by decide) (fun _ H locs _ hP hD hS => ?_)
    have hP : va_P D cls_ [(q, .inr (1, [.int (nI y), .ref d, .int (nI st'), .int (nI nx'), .int (nI pa'), .int (nI du'), .int (nI ta')])), (d, .inr (0, [.ref da, .int (nI r'.2)])), (da, .inl (ca 0, 2, .inl (fun j => nI (r'.1 j))))] H := hP
    have hD : va_D A [(q, .inr (1, [.int (nI y), .ref d, .int (nI st'), .int (nI nx'), .int (nI pa'), .int (nI du'), .int (nI ta')])), (d, .inr (0, [.ref da, .int (nI r'.2)])), (da, .inl (ca 0, 2, .inl (fun j => nI (r'.1 j))))] := hD
    exact Co.reti hx hb hret hlk dCh_answerTo_93 hS hP hD () rfl trivial rfl (Nat.le_of_ble_eq_true rfl) (Nat.le_of_ble_eq_true rfl)
  · refine k_tabD (tgt := 94) hx hb (by omega) dCh_answerTo_4 (by omega) rfl ?_
    rw [cAns, if_neg (by omega), if_neg (by omega), if_neg (by omega), if_neg (by omega), if_neg (by omega), if_neg (by omega), if_neg (by omega)] at hres
    refine lv_iconst (v := nI 0) hx hb dCh_answerTo_94 (by decide) ?_
    simp only [Prod.mk.injEq] at hres
    obtain ⟨rfl, rfl, rfl, rfl, rfl, rfl, rfl⟩ := hres
    exact Co.reti hx hb hret hlk dCh_answerTo_95 hS hP hD () rfl trivial rfl (Nat.le_of_ble_eq_true rfl) (Nat.le_of_ble_eq_true rfl)
end
section
set_option maxHeartbeats 4000000 in
set_option maxRecDepth 100000 in
theorem c_St_unconfirmed (l : Launch) (D : va_G) (ca : Nat → ClassId) (h ln pe ou cs lk sn ac ex tr rj : Nat) (hsn : sn < 8) (hac : ac < 8) : Co (S := Unit) l ySt_unconfirmed (Cond.code ySt_unconfirmed cSt_unconfirmed 1 (some FieldType.int) :: tb_) { frames := 0, cells := 0, slots := 0, locals := 0 } D ca [.ref h] [(h, .inr (2, [.ref ln, .ref pe, .ref ou, .ref cs, .int (nI lk), .int (nI sn), .int (nI ac), .int (nI ex), .int (nI tr), .int (nI rj)]))] (fun _ => some (.int (nI (ds ac sn)))) (fun _ => True) (fun _ => [(h, .inr (2, [.ref ln, .ref pe, .ref ou, .ref cs, .int (nI lk), .int (nI sn), .int (nI ac), .int (nI ex), .int (nI tr), .int (nI rj)]))]) 0 0 := by
  refine Co.of cSt_unconfirmed 1 (some FieldType.int) (by decide) (Nat.le_of_ble_eq_true rfl) ?_
  intro p e s m args below meth c A ls fx hret hlk hin hE hP hD hS hA hl
  have hx := fx.1
  have hb := fx.2.1
  have hown : s.vm.findClass RSt = some m.cls := fx.2.2.2.1
  have hts := fx.2.2.2.2
  have ht : ∀ w ∈ tb_, w.before args s = true := fun w h => hts w (List.mem_cons_of_mem _ h)
  have hl : lv_has ls 1 [(0, .ref h)] := hl
  refine lv_aload_n hx hb dSt_unconfirmed_0 rfl (lv_at hl 0 rfl) ?_
  refine va_get (D := D) (ci := 2) (v := .int (nI sn)) (C := RSt) (T := TSt) (N := 10) hx hb ht inSt hown hE.1 hP 0 rfl rfl 5 (by decide) (ht _ tw_97) (fun _ h => h) rfl dSt_unconfirmed_1 ?_
  refine lv_aload_n hx hb dSt_unconfirmed_4 rfl (lv_at hl 0 rfl) ?_
  refine va_get (D := D) (ci := 2) (v := .int (nI ac)) (C := RSt) (T := TSt) (N := 10) hx hb ht inSt hown hE.1 hP 0 rfl rfl 6 (by decide) (ht _ tw_99) (fun _ h => h) rfl dSt_unconfirmed_5 ?_
  refine lv_isub hx hb dSt_unconfirmed_8 ?_
  refine lv_bipush (v := nI 7) hx hb dSt_unconfirmed_9 (by decide) ?_
  refine lv_iand hx hb dSt_unconfirmed_11 ?_
  refine k_is (y := nI (ds ac sn)) (n_dist ac hac sn hsn) ?_
  exact Co.reti hx hb hret hlk dSt_unconfirmed_12 hS hP hD () rfl trivial rfl (Nat.le_of_ble_eq_true rfl) (Nat.le_of_ble_eq_true rfl)
set_option maxHeartbeats 4000000 in
set_option maxRecDepth 100000 in
theorem c_St_waitsForAnswer (l : Launch) (D : va_G) (ca : Nat → ClassId) (h ln pe ou cs lk sn ac ex tr rj : Nat) (hlk2 : lk < 3) (hsn : sn < 8) (hac : ac < 8) (hex : ex < 8) : Co (S := Unit) l ySt_waitsForAnswer (Cond.code ySt_waitsForAnswer cSt_waitsForAnswer 1 (some FieldType.boolean) :: tb_) { frames := 1, cells := 0, slots := 0, locals := 32 } D ca [.ref h] [(h, .inr (2, [.ref ln, .ref pe, .ref ou, .ref cs, .int (nI lk), .int (nI sn), .int (nI ac), .int (nI ex), .int (nI tr), .int (nI rj)]))] (fun _ => some (.int (nI (if lk = 1 ∨ (lk = 2 ∧ 0 < ds ac sn) then 1 else 0)))) (fun _ => True) (fun _ => [(h, .inr (2, [.ref ln, .ref pe, .ref ou, .ref cs, .int (nI lk), .int (nI sn), .int (nI ac), .int (nI ex), .int (nI tr), .int (nI rj)]))]) 0 0 := by
  refine Co.of cSt_waitsForAnswer 1 (some FieldType.boolean) (by decide) (Nat.le_of_ble_eq_true rfl) ?_
  intro p e s m args below meth c A ls fx hret hlk hin hE hP hD hS hA hl
  have hx := fx.1
  have hb := fx.2.1
  have hown : s.vm.findClass RSt = some m.cls := fx.2.2.2.1
  have hts := fx.2.2.2.2
  have ht : ∀ w ∈ tb_, w.before args s = true := fun w h => hts w (List.mem_cons_of_mem _ h)
  have b1 := ds_lt ac sn
  have hl : lv_has ls 1 [(0, .ref h)] := hl
  refine lv_aload_n hx hb dSt_waitsForAnswer_0 rfl (lv_at hl 0 rfl) ?_
  refine va_get (D := D) (ci := 2) (v := .int (nI lk)) (C := RSt) (T := TSt) (N := 10) hx hb ht inSt hown hE.1 hP 0 rfl rfl 4 (by decide) (ht _ tw_95) (fun _ h => h) rfl dSt_waitsForAnswer_1 ?_
  refine lv_iconst (v := nI 1) hx hb dSt_waitsForAnswer_4 (by decide) ?_
  refine k_icmp_eq (tgt := 23) hx hb (by omega) (by omega) dSt_waitsForAnswer_5 rfl (fun h5 => ?_) (fun h5 => ?_)
  · refine lv_iconst (v := nI 1) hx hb dSt_waitsForAnswer_23 (by decide) ?_
    refine lv_goto (tgt := 28) hx hb dSt_waitsForAnswer_24 rfl ?_
    exact Co.retz hx hb hret hlk (by first | rfl | decide) dSt_waitsForAnswer_28 hS hP hD () (by rw [if_pos (by omega)]) trivial rfl (Nat.le_of_ble_eq_true rfl) (Nat.le_of_ble_eq_true rfl)
  · refine lv_aload_n hx hb dSt_waitsForAnswer_8 rfl (lv_at hl 0 rfl) ?_
    refine va_get (D := D) (ci := 2) (v := .int (nI lk)) (C := RSt) (T := TSt) (N := 10) hx hb ht inSt hown hE.1 hP 0 rfl rfl 4 (by decide) (ht _ tw_95) (fun _ h => h) rfl dSt_waitsForAnswer_9 ?_
    refine lv_iconst (v := nI 2) hx hb dSt_waitsForAnswer_12 (by decide) ?_
    refine k_icmp_ne (tgt := 27) hx hb (by omega) (by omega) dSt_waitsForAnswer_13 rfl (fun h13 => ?_) (fun h13 => ?_)
    · refine lv_iconst (v := nI 0) hx hb dSt_waitsForAnswer_27 (by decide) ?_
      exact Co.retz hx hb hret hlk (by first | rfl | decide) dSt_waitsForAnswer_28 hS hP hD () (by rw [if_neg (by omega)]) trivial rfl (Nat.le_of_ble_eq_true rfl) (Nat.le_of_ble_eq_true rfl)
    · refine lv_aload_n hx hb dSt_waitsForAnswer_16 rfl (lv_at hl 0 rfl) ?_
      refine kI (rV fx (c_St_unconfirmed l D ca h ln pe ou cs lk sn ac ex tr rj (by omega) (by omega)) ⟨callB_of 0 hts (tb_gi tw_250) rfl rfl rfl (ht _ tw_3) (ht _ tw_247) (by decide +kernel) ⟨(Nat.le_of_ble_eq_true rfl), (Nat.le_of_ble_eq_true rfl)⟩, ht _ tw_249, ht _ tw_830⟩ hE hP hD 0 rfl rfl rfl [0] rfl rfl rfl hl.1 rfl (Nat.le_of_ble_eq_true rfl) dSt_waitsForAnswer_17 ⟨(Nat.le_of_ble_eq_true rfl), (Nat.le_of_ble_eq_true rfl)⟩) hP hD hS hA [0] [] rfl rfl rfl (by decide) (fun _ H locs _ hP hD hS => ?_)
      have hP : va_P D cls_ [(h, .inr (2, [.ref ln, .ref pe, .ref ou, .ref cs, .int (nI lk), .int (nI sn), .int (nI ac), .int (nI ex), .int (nI tr), .int (nI rj)]))] H := hP
      have hD : va_D A [(h, .inr (2, [.ref ln, .ref pe, .ref ou, .ref cs, .int (nI lk), .int (nI sn), .int (nI ac), .int (nI ex), .int (nI tr), .int (nI rj)]))] := hD
      refine k_if_le (tgt := 27) hx hb (by omega) dSt_waitsForAnswer_20 rfl (fun h20 => ?_) (fun h20 => ?_)
      · refine lv_iconst (v := nI 0) hx hb dSt_waitsForAnswer_27 (by decide) ?_
        exact Co.retz hx hb hret hlk (by first | rfl | decide) dSt_waitsForAnswer_28 hS hP hD () (by rw [if_neg (by omega)]) trivial rfl (Nat.le_of_ble_eq_true rfl) (Nat.le_of_ble_eq_true rfl)
      · refine lv_iconst (v := nI 1) hx hb dSt_waitsForAnswer_23 (by decide) ?_
        refine lv_goto (tgt := 28) hx hb dSt_waitsForAnswer_24 rfl ?_
        exact Co.retz hx hb hret hlk (by first | rfl | decide) dSt_waitsForAnswer_28 hS hP hD () (by rw [if_pos (by omega)]) trivial rfl (Nat.le_of_ble_eq_true rfl) (Nat.le_of_ble_eq_true rfl)
set_option maxHeartbeats 4000000 in
set_option maxRecDepth 100000 in
theorem c_St_takesCalls (l : Launch) (D : va_G) (ca : Nat → ClassId) (h ln pe ou cs lk sn ac ex tr rj : Nat) (oua : Nat) (O : Rw_) (hlk2 : lk < 3) (hO1 : O.2 ≤ 16) : Co (S := Unit) l ySt_takesCalls (Cond.code ySt_takesCalls cSt_takesCalls 1 (some FieldType.boolean) :: tb_) { frames := 0, cells := 0, slots := 0, locals := 0 } D ca [.ref h] [(h, .inr (2, [.ref ln, .ref pe, .ref ou, .ref cs, .int (nI lk), .int (nI sn), .int (nI ac), .int (nI ex), .int (nI tr), .int (nI rj)])), (ou, .inr (0, [.ref oua, .int (nI O.2)])), (oua, .inl (ca 0, 16, .inl (fun j => nI (O.1 j))))] (fun _ => some (.int (nI (if lk = 2 ∧ O.2 ≤ 9 then 1 else 0)))) (fun _ => True) (fun _ => [(h, .inr (2, [.ref ln, .ref pe, .ref ou, .ref cs, .int (nI lk), .int (nI sn), .int (nI ac), .int (nI ex), .int (nI tr), .int (nI rj)])), (ou, .inr (0, [.ref oua, .int (nI O.2)])), (oua, .inl (ca 0, 16, .inl (fun j => nI (O.1 j))))]) 0 0 := by
  refine Co.of cSt_takesCalls 1 (some FieldType.boolean) (by decide) (Nat.le_of_ble_eq_true rfl) ?_
  intro p e s m args below meth c A ls fx hret hlk hin hE hP hD hS hA hl
  have hx := fx.1
  have hb := fx.2.1
  have hown : s.vm.findClass RSt = some m.cls := fx.2.2.2.1
  have hts := fx.2.2.2.2
  have ht : ∀ w ∈ tb_, w.before args s = true := fun w h => hts w (List.mem_cons_of_mem _ h)
  have hl : lv_has ls 1 [(0, .ref h)] := hl
  refine lv_aload_n hx hb dSt_takesCalls_0 rfl (lv_at hl 0 rfl) ?_
  refine va_get (D := D) (ci := 2) (v := .int (nI lk)) (C := RSt) (T := TSt) (N := 10) hx hb ht inSt hown hE.1 hP 0 rfl rfl 4 (by decide) (ht _ tw_95) (fun _ h => h) rfl dSt_takesCalls_1 ?_
  refine lv_iconst (v := nI 2) hx hb dSt_takesCalls_4 (by decide) ?_
  refine k_icmp_ne (tgt := 24) hx hb (by omega) (by omega) dSt_takesCalls_5 rfl (fun h5 => ?_) (fun h5 => ?_)
  · refine lv_iconst (v := nI 0) hx hb dSt_takesCalls_24 (by decide) ?_
    exact Co.retz hx hb hret hlk (by first | rfl | decide) dSt_takesCalls_25 hS hP hD () (by rw [if_neg (by omega)]) trivial rfl (Nat.le_of_ble_eq_true rfl) (Nat.le_of_ble_eq_true rfl)
  · refine lv_aload_n hx hb dSt_takesCalls_8 rfl (lv_at hl 0 rfl) ?_
    refine va_get (D := D) (ci := 2) (v := .ref ou) (C := RSt) (T := TSt) (N := 10) hx hb ht inSt hown hE.1 hP 0 rfl rfl 2 (by decide) (ht _ tw_91) (fun _ h => h) rfl dSt_takesCalls_9 ?_
    refine va_getN (D := D) (ci := 0) (v := .int (nI O.2)) (host := "ChannelledLink") (C := RRw) (T := TRw) (N := 2) hx hb ht inRw hown hE.1 hP 1 rfl rfl 1 (by decide) (hE.nestU tw_34 rfl) (fun _ h => h) rfl dSt_takesCalls_12 ?_
    refine lv_bipush (v := nI 9) hx hb dSt_takesCalls_15 (by decide) ?_
    refine k_icmp_gt (tgt := 24) hx hb (by omega) (by omega) dSt_takesCalls_17 rfl (fun h17 => ?_) (fun h17 => ?_)
    · refine lv_iconst (v := nI 0) hx hb dSt_takesCalls_24 (by decide) ?_
      exact Co.retz hx hb hret hlk (by first | rfl | decide) dSt_takesCalls_25 hS hP hD () (by rw [if_neg (by omega)]) trivial rfl (Nat.le_of_ble_eq_true rfl) (Nat.le_of_ble_eq_true rfl)
    · refine lv_iconst (v := nI 1) hx hb dSt_takesCalls_20 (by decide) ?_
      refine lv_goto (tgt := 25) hx hb dSt_takesCalls_21 rfl ?_
      exact Co.retz hx hb hret hlk (by first | rfl | decide) dSt_takesCalls_25 hS hP hD () (by rw [if_pos (by omega)]) trivial rfl (Nat.le_of_ble_eq_true rfl) (Nat.le_of_ble_eq_true rfl)
set_option maxHeartbeats 4000000 in
set_option maxRecDepth 100000 in
theorem c_St_sendUnnumbered (l : Launch) (D : va_G) (ca : Nat → ClassId) (h ln pe ou cs lk sn ac ex tr rj : Nat) (pea : Nat) (P : Rw_) (kd : Nat) (hkd : kd < 8) (hP1 : P.2 ≤ 12) : Co (S := Unit) l ySt_sendUnnumbered (Cond.code ySt_sendUnnumbered cSt_sendUnnumbered 2 none :: tb_) { frames := 1, cells := 0, slots := 0, locals := 32 } D ca [.ref h, .int (nI kd)] [(h, .inr (2, [.ref ln, .ref pe, .ref ou, .ref cs, .int (nI lk), .int (nI sn), .int (nI ac), .int (nI ex), .int (nI tr), .int (nI rj)])), (pe, .inr (0, [.ref pea, .int (nI P.2)])), (pea, .inl (ca 0, 12, .inl (fun j => nI (P.1 j))))] (fun _ => none) (fun _ => True) (fun _ => [(h, .inr (2, [.ref ln, .ref pe, .ref ou, .ref cs, .int (nI lk), .int (nI sn), .int (nI ac), .int (nI ex), .int (nI tr), .int (nI rj)])), (pe, .inr (0, [.ref pea, .int (nI ((rAdd 12 P (fr4 kd 0 0 0)).2))])), (pea, .inl (ca 0, 12, .inl (fun j => nI (((rAdd 12 P (fr4 kd 0 0 0)).1) j))))]) 0 0 := by
  refine Co.of cSt_sendUnnumbered 2 none (by decide) (Nat.le_of_ble_eq_true rfl) ?_
  intro p e s m args below meth c A ls fx hret hlk hin hE hP hD hS hA hl
  have hx := fx.1
  have hb := fx.2.1
  have hown : s.vm.findClass RSt = some m.cls := fx.2.2.2.1
  have hts := fx.2.2.2.2
  have ht : ∀ w ∈ tb_, w.before args s = true := fun w h => hts w (List.mem_cons_of_mem _ h)
  have hl : lv_has ls 2 [(0, .ref h), (1, .int (nI kd))] := hl
  refine lv_aload_n hx hb dSt_sendUnnumbered_0 rfl (lv_at hl 0 rfl) ?_
  refine va_get (D := D) (ci := 2) (v := .ref pe) (C := RSt) (T := TSt) (N := 10) hx hb ht inSt hown hE.1 hP 0 rfl rfl 1 (by decide) (ht _ tw_90) (fun _ h => h) rfl dSt_sendUnnumbered_1 ?_
  refine lv_iload_n hx hb dSt_sendUnnumbered_4 rfl (lv_at hl 1 rfl) ?_
  refine lv_iconst (v := nI 0) hx hb dSt_sendUnnumbered_5 (by decide) ?_
  refine lv_iconst (v := nI 0) hx hb dSt_sendUnnumbered_6 (by decide) ?_
  refine lv_iconst (v := nI 0) hx hb dSt_sendUnnumbered_7 (by decide) ?_
  refine kI (rSN fx (c_Fr_of l D ca kd 0 0 0 (by omega) (by omega) (by omega) (by first | omega | (apply hOk; omega))) ⟨va_cnB 4 hts (tb_gi tw_230) rfl rfl rfl (hE.nest tw_228 rfl) (ht _ tw_10) (by decide +kernel) ⟨(Nat.le_of_ble_eq_true rfl), (Nat.le_of_ble_eq_true rfl)⟩, ht _ tw_229, trivial⟩ hE hP hD [] rfl rfl rfl hl.1 rfl (Nat.le_of_ble_eq_true rfl) dSt_sendUnnumbered_8 ⟨(Nat.le_of_ble_eq_true rfl), (Nat.le_of_ble_eq_true rfl)⟩) hP hD hS hA [] [0, 1, 2] rfl rfl rfl (by decide) (fun _ H locs _ hP hD hS => ?_)
  have hP : va_P D cls_ [(h, .inr (2, [.ref ln, .ref pe, .ref ou, .ref cs, .int (nI lk), .int (nI sn), .int (nI ac), .int (nI ex), .int (nI tr), .int (nI rj)])), (pe, .inr (0, [.ref pea, .int (nI P.2)])), (pea, .inl (ca 0, 12, .inl (fun j => nI (P.1 j))))] H := hP
  have hD : va_D A [(h, .inr (2, [.ref ln, .ref pe, .ref ou, .ref cs, .int (nI lk), .int (nI sn), .int (nI ac), .int (nI ex), .int (nI tr), .int (nI rj)])), (pe, .inr (0, [.ref pea, .int (nI P.2)])), (pea, .inl (ca 0, 12, .inl (fun j => nI (P.1 j))))] := hD
  refine kV (rV fx (c_Rw_add l D ca pe pea 12 P (fr4 kd 0 0 0) (by decide) (by first | assumption | exact rAdd_le (by assumption) | omega)) ⟨callB_of 1 hts (tb_gi tw_234) rfl rfl rfl (ht _ tw_2) (ht _ tw_231) (by decide +kernel) ⟨(Nat.le_of_ble_eq_true rfl), (Nat.le_of_ble_eq_true rfl)⟩, ht _ tw_232, ht _ tw_233⟩ hE hP hD 1 rfl rfl rfl [1, 2] rfl rfl rfl hl.1 rfl (Nat.le_of_ble_eq_true rfl) dSt_sendUnnumbered_11 ⟨(Nat.le_of_ble_eq_true rfl), (Nat.le_of_ble_eq_true rfl)⟩) hP hD hS hA [1, 2] [0] rfl rfl rfl (by decide) (fun _ H locs _ hP hD hS => ?_)
  have hP : va_P D cls_ [(h, .inr (2, [.ref ln, .ref pe, .ref ou, .ref cs, .int (nI lk), .int (nI sn), .int (nI ac), .int (nI ex), .int (nI tr), .int (nI rj)])), (pe, .inr (0, [.ref pea, .int (nI ((rAdd 12 P (fr4 kd 0 0 0)).2))])), (pea, .inl (ca 0, 12, .inl (fun j => nI (((rAdd 12 P (fr4 kd 0 0 0)).1) j))))] H := hP
  have hD : va_D A [(h, .inr (2, [.ref ln, .ref pe, .ref ou, .ref cs, .int (nI lk), .int (nI sn), .int (nI ac), .int (nI ex), .int (nI tr), .int (nI rj)])), (pe, .inr (0, [.ref pea, .int (nI ((rAdd 12 P (fr4 kd 0 0 0)).2))])), (pea, .inl (ca 0, 12, .inl (fun j => nI (((rAdd 12 P (fr4 kd 0 0 0)).1) j))))] := hD
  exact Co.retv hx hb hret hlk dSt_sendUnnumbered_14 hS hP hD () rfl trivial rfl (Nat.le_of_ble_eq_true rfl) (Nat.le_of_ble_eq_true rfl)
set_option maxHeartbeats 4000000 in
set_option maxRecDepth 100000 in
theorem c_St_sendAcknowledging (l : Launch) (D : va_G) (ca : Nat → ClassId) (h ln pe ou cs lk sn ac ex tr rj : Nat) (pea : Nat) (P : Rw_) (kd : Nat) (hkd : kd < 8) (hex : ex < 8) (hP1 : P.2 ≤ 12) : Co (S := Unit) l ySt_sendAcknowledging (Cond.code ySt_sendAcknowledging cSt_sendAcknowledging 2 none :: tb_) { frames := 1, cells := 0, slots := 0, locals := 32 } D ca [.ref h, .int (nI kd)] [(h, .inr (2, [.ref ln, .ref pe, .ref ou, .ref cs, .int (nI lk), .int (nI sn), .int (nI ac), .int (nI ex), .int (nI tr), .int (nI rj)])), (pe, .inr (0, [.ref pea, .int (nI P.2)])), (pea, .inl (ca 0, 12, .inl (fun j => nI (P.1 j))))] (fun _ => none) (fun _ => True) (fun _ => [(h, .inr (2, [.ref ln, .ref pe, .ref ou, .ref cs, .int (nI lk), .int (nI sn), .int (nI ac), .int (nI ex), .int (nI tr), .int (nI rj)])), (pe, .inr (0, [.ref pea, .int (nI ((rAdd 12 P (fr4 kd 0 ex 0)).2))])), (pea, .inl (ca 0, 12, .inl (fun j => nI (((rAdd 12 P (fr4 kd 0 ex 0)).1) j))))]) 0 0 := by
  refine Co.of cSt_sendAcknowledging 2 none (by decide) (Nat.le_of_ble_eq_true rfl) ?_
  intro p e s m args below meth c A ls fx hret hlk hin hE hP hD hS hA hl
  have hx := fx.1
  have hb := fx.2.1
  have hown : s.vm.findClass RSt = some m.cls := fx.2.2.2.1
  have hts := fx.2.2.2.2
  have ht : ∀ w ∈ tb_, w.before args s = true := fun w h => hts w (List.mem_cons_of_mem _ h)
  have hl : lv_has ls 2 [(0, .ref h), (1, .int (nI kd))] := hl
  refine lv_aload_n hx hb dSt_sendAcknowledging_0 rfl (lv_at hl 0 rfl) ?_
  refine va_get (D := D) (ci := 2) (v := .ref pe) (C := RSt) (T := TSt) (N := 10) hx hb ht inSt hown hE.1 hP 0 rfl rfl 1 (by decide) (ht _ tw_90) (fun _ h => h) rfl dSt_sendAcknowledging_1 ?_
  refine lv_iload_n hx hb dSt_sendAcknowledging_4 rfl (lv_at hl 1 rfl) ?_
  refine lv_iconst (v := nI 0) hx hb dSt_sendAcknowledging_5 (by decide) ?_
  refine lv_aload_n hx hb dSt_sendAcknowledging_6 rfl (lv_at hl 0 rfl) ?_
  refine va_get (D := D) (ci := 2) (v := .int (nI ex)) (C := RSt) (T := TSt) (N := 10) hx hb ht inSt hown hE.1 hP 0 rfl rfl 7 (by decide) (ht _ tw_101) (fun _ h => h) rfl dSt_sendAcknowledging_7 ?_
  refine lv_iconst (v := nI 0) hx hb dSt_sendAcknowledging_10 (by decide) ?_
  refine kI (rSN fx (c_Fr_of l D ca kd 0 ex 0 (by omega) (by omega) (by omega) (by first | omega | (apply hOk; omega))) ⟨va_cnB 4 hts (tb_gi tw_230) rfl rfl rfl (hE.nest tw_228 rfl) (ht _ tw_10) (by decide +kernel) ⟨(Nat.le_of_ble_eq_true rfl), (Nat.le_of_ble_eq_true rfl)⟩, ht _ tw_229, trivial⟩ hE hP hD [] rfl rfl rfl hl.1 rfl (Nat.le_of_ble_eq_true rfl) dSt_sendAcknowledging_11 ⟨(Nat.le_of_ble_eq_true rfl), (Nat.le_of_ble_eq_true rfl)⟩) hP hD hS hA [] [0, 1, 2] rfl rfl rfl (by decide) (fun _ H locs _ hP hD hS => ?_)
  have hP : va_P D cls_ [(h, .inr (2, [.ref ln, .ref pe, .ref ou, .ref cs, .int (nI lk), .int (nI sn), .int (nI ac), .int (nI ex), .int (nI tr), .int (nI rj)])), (pe, .inr (0, [.ref pea, .int (nI P.2)])), (pea, .inl (ca 0, 12, .inl (fun j => nI (P.1 j))))] H := hP
  have hD : va_D A [(h, .inr (2, [.ref ln, .ref pe, .ref ou, .ref cs, .int (nI lk), .int (nI sn), .int (nI ac), .int (nI ex), .int (nI tr), .int (nI rj)])), (pe, .inr (0, [.ref pea, .int (nI P.2)])), (pea, .inl (ca 0, 12, .inl (fun j => nI (P.1 j))))] := hD
  refine kV (rV fx (c_Rw_add l D ca pe pea 12 P (fr4 kd 0 ex 0) (by decide) (by first | assumption | exact rAdd_le (by assumption) | omega)) ⟨callB_of 1 hts (tb_gi tw_234) rfl rfl rfl (ht _ tw_2) (ht _ tw_231) (by decide +kernel) ⟨(Nat.le_of_ble_eq_true rfl), (Nat.le_of_ble_eq_true rfl)⟩, ht _ tw_232, ht _ tw_233⟩ hE hP hD 1 rfl rfl rfl [1, 2] rfl rfl rfl hl.1 rfl (Nat.le_of_ble_eq_true rfl) dSt_sendAcknowledging_14 ⟨(Nat.le_of_ble_eq_true rfl), (Nat.le_of_ble_eq_true rfl)⟩) hP hD hS hA [1, 2] [0] rfl rfl rfl (by decide) (fun _ H locs _ hP hD hS => ?_)
  have hP : va_P D cls_ [(h, .inr (2, [.ref ln, .ref pe, .ref ou, .ref cs, .int (nI lk), .int (nI sn), .int (nI ac), .int (nI ex), .int (nI tr), .int (nI rj)])), (pe, .inr (0, [.ref pea, .int (nI ((rAdd 12 P (fr4 kd 0 ex 0)).2))])), (pea, .inl (ca 0, 12, .inl (fun j => nI (((rAdd 12 P (fr4 kd 0 ex 0)).1) j))))] H := hP
  have hD : va_D A [(h, .inr (2, [.ref ln, .ref pe, .ref ou, .ref cs, .int (nI lk), .int (nI sn), .int (nI ac), .int (nI ex), .int (nI tr), .int (nI rj)])), (pe, .inr (0, [.ref pea, .int (nI ((rAdd 12 P (fr4 kd 0 ex 0)).2))])), (pea, .inl (ca 0, 12, .inl (fun j => nI (((rAdd 12 P (fr4 kd 0 ex 0)).1) j))))] := hD
  exact Co.retv hx hb hret hlk dSt_sendAcknowledging_17 hS hP hD () rfl trivial rfl (Nat.le_of_ble_eq_true rfl) (Nat.le_of_ble_eq_true rfl)
set_option maxHeartbeats 4000000 in
set_option maxRecDepth 100000 in
theorem c_St_pump (l : Launch) (D : va_G) (ca : Nat → ClassId) (h ln pe ou cs lk sn ac ex tr rj : Nat) (pea oua : Nat) (O P : Rw_) (P1 : Rw_) (s1 : Nat) (hlk2 : lk < 3) (hsn : sn < 8) (hac : ac < 8) (hex : ex < 8) (hO : oOk O) (hP1 : P.2 ≤ 12) (hres : cPump lk sn ac ex O P = (P1, s1)) : Co (S := Unit) l ySt_pump (Cond.code ySt_pump cSt_pump 3 none :: tb_) { frames := 1, cells := 0, slots := 0, locals := 32 } D ca [.ref h] [(h, .inr (2, [.ref ln, .ref pe, .ref ou, .ref cs, .int (nI lk), .int (nI sn), .int (nI ac), .int (nI ex), .int (nI tr), .int (nI rj)])), (pe, .inr (0, [.ref pea, .int (nI P.2)])), (pea, .inl (ca 0, 12, .inl (fun j => nI (P.1 j)))), (ou, .inr (0, [.ref oua, .int (nI O.2)])), (oua, .inl (ca 0, 16, .inl (fun j => nI (O.1 j))))] (fun _ => none) (fun _ => True) (fun _ => [(h, .inr (2, [.ref ln, .ref pe, .ref ou, .ref cs, .int (nI lk), .int (nI s1), .int (nI ac), .int (nI ex), .int (nI tr), .int (nI rj)])), (pe, .inr (0, [.ref pea, .int (nI P1.2)])), (pea, .inl (ca 0, 12, .inl (fun j => nI (P1.1 j)))), (ou, .inr (0, [.ref oua, .int (nI O.2)])), (oua, .inl (ca 0, 16, .inl (fun j => nI (O.1 j))))]) 0 0 := by
  refine Co.of cSt_pump 3 none (by decide) (Nat.le_of_ble_eq_true rfl) ?_
  intro p e s m args below meth c A ls fx hret hlk hin hE hP hD hS hA hl
  have hx := fx.1
  have hb := fx.2.1
  have hown : s.vm.findClass RSt = some m.cls := fx.2.2.2.1
  have hts := fx.2.2.2.2
  have ht : ∀ w ∈ tb_, w.before args s = true := fun w h => hts w (List.mem_cons_of_mem _ h)
  have hO1 := hO.1
  have b1 := ds_lt ac sn
  have hl : lv_has ls 3 [(0, .ref h)] := hl
  refine lv_aload_n hx hb dSt_pump_0 rfl (lv_at hl 0 rfl) ?_
  refine va_get (D := D) (ci := 2) (v := .int (nI lk)) (C := RSt) (T := TSt) (N := 10) hx hb ht inSt hown hE.1 hP 0 rfl rfl 4 (by decide) (ht _ tw_95) (fun _ h => h) rfl dSt_pump_1 ?_
  refine lv_iconst (v := nI 2) hx hb dSt_pump_4 (by decide) ?_
  refine k_icmp_ne (tgt := 22) hx hb (by omega) (by omega) dSt_pump_5 rfl (fun h5 => ?_) (fun h5 => ?_)
  · refine lv_iconst (v := nI 0) hx hb dSt_pump_22 (by decide) ?_
    refine lv_istore_n hx hb dSt_pump_23 rfl hl (by decide) rfl (fun ls hl => ?_)
    have hl : lv_has ls 3 [(1, .int (nI 0)), (0, .ref h)] := hl
    refine lv_aload_n hx hb dSt_pump_24 rfl (lv_at hl 1 rfl) ?_
    refine kI (rV fx (c_St_unconfirmed l D ca h ln pe ou cs lk sn ac ex tr rj (by omega) (by omega)) ⟨callB_of 0 hts (tb_gi tw_250) rfl rfl rfl (ht _ tw_3) (ht _ tw_247) (by decide +kernel) ⟨(Nat.le_of_ble_eq_true rfl), (Nat.le_of_ble_eq_true rfl)⟩, ht _ tw_249, ht _ tw_830⟩ hE hP hD 0 rfl rfl rfl [0] rfl rfl rfl hl.1 rfl (Nat.le_of_ble_eq_true rfl) dSt_pump_25 ⟨(Nat.le_of_ble_eq_true rfl), (Nat.le_of_ble_eq_true rfl)⟩) hP hD hS hA [0] [1, 2, 3, 4] rfl rfl rfl (by decide) (fun _ H locs _ hP hD hS => ?_)
    have hP : va_P D cls_ [(pe, .inr (0, [.ref pea, .int (nI P.2)])), (pea, .inl (ca 0, 12, .inl (fun j => nI (P.1 j)))), (ou, .inr (0, [.ref oua, .int (nI O.2)])), (oua, .inl (ca 0, 16, .inl (fun j => nI (O.1 j)))), (h, .inr (2, [.ref ln, .ref pe, .ref ou, .ref cs, .int (nI lk), .int (nI sn), .int (nI ac), .int (nI ex), .int (nI tr), .int (nI rj)]))] H := hP
    have hD : va_D A [(pe, .inr (0, [.ref pea, .int (nI P.2)])), (pea, .inl (ca 0, 12, .inl (fun j => nI (P.1 j)))), (ou, .inr (0, [.ref oua, .int (nI O.2)])), (oua, .inl (ca 0, 16, .inl (fun j => nI (O.1 j)))), (h, .inr (2, [.ref ln, .ref pe, .ref ou, .ref cs, .int (nI lk), .int (nI sn), .int (nI ac), .int (nI ex), .int (nI tr), .int (nI rj)]))] := hD
    refine lv_istore_n hx hb dSt_pump_28 rfl hl (by decide) rfl (fun ls hl => ?_)
    have hl : lv_has ls 3 [(2, .int (nI (ds ac sn))), (1, .int (nI 0)), (0, .ref h)] := hl
    have hP : va_P D cls_ [(h, .inr (2, [.ref ln, .ref pe, .ref ou, .ref cs, .int (nI lk), .int (nI sn), .int (nI ac), .int (nI ex), .int (nI tr), .int (nI rj)])), (pe, .inr (0, [.ref pea, .int (nI P.2)])), (pea, .inl (ca 0, 12, .inl (fun j => nI (P.1 j)))), (ou, .inr (0, [.ref oua, .int (nI O.2)])), (oua, .inl (ca 0, 16, .inl (fun j => nI (O.1 j))))] H := hP.sub [4, 0, 1, 2, 3] rfl
    have hD : va_D A [(h, .inr (2, [.ref ln, .ref pe, .ref ou, .ref cs, .int (nI lk), .int (nI sn), .int (nI ac), .int (nI ex), .int (nI tr), .int (nI rj)])), (pe, .inr (0, [.ref pea, .int (nI P.2)])), (pea, .inl (ca 0, 12, .inl (fun j => nI (P.1 j)))), (ou, .inr (0, [.ref oua, .int (nI O.2)])), (oua, .inl (ca 0, 16, .inl (fun j => nI (O.1 j))))] := hD.sub [4, 0, 1, 2, 3] rfl rfl
    have hgo : pumpR ex O (0 - ds ac sn) P sn (ds ac sn) = (P1, s1) := by rw [← hres, cPump, pumpN, if_neg (by omega)]
    obtain ⟨en, hen⟩ : ∃ en, en = 0 := ⟨_, rfl⟩
    rw [← hen] at hgo
    have hl : lv_has ls 3 [(2, .int (nI (ds ac sn))), (1, .int (nI en)), (0, .ref h)] := by rw [hen]; exact lv_sub hl [0, 1, 2] rfl
    have hen2 : en ≤ 3 := by omega
    have hen3 : en ≤ O.2 := by omega
    have loop : ∀ (n sn pl : Nat) (P : Rw_) (H : Heap) (locs : List Loc) (ls : Array Slot), sn < 8 → P.2 ≤ 12 → (pl + n = en ∨ (n = 0 ∧ en ≤ pl)) → pl < 100 → pumpR ex O n P sn pl = (P1, s1) → va_P D cls_ [(h, .inr (2, [.ref ln, .ref pe, .ref ou, .ref cs, .int (nI lk), .int (nI sn), .int (nI ac), .int (nI ex), .int (nI tr), .int (nI rj)])), (pe, .inr (0, [.ref pea, .int (nI P.2)])), (pea, .inl (ca 0, 12, .inl (fun j => nI (P.1 j)))), (ou, .inr (0, [.ref oua, .int (nI O.2)])), (oua, .inl (ca 0, 16, .inl (fun j => nI (O.1 j))))] H → va_D A [(h, .inr (2, [.ref ln, .ref pe, .ref ou, .ref cs, .int (nI lk), .int (nI sn), .int (nI ac), .int (nI ex), .int (nI tr), .int (nI rj)])), (pe, .inr (0, [.ref pea, .int (nI P.2)])), (pea, .inl (ca 0, 12, .inl (fun j => nI (P.1 j)))), (ou, .inr (0, [.ref oua, .int (nI O.2)])), (oua, .inl (ca 0, 16, .inl (fun j => nI (O.1 j))))] → va_S A s.heap H locs → lv_has ls 3 [(2, .int (nI pl)), (1, .int (nI en)), (0, .ref h)] → W p l e ({ frames := 1, cells := 0, slots := 0, locals := 32 } : Room) s m args below meth c H locs 0 0 (MQ below (CoQ D (fun _ : Unit => none) (fun _ => True) (fun _ => [(h, .inr (2, [.ref ln, .ref pe, .ref ou, .ref cs, .int (nI lk), .int (nI s1), .int (nI ac), .int (nI ex), .int (nI tr), .int (nI rj)])), (pe, .inr (0, [.ref pea, .int (nI P1.2)])), (pea, .inl (ca 0, 12, .inl (fun j => nI (P1.1 j)))), (ou, .inr (0, [.ref oua, .int (nI O.2)])), (oua, .inl (ca 0, 16, .inl (fun j => nI (O.1 j))))]) A) args s 0 0 A) (F0 m 29 ls []) := by
      intro n
      induction n with
      | zero =>
        intro sn pl P H locs ls hsn hP1 hpn hp9 hgo hP hD hS hl
        refine lv_iload_n hx hb dSt_pump_29 rfl (lv_at hl 0 rfl) ?_
        refine lv_iload_n hx hb dSt_pump_30 rfl (lv_at hl 1 rfl) ?_
        refine k_icmp_ge (tgt := 78) hx hb (by omega) (by omega) dSt_pump_31 rfl (fun h31 => ?_) (fun hz => absurd hz (by omega))
        obtain ⟨rfl, rfl⟩ : P = P1 ∧ sn = s1 := by simpa [pumpR] using hgo
        exact Co.retv hx hb hret hlk dSt_pump_78 hS hP hD () rfl trivial rfl (Nat.le_of_ble_eq_true rfl) (Nat.le_of_ble_eq_true rfl)
      | succ n ih =>
        intro sn pl P H locs ls hsn hP1 hpn hp9 hgo hP hD hS hl
        refine lv_iload_n hx hb dSt_pump_29 rfl (lv_at hl 0 rfl) ?_
        refine lv_iload_n hx hb dSt_pump_30 rfl (lv_at hl 1 rfl) ?_
        refine k_icmp_ge (tgt := 78) hx hb (by omega) (by omega) dSt_pump_31 rfl (fun hz => absurd hz (by omega)) (fun h31 => ?_)
        refine lv_aload_n hx hb dSt_pump_34 rfl (lv_at hl 2 rfl) ?_
        refine va_get (D := D) (ci := 2) (v := .ref pe) (C := RSt) (T := TSt) (N := 10) hx hb ht inSt hown hE.1 hP 0 rfl rfl 1 (by decide) (ht _ tw_90) (fun _ h => h) rfl dSt_pump_35 ?_
        refine lv_iconst (v := nI 3) hx hb dSt_pump_38 (by decide) ?_
        refine lv_aload_n hx hb dSt_pump_39 rfl (lv_at hl 2 rfl) ?_
        refine va_get (D := D) (ci := 2) (v := .int (nI sn)) (C := RSt) (T := TSt) (N := 10) hx hb ht inSt hown hE.1 hP 0 rfl rfl 5 (by decide) (ht _ tw_97) (fun _ h => h) rfl dSt_pump_40 ?_
        refine lv_aload_n hx hb dSt_pump_43 rfl (lv_at hl 2 rfl) ?_
        refine va_get (D := D) (ci := 2) (v := .int (nI ex)) (C := RSt) (T := TSt) (N := 10) hx hb ht inSt hown hE.1 hP 0 rfl rfl 7 (by decide) (ht _ tw_101) (fun _ h => h) rfl dSt_pump_44 ?_
        refine lv_aload_n hx hb dSt_pump_47 rfl (lv_at hl 2 rfl) ?_
        refine va_get (D := D) (ci := 2) (v := .ref ou) (C := RSt) (T := TSt) (N := 10) hx hb ht inSt hown hE.1 hP 0 rfl rfl 2 (by decide) (ht _ tw_91) (fun _ h => h) rfl dSt_pump_48 ?_
        refine lv_iload_n hx hb dSt_pump_51 rfl (lv_at hl 0 rfl) ?_
        refine kI (rV fx (c_Rw_at l D ca ou oua 16 O pl (by decide) (by first | assumption | exact rAdd_le (by assumption) | omega) (by first | assumption | exact rAdd_le (by assumption) | omega)) ⟨callB_of 1 hts (tb_gi tw_286) rfl rfl rfl (ht _ tw_2) (ht _ tw_283) (by decide +kernel) ⟨(Nat.le_of_ble_eq_true rfl), (Nat.le_of_ble_eq_true rfl)⟩, ht _ tw_284, ht _ tw_285⟩ hE hP hD 3 rfl rfl rfl [3, 4] rfl rfl rfl hl.1 rfl (Nat.le_of_ble_eq_true rfl) dSt_pump_52 ⟨(Nat.le_of_ble_eq_true rfl), (Nat.le_of_ble_eq_true rfl)⟩) hP hD hS hA [3, 4] [0, 1, 2] rfl rfl rfl (by decide) (fun _ H locs _ hP hD hS => ?_)
        have hP : va_P D cls_ [(h, .inr (2, [.ref ln, .ref pe, .ref ou, .ref cs, .int (nI lk), .int (nI sn), .int (nI ac), .int (nI ex), .int (nI tr), .int (nI rj)])), (pe, .inr (0, [.ref pea, .int (nI P.2)])), (pea, .inl (ca 0, 12, .inl (fun j => nI (P.1 j)))), (ou, .inr (0, [.ref oua, .int (nI O.2)])), (oua, .inl (ca 0, 16, .inl (fun j => nI (O.1 j))))] H := hP
        have hD : va_D A [(h, .inr (2, [.ref ln, .ref pe, .ref ou, .ref cs, .int (nI lk), .int (nI sn), .int (nI ac), .int (nI ex), .int (nI tr), .int (nI rj)])), (pe, .inr (0, [.ref pea, .int (nI P.2)])), (pea, .inl (ca 0, 12, .inl (fun j => nI (P.1 j)))), (ou, .inr (0, [.ref oua, .int (nI O.2)])), (oua, .inl (ca 0, 16, .inl (fun j => nI (O.1 j))))] := hD
        refine kI (rSN fx (c_Fr_of l D ca 3 sn ex (O.1 pl) (by omega) (by omega) (by omega) (hO.2 _ (by omega))) ⟨va_cnB 4 hts (tb_gi tw_230) rfl rfl rfl (hE.nest tw_228 rfl) (ht _ tw_10) (by decide +kernel) ⟨(Nat.le_of_ble_eq_true rfl), (Nat.le_of_ble_eq_true rfl)⟩, ht _ tw_229, trivial⟩ hE hP hD [] rfl rfl rfl hl.1 rfl (Nat.le_of_ble_eq_true rfl) dSt_pump_55 ⟨(Nat.le_of_ble_eq_true rfl), (Nat.le_of_ble_eq_true rfl)⟩) hP hD hS hA [] [0, 1, 2, 3, 4] rfl rfl rfl (by decide) (fun _ H locs _ hP hD hS => ?_)
        have hP : va_P D cls_ [(h, .inr (2, [.ref ln, .ref pe, .ref ou, .ref cs, .int (nI lk), .int (nI sn), .int (nI ac), .int (nI ex), .int (nI tr), .int (nI rj)])), (pe, .inr (0, [.ref pea, .int (nI P.2)])), (pea, .inl (ca 0, 12, .inl (fun j => nI (P.1 j)))), (ou, .inr (0, [.ref oua, .int (nI O.2)])), (oua, .inl (ca 0, 16, .inl (fun j => nI (O.1 j))))] H := hP
        have hD : va_D A [(h, .inr (2, [.ref ln, .ref pe, .ref ou, .ref cs, .int (nI lk), .int (nI sn), .int (nI ac), .int (nI ex), .int (nI tr), .int (nI rj)])), (pe, .inr (0, [.ref pea, .int (nI P.2)])), (pea, .inl (ca 0, 12, .inl (fun j => nI (P.1 j)))), (ou, .inr (0, [.ref oua, .int (nI O.2)])), (oua, .inl (ca 0, 16, .inl (fun j => nI (O.1 j))))] := hD
        refine kV (rV fx (c_Rw_add l D ca pe pea 12 P (fr4 3 sn ex (O.1 pl)) (by decide) (by first | assumption | exact rAdd_le (by assumption) | omega)) ⟨callB_of 1 hts (tb_gi tw_234) rfl rfl rfl (ht _ tw_2) (ht _ tw_231) (by decide +kernel) ⟨(Nat.le_of_ble_eq_true rfl), (Nat.le_of_ble_eq_true rfl)⟩, ht _ tw_232, ht _ tw_233⟩ hE hP hD 1 rfl rfl rfl [1, 2] rfl rfl rfl hl.1 rfl (Nat.le_of_ble_eq_true rfl) dSt_pump_58 ⟨(Nat.le_of_ble_eq_true rfl), (Nat.le_of_ble_eq_true rfl)⟩) hP hD hS hA [1, 2] [0, 3, 4] rfl rfl rfl (by decide) (fun _ H locs _ hP hD hS => ?_)
        have hP : va_P D cls_ [(h, .inr (2, [.ref ln, .ref pe, .ref ou, .ref cs, .int (nI lk), .int (nI sn), .int (nI ac), .int (nI ex), .int (nI tr), .int (nI rj)])), (ou, .inr (0, [.ref oua, .int (nI O.2)])), (oua, .inl (ca 0, 16, .inl (fun j => nI (O.1 j)))), (pe, .inr (0, [.ref pea, .int (nI ((rAdd 12 P (fr4 3 sn ex (O.1 pl))).2))])), (pea, .inl (ca 0, 12, .inl (fun j => nI (((rAdd 12 P (fr4 3 sn ex (O.1 pl))).1) j))))] H := hP
        have hD : va_D A [(h, .inr (2, [.ref ln, .ref pe, .ref ou, .ref cs, .int (nI lk), .int (nI sn), .int (nI ac), .int (nI ex), .int (nI tr), .int (nI rj)])), (ou, .inr (0, [.ref oua, .int (nI O.2)])), (oua, .inl (ca 0, 16, .inl (fun j => nI (O.1 j)))), (pe, .inr (0, [.ref pea, .int (nI ((rAdd 12 P (fr4 3 sn ex (O.1 pl))).2))])), (pea, .inl (ca 0, 12, .inl (fun j => nI (((rAdd 12 P (fr4 3 sn ex (O.1 pl))).1) j))))] := hD
        refine lv_aload_n hx hb dSt_pump_61 rfl (lv_at hl 2 rfl) ?_
        refine lv_aload_n hx hb dSt_pump_62 rfl (lv_at hl 2 rfl) ?_
        refine va_get (D := D) (ci := 2) (v := .int (nI sn)) (C := RSt) (T := TSt) (N := 10) hx hb ht inSt hown hE.1 hP 0 rfl rfl 5 (by decide) (ht _ tw_97) (fun _ h => h) rfl dSt_pump_63 ?_
        refine kI (rSN fx (c_Cl_after l D ca sn (by omega)) ⟨va_cnB 1 hts (tb_gi tw_289) rfl rfl rfl (hE.nest tw_287 rfl) (ht _ tw_1) (by decide +kernel) ⟨(Nat.le_of_ble_eq_true rfl), (Nat.le_of_ble_eq_true rfl)⟩, ht _ tw_288, trivial⟩ hE hP hD [] rfl rfl rfl hl.1 rfl (Nat.le_of_ble_eq_true rfl) dSt_pump_66 ⟨(Nat.le_of_ble_eq_true rfl), (Nat.le_of_ble_eq_true rfl)⟩) hP hD hS hA [] [0, 1, 2, 3, 4] rfl rfl rfl (by decide) (fun _ H locs _ hP hD hS => ?_)
        have hP : va_P D cls_ [(h, .inr (2, [.ref ln, .ref pe, .ref ou, .ref cs, .int (nI lk), .int (nI sn), .int (nI ac), .int (nI ex), .int (nI tr), .int (nI rj)])), (ou, .inr (0, [.ref oua, .int (nI O.2)])), (oua, .inl (ca 0, 16, .inl (fun j => nI (O.1 j)))), (pe, .inr (0, [.ref pea, .int (nI ((rAdd 12 P (fr4 3 sn ex (O.1 pl))).2))])), (pea, .inl (ca 0, 12, .inl (fun j => nI (((rAdd 12 P (fr4 3 sn ex (O.1 pl))).1) j))))] H := hP
        have hD : va_D A [(h, .inr (2, [.ref ln, .ref pe, .ref ou, .ref cs, .int (nI lk), .int (nI sn), .int (nI ac), .int (nI ex), .int (nI tr), .int (nI rj)])), (ou, .inr (0, [.ref oua, .int (nI O.2)])), (oua, .inl (ca 0, 16, .inl (fun j => nI (O.1 j)))), (pe, .inr (0, [.ref pea, .int (nI ((rAdd 12 P (fr4 3 sn ex (O.1 pl))).2))])), (pea, .inl (ca 0, 12, .inl (fun j => nI (((rAdd 12 P (fr4 3 sn ex (O.1 pl))).1) j))))] := hD
        refine va_put (D := D) (ci := 2) (v := .int (nI (af sn))) (ty := .int) (C := RSt) (T := TSt) (N := 10) hx hb ht inSt tySt tySt_ok nmSt hown hE.1 hP hD hS 0 rfl rfl 5 (by decide) (ht _ tw_97) (fun _ h => h) rfl (by decide +kernel) rfl rfl (Nat.le_of_ble_eq_true rfl) dSt_pump_69 (fun H locs hP hD hS => ?_)
        have hP : va_P D cls_ [(h, .inr (2, [.ref ln, .ref pe, .ref ou, .ref cs, .int (nI lk), .int (nI (af sn)), .int (nI ac), .int (nI ex), .int (nI tr), .int (nI rj)])), (ou, .inr (0, [.ref oua, .int (nI O.2)])), (oua, .inl (ca 0, 16, .inl (fun j => nI (O.1 j)))), (pe, .inr (0, [.ref pea, .int (nI ((rAdd 12 P (fr4 3 sn ex (O.1 pl))).2))])), (pea, .inl (ca 0, 12, .inl (fun j => nI (((rAdd 12 P (fr4 3 sn ex (O.1 pl))).1) j))))] H := hP
        have hD : va_D A [(h, .inr (2, [.ref ln, .ref pe, .ref ou, .ref cs, .int (nI lk), .int (nI (af sn)), .int (nI ac), .int (nI ex), .int (nI tr), .int (nI rj)])), (ou, .inr (0, [.ref oua, .int (nI O.2)])), (oua, .inl (ca 0, 16, .inl (fun j => nI (O.1 j)))), (pe, .inr (0, [.ref pea, .int (nI ((rAdd 12 P (fr4 3 sn ex (O.1 pl))).2))])), (pea, .inl (ca 0, 12, .inl (fun j => nI (((rAdd 12 P (fr4 3 sn ex (O.1 pl))).1) j))))] := hD
        refine lv_iinc (k := 0) (v := nI (pl + 1)) hx hb dSt_pump_72 hl rfl (n_inc _) (by decide) rfl (fun ls hl => ?_)
        have hl : lv_has ls 3 [(2, .int (nI (pl + 1))), (1, .int (nI en)), (0, .ref h)] := hl
        refine lv_goto (tgt := 29) hx hb dSt_pump_75 rfl ?_
        have hP : va_P D cls_ [(h, .inr (2, [.ref ln, .ref pe, .ref ou, .ref cs, .int (nI lk), .int (nI (af sn)), .int (nI ac), .int (nI ex), .int (nI tr), .int (nI rj)])), (pe, .inr (0, [.ref pea, .int (nI ((rAdd 12 P (fr4 3 sn ex (O.1 pl))).2))])), (pea, .inl (ca 0, 12, .inl (fun j => nI (((rAdd 12 P (fr4 3 sn ex (O.1 pl))).1) j)))), (ou, .inr (0, [.ref oua, .int (nI O.2)])), (oua, .inl (ca 0, 16, .inl (fun j => nI (O.1 j))))] H := hP.sub [0, 3, 4, 1, 2] rfl
        have hD : va_D A [(h, .inr (2, [.ref ln, .ref pe, .ref ou, .ref cs, .int (nI lk), .int (nI (af sn)), .int (nI ac), .int (nI ex), .int (nI tr), .int (nI rj)])), (pe, .inr (0, [.ref pea, .int (nI ((rAdd 12 P (fr4 3 sn ex (O.1 pl))).2))])), (pea, .inl (ca 0, 12, .inl (fun j => nI (((rAdd 12 P (fr4 3 sn ex (O.1 pl))).1) j)))), (ou, .inr (0, [.ref oua, .int (nI O.2)])), (oua, .inl (ca 0, 16, .inl (fun j => nI (O.1 j))))] := hD.sub [0, 3, 4, 1, 2] rfl rfl
        exact ih (af sn) (pl + 1) (rAdd 12 P (fr4 3 sn ex (O.1 pl))) H locs ls (af_lt _) (rAdd_le hP1) (by omega) (by omega) hgo hP hD hS hl
    exact loop (en - ds ac sn) sn (ds ac sn) P H locs ls hsn hP1 (by omega) (by omega) hgo hP hD hS hl
  · refine lv_aload_n hx hb dSt_pump_8 rfl (lv_at hl 0 rfl) ?_
    refine va_get (D := D) (ci := 2) (v := .ref ou) (C := RSt) (T := TSt) (N := 10) hx hb ht inSt hown hE.1 hP 0 rfl rfl 2 (by decide) (ht _ tw_91) (fun _ h => h) rfl dSt_pump_9 ?_
    refine va_getN (D := D) (ci := 0) (v := .int (nI O.2)) (host := "ChannelledLink") (C := RRw) (T := TRw) (N := 2) hx hb ht inRw hown hE.1 hP 3 rfl rfl 1 (by decide) (hE.nestU tw_34 rfl) (fun _ h => h) rfl dSt_pump_12 ?_
    refine lv_iconst (v := nI 3) hx hb dSt_pump_15 (by decide) ?_
    refine va_mmin hx hb (fx.2.2.1.trans hl.1.symm) hown (ht _ tw_437) (ht _ tw_438) (ht _ tw_15) (ht _ tw_439) (Nat.le_of_ble_eq_true rfl) (Nat.le_of_ble_eq_true rfl) (Nat.le_of_ble_eq_true rfl) (Nat.le_of_ble_eq_true rfl) dSt_pump_16 ?_
    refine k_is (y := nI (min O.2 3)) (n_min (by omega) (by omega)) ?_
    refine lv_goto (tgt := 23) hx hb dSt_pump_19 rfl ?_
    refine lv_istore_n hx hb dSt_pump_23 rfl hl (by decide) rfl (fun ls hl => ?_)
    have hl : lv_has ls 3 [(1, .int (nI (min O.2 3))), (0, .ref h)] := hl
    refine lv_aload_n hx hb dSt_pump_24 rfl (lv_at hl 1 rfl) ?_
    refine kI (rV fx (c_St_unconfirmed l D ca h ln pe ou cs lk sn ac ex tr rj (by omega) (by omega)) ⟨callB_of 0 hts (tb_gi tw_250) rfl rfl rfl (ht _ tw_3) (ht _ tw_247) (by decide +kernel) ⟨(Nat.le_of_ble_eq_true rfl), (Nat.le_of_ble_eq_true rfl)⟩, ht _ tw_249, ht _ tw_830⟩ hE hP hD 0 rfl rfl rfl [0] rfl rfl rfl hl.1 rfl (Nat.le_of_ble_eq_true rfl) dSt_pump_25 ⟨(Nat.le_of_ble_eq_true rfl), (Nat.le_of_ble_eq_true rfl)⟩) hP hD hS hA [0] [1, 2, 3, 4] rfl rfl rfl (by decide) (fun _ H locs _ hP hD hS => ?_)
    have hP : va_P D cls_ [(pe, .inr (0, [.ref pea, .int (nI P.2)])), (pea, .inl (ca 0, 12, .inl (fun j => nI (P.1 j)))), (ou, .inr (0, [.ref oua, .int (nI O.2)])), (oua, .inl (ca 0, 16, .inl (fun j => nI (O.1 j)))), (h, .inr (2, [.ref ln, .ref pe, .ref ou, .ref cs, .int (nI lk), .int (nI sn), .int (nI ac), .int (nI ex), .int (nI tr), .int (nI rj)]))] H := hP
    have hD : va_D A [(pe, .inr (0, [.ref pea, .int (nI P.2)])), (pea, .inl (ca 0, 12, .inl (fun j => nI (P.1 j)))), (ou, .inr (0, [.ref oua, .int (nI O.2)])), (oua, .inl (ca 0, 16, .inl (fun j => nI (O.1 j)))), (h, .inr (2, [.ref ln, .ref pe, .ref ou, .ref cs, .int (nI lk), .int (nI sn), .int (nI ac), .int (nI ex), .int (nI tr), .int (nI rj)]))] := hD
    refine lv_istore_n hx hb dSt_pump_28 rfl hl (by decide) rfl (fun ls hl => ?_)
    have hl : lv_has ls 3 [(2, .int (nI (ds ac sn))), (1, .int (nI (min O.2 3))), (0, .ref h)] := hl
    have hP : va_P D cls_ [(h, .inr (2, [.ref ln, .ref pe, .ref ou, .ref cs, .int (nI lk), .int (nI sn), .int (nI ac), .int (nI ex), .int (nI tr), .int (nI rj)])), (pe, .inr (0, [.ref pea, .int (nI P.2)])), (pea, .inl (ca 0, 12, .inl (fun j => nI (P.1 j)))), (ou, .inr (0, [.ref oua, .int (nI O.2)])), (oua, .inl (ca 0, 16, .inl (fun j => nI (O.1 j))))] H := hP.sub [4, 0, 1, 2, 3] rfl
    have hD : va_D A [(h, .inr (2, [.ref ln, .ref pe, .ref ou, .ref cs, .int (nI lk), .int (nI sn), .int (nI ac), .int (nI ex), .int (nI tr), .int (nI rj)])), (pe, .inr (0, [.ref pea, .int (nI P.2)])), (pea, .inl (ca 0, 12, .inl (fun j => nI (P.1 j)))), (ou, .inr (0, [.ref oua, .int (nI O.2)])), (oua, .inl (ca 0, 16, .inl (fun j => nI (O.1 j))))] := hD.sub [4, 0, 1, 2, 3] rfl rfl
    have hgo : pumpR ex O ((min O.2 3) - ds ac sn) P sn (ds ac sn) = (P1, s1) := by rw [← hres, cPump, pumpN, if_pos (by omega)]
    obtain ⟨en, hen⟩ : ∃ en, en = min O.2 3 := ⟨_, rfl⟩
    rw [← hen] at hgo
    have hl : lv_has ls 3 [(2, .int (nI (ds ac sn))), (1, .int (nI en)), (0, .ref h)] := by rw [hen]; exact lv_sub hl [0, 1, 2] rfl
    have hen2 : en ≤ 3 := by omega
    have hen3 : en ≤ O.2 := by omega
    have loop : ∀ (n sn pl : Nat) (P : Rw_) (H : Heap) (locs : List Loc) (ls : Array Slot), sn < 8 → P.2 ≤ 12 → (pl + n = en ∨ (n = 0 ∧ en ≤ pl)) → pl < 100 → pumpR ex O n P sn pl = (P1, s1) → va_P D cls_ [(h, .inr (2, [.ref ln, .ref pe, .ref ou, .ref cs, .int (nI lk), .int (nI sn), .int (nI ac), .int (nI ex), .int (nI tr), .int (nI rj)])), (pe, .inr (0, [.ref pea, .int (nI P.2)])), (pea, .inl (ca 0, 12, .inl (fun j => nI (P.1 j)))), (ou, .inr (0, [.ref oua, .int (nI O.2)])), (oua, .inl (ca 0, 16, .inl (fun j => nI (O.1 j))))] H → va_D A [(h, .inr (2, [.ref ln, .ref pe, .ref ou, .ref cs, .int (nI lk), .int (nI sn), .int (nI ac), .int (nI ex), .int (nI tr), .int (nI rj)])), (pe, .inr (0, [.ref pea, .int (nI P.2)])), (pea, .inl (ca 0, 12, .inl (fun j => nI (P.1 j)))), (ou, .inr (0, [.ref oua, .int (nI O.2)])), (oua, .inl (ca 0, 16, .inl (fun j => nI (O.1 j))))] → va_S A s.heap H locs → lv_has ls 3 [(2, .int (nI pl)), (1, .int (nI en)), (0, .ref h)] → W p l e ({ frames := 1, cells := 0, slots := 0, locals := 32 } : Room) s m args below meth c H locs 0 0 (MQ below (CoQ D (fun _ : Unit => none) (fun _ => True) (fun _ => [(h, .inr (2, [.ref ln, .ref pe, .ref ou, .ref cs, .int (nI lk), .int (nI s1), .int (nI ac), .int (nI ex), .int (nI tr), .int (nI rj)])), (pe, .inr (0, [.ref pea, .int (nI P1.2)])), (pea, .inl (ca 0, 12, .inl (fun j => nI (P1.1 j)))), (ou, .inr (0, [.ref oua, .int (nI O.2)])), (oua, .inl (ca 0, 16, .inl (fun j => nI (O.1 j))))]) A) args s 0 0 A) (F0 m 29 ls []) := by
      intro n
      induction n with
      | zero =>
        intro sn pl P H locs ls hsn hP1 hpn hp9 hgo hP hD hS hl
        refine lv_iload_n hx hb dSt_pump_29 rfl (lv_at hl 0 rfl) ?_
        refine lv_iload_n hx hb dSt_pump_30 rfl (lv_at hl 1 rfl) ?_
        refine k_icmp_ge (tgt := 78) hx hb (by omega) (by omega) dSt_pump_31 rfl (fun h31 => ?_) (fun hz => absurd hz (by omega))
        obtain ⟨rfl, rfl⟩ : P = P1 ∧ sn = s1 := by simpa [pumpR] using hgo
        exact Co.retv hx hb hret hlk dSt_pump_78 hS hP hD () rfl trivial rfl (Nat.le_of_ble_eq_true rfl) (Nat.le_of_ble_eq_true rfl)
      | succ n ih =>
        intro sn pl P H locs ls hsn hP1 hpn hp9 hgo hP hD hS hl
        refine lv_iload_n hx hb dSt_pump_29 rfl (lv_at hl 0 rfl) ?_
        refine lv_iload_n hx hb dSt_pump_30 rfl (lv_at hl 1 rfl) ?_
        refine k_icmp_ge (tgt := 78) hx hb (by omega) (by omega) dSt_pump_31 rfl (fun hz => absurd hz (by omega)) (fun h31 => ?_)
        refine lv_aload_n hx hb dSt_pump_34 rfl (lv_at hl 2 rfl) ?_
        refine va_get (D := D) (ci := 2) (v := .ref pe) (C := RSt) (T := TSt) (N := 10) hx hb ht inSt hown hE.1 hP 0 rfl rfl 1 (by decide) (ht _ tw_90) (fun _ h => h) rfl dSt_pump_35 ?_
        refine lv_iconst (v := nI 3) hx hb dSt_pump_38 (by decide) ?_
        refine lv_aload_n hx hb dSt_pump_39 rfl (lv_at hl 2 rfl) ?_
        refine va_get (D := D) (ci := 2) (v := .int (nI sn)) (C := RSt) (T := TSt) (N := 10) hx hb ht inSt hown hE.1 hP 0 rfl rfl 5 (by decide) (ht _ tw_97) (fun _ h => h) rfl dSt_pump_40 ?_
        refine lv_aload_n hx hb dSt_pump_43 rfl (lv_at hl 2 rfl) ?_
        refine va_get (D := D) (ci := 2) (v := .int (nI ex)) (C := RSt) (T := TSt) (N := 10) hx hb ht inSt hown hE.1 hP 0 rfl rfl 7 (by decide) (ht _ tw_101) (fun _ h => h) rfl dSt_pump_44 ?_
        refine lv_aload_n hx hb dSt_pump_47 rfl (lv_at hl 2 rfl) ?_
        refine va_get (D := D) (ci := 2) (v := .ref ou) (C := RSt) (T := TSt) (N := 10) hx hb ht inSt hown hE.1 hP 0 rfl rfl 2 (by decide) (ht _ tw_91) (fun _ h => h) rfl dSt_pump_48 ?_
        refine lv_iload_n hx hb dSt_pump_51 rfl (lv_at hl 0 rfl) ?_
        refine kI (rV fx (c_Rw_at l D ca ou oua 16 O pl (by decide) (by first | assumption | exact rAdd_le (by assumption) | omega) (by first | assumption | exact rAdd_le (by assumption) | omega)) ⟨callB_of 1 hts (tb_gi tw_286) rfl rfl rfl (ht _ tw_2) (ht _ tw_283) (by decide +kernel) ⟨(Nat.le_of_ble_eq_true rfl), (Nat.le_of_ble_eq_true rfl)⟩, ht _ tw_284, ht _ tw_285⟩ hE hP hD 3 rfl rfl rfl [3, 4] rfl rfl rfl hl.1 rfl (Nat.le_of_ble_eq_true rfl) dSt_pump_52 ⟨(Nat.le_of_ble_eq_true rfl), (Nat.le_of_ble_eq_true rfl)⟩) hP hD hS hA [3, 4] [0, 1, 2] rfl rfl rfl (by decide) (fun _ H locs _ hP hD hS => ?_)
        have hP : va_P D cls_ [(h, .inr (2, [.ref ln, .ref pe, .ref ou, .ref cs, .int (nI lk), .int (nI sn), .int (nI ac), .int (nI ex), .int (nI tr), .int (nI rj)])), (pe, .inr (0, [.ref pea, .int (nI P.2)])), (pea, .inl (ca 0, 12, .inl (fun j => nI (P.1 j)))), (ou, .inr (0, [.ref oua, .int (nI O.2)])), (oua, .inl (ca 0, 16, .inl (fun j => nI (O.1 j))))] H := hP
        have hD : va_D A [(h, .inr (2, [.ref ln, .ref pe, .ref ou, .ref cs, .int (nI lk), .int (nI sn), .int (nI ac), .int (nI ex), .int (nI tr), .int (nI rj)])), (pe, .inr (0, [.ref pea, .int (nI P.2)])), (pea, .inl (ca 0, 12, .inl (fun j => nI (P.1 j)))), (ou, .inr (0, [.ref oua, .int (nI O.2)])), (oua, .inl (ca 0, 16, .inl (fun j => nI (O.1 j))))] := hD
        refine kI (rSN fx (c_Fr_of l D ca 3 sn ex (O.1 pl) (by omega) (by omega) (by omega) (hO.2 _ (by omega))) ⟨va_cnB 4 hts (tb_gi tw_230) rfl rfl rfl (hE.nest tw_228 rfl) (ht _ tw_10) (by decide +kernel) ⟨(Nat.le_of_ble_eq_true rfl), (Nat.le_of_ble_eq_true rfl)⟩, ht _ tw_229, trivial⟩ hE hP hD [] rfl rfl rfl hl.1 rfl (Nat.le_of_ble_eq_true rfl) dSt_pump_55 ⟨(Nat.le_of_ble_eq_true rfl), (Nat.le_of_ble_eq_true rfl)⟩) hP hD hS hA [] [0, 1, 2, 3, 4] rfl rfl rfl (by decide) (fun _ H locs _ hP hD hS => ?_)
        have hP : va_P D cls_ [(h, .inr (2, [.ref ln, .ref pe, .ref ou, .ref cs, .int (nI lk), .int (nI sn), .int (nI ac), .int (nI ex), .int (nI tr), .int (nI rj)])), (pe, .inr (0, [.ref pea, .int (nI P.2)])), (pea, .inl (ca 0, 12, .inl (fun j => nI (P.1 j)))), (ou, .inr (0, [.ref oua, .int (nI O.2)])), (oua, .inl (ca 0, 16, .inl (fun j => nI (O.1 j))))] H := hP
        have hD : va_D A [(h, .inr (2, [.ref ln, .ref pe, .ref ou, .ref cs, .int (nI lk), .int (nI sn), .int (nI ac), .int (nI ex), .int (nI tr), .int (nI rj)])), (pe, .inr (0, [.ref pea, .int (nI P.2)])), (pea, .inl (ca 0, 12, .inl (fun j => nI (P.1 j)))), (ou, .inr (0, [.ref oua, .int (nI O.2)])), (oua, .inl (ca 0, 16, .inl (fun j => nI (O.1 j))))] := hD
        refine kV (rV fx (c_Rw_add l D ca pe pea 12 P (fr4 3 sn ex (O.1 pl)) (by decide) (by first | assumption | exact rAdd_le (by assumption) | omega)) ⟨callB_of 1 hts (tb_gi tw_234) rfl rfl rfl (ht _ tw_2) (ht _ tw_231) (by decide +kernel) ⟨(Nat.le_of_ble_eq_true rfl), (Nat.le_of_ble_eq_true rfl)⟩, ht _ tw_232, ht _ tw_233⟩ hE hP hD 1 rfl rfl rfl [1, 2] rfl rfl rfl hl.1 rfl (Nat.le_of_ble_eq_true rfl) dSt_pump_58 ⟨(Nat.le_of_ble_eq_true rfl), (Nat.le_of_ble_eq_true rfl)⟩) hP hD hS hA [1, 2] [0, 3, 4] rfl rfl rfl (by decide) (fun _ H locs _ hP hD hS => ?_)
        have hP : va_P D cls_ [(h, .inr (2, [.ref ln, .ref pe, .ref ou, .ref cs, .int (nI lk), .int (nI sn), .int (nI ac), .int (nI ex), .int (nI tr), .int (nI rj)])), (ou, .inr (0, [.ref oua, .int (nI O.2)])), (oua, .inl (ca 0, 16, .inl (fun j => nI (O.1 j)))), (pe, .inr (0, [.ref pea, .int (nI ((rAdd 12 P (fr4 3 sn ex (O.1 pl))).2))])), (pea, .inl (ca 0, 12, .inl (fun j => nI (((rAdd 12 P (fr4 3 sn ex (O.1 pl))).1) j))))] H := hP
        have hD : va_D A [(h, .inr (2, [.ref ln, .ref pe, .ref ou, .ref cs, .int (nI lk), .int (nI sn), .int (nI ac), .int (nI ex), .int (nI tr), .int (nI rj)])), (ou, .inr (0, [.ref oua, .int (nI O.2)])), (oua, .inl (ca 0, 16, .inl (fun j => nI (O.1 j)))), (pe, .inr (0, [.ref pea, .int (nI ((rAdd 12 P (fr4 3 sn ex (O.1 pl))).2))])), (pea, .inl (ca 0, 12, .inl (fun j => nI (((rAdd 12 P (fr4 3 sn ex (O.1 pl))).1) j))))] := hD
        refine lv_aload_n hx hb dSt_pump_61 rfl (lv_at hl 2 rfl) ?_
        refine lv_aload_n hx hb dSt_pump_62 rfl (lv_at hl 2 rfl) ?_
        refine va_get (D := D) (ci := 2) (v := .int (nI sn)) (C := RSt) (T := TSt) (N := 10) hx hb ht inSt hown hE.1 hP 0 rfl rfl 5 (by decide) (ht _ tw_97) (fun _ h => h) rfl dSt_pump_63 ?_
        refine kI (rSN fx (c_Cl_after l D ca sn (by omega)) ⟨va_cnB 1 hts (tb_gi tw_289) rfl rfl rfl (hE.nest tw_287 rfl) (ht _ tw_1) (by decide +kernel) ⟨(Nat.le_of_ble_eq_true rfl), (Nat.le_of_ble_eq_true rfl)⟩, ht _ tw_288, trivial⟩ hE hP hD [] rfl rfl rfl hl.1 rfl (Nat.le_of_ble_eq_true rfl) dSt_pump_66 ⟨(Nat.le_of_ble_eq_true rfl), (Nat.le_of_ble_eq_true rfl)⟩) hP hD hS hA [] [0, 1, 2, 3, 4] rfl rfl rfl (by decide) (fun _ H locs _ hP hD hS => ?_)
        have hP : va_P D cls_ [(h, .inr (2, [.ref ln, .ref pe, .ref ou, .ref cs, .int (nI lk), .int (nI sn), .int (nI ac), .int (nI ex), .int (nI tr), .int (nI rj)])), (ou, .inr (0, [.ref oua, .int (nI O.2)])), (oua, .inl (ca 0, 16, .inl (fun j => nI (O.1 j)))), (pe, .inr (0, [.ref pea, .int (nI ((rAdd 12 P (fr4 3 sn ex (O.1 pl))).2))])), (pea, .inl (ca 0, 12, .inl (fun j => nI (((rAdd 12 P (fr4 3 sn ex (O.1 pl))).1) j))))] H := hP
        have hD : va_D A [(h, .inr (2, [.ref ln, .ref pe, .ref ou, .ref cs, .int (nI lk), .int (nI sn), .int (nI ac), .int (nI ex), .int (nI tr), .int (nI rj)])), (ou, .inr (0, [.ref oua, .int (nI O.2)])), (oua, .inl (ca 0, 16, .inl (fun j => nI (O.1 j)))), (pe, .inr (0, [.ref pea, .int (nI ((rAdd 12 P (fr4 3 sn ex (O.1 pl))).2))])), (pea, .inl (ca 0, 12, .inl (fun j => nI (((rAdd 12 P (fr4 3 sn ex (O.1 pl))).1) j))))] := hD
        refine va_put (D := D) (ci := 2) (v := .int (nI (af sn))) (ty := .int) (C := RSt) (T := TSt) (N := 10) hx hb ht inSt tySt tySt_ok nmSt hown hE.1 hP hD hS 0 rfl rfl 5 (by decide) (ht _ tw_97) (fun _ h => h) rfl (by decide +kernel) rfl rfl (Nat.le_of_ble_eq_true rfl) dSt_pump_69 (fun H locs hP hD hS => ?_)
        have hP : va_P D cls_ [(h, .inr (2, [.ref ln, .ref pe, .ref ou, .ref cs, .int (nI lk), .int (nI (af sn)), .int (nI ac), .int (nI ex), .int (nI tr), .int (nI rj)])), (ou, .inr (0, [.ref oua, .int (nI O.2)])), (oua, .inl (ca 0, 16, .inl (fun j => nI (O.1 j)))), (pe, .inr (0, [.ref pea, .int (nI ((rAdd 12 P (fr4 3 sn ex (O.1 pl))).2))])), (pea, .inl (ca 0, 12, .inl (fun j => nI (((rAdd 12 P (fr4 3 sn ex (O.1 pl))).1) j))))] H := hP
        have hD : va_D A [(h, .inr (2, [.ref ln, .ref pe, .ref ou, .ref cs, .int (nI lk), .int (nI (af sn)), .int (nI ac), .int (nI ex), .int (nI tr), .int (nI rj)])), (ou, .inr (0, [.ref oua, .int (nI O.2)])), (oua, .inl (ca 0, 16, .inl (fun j => nI (O.1 j)))), (pe, .inr (0, [.ref pea, .int (nI ((rAdd 12 P (fr4 3 sn ex (O.1 pl))).2))])), (pea, .inl (ca 0, 12, .inl (fun j => nI (((rAdd 12 P (fr4 3 sn ex (O.1 pl))).1) j))))] := hD
        refine lv_iinc (k := 0) (v := nI (pl + 1)) hx hb dSt_pump_72 hl rfl (n_inc _) (by decide) rfl (fun ls hl => ?_)
        have hl : lv_has ls 3 [(2, .int (nI (pl + 1))), (1, .int (nI en)), (0, .ref h)] := hl
        refine lv_goto (tgt := 29) hx hb dSt_pump_75 rfl ?_
        have hP : va_P D cls_ [(h, .inr (2, [.ref ln, .ref pe, .ref ou, .ref cs, .int (nI lk), .int (nI (af sn)), .int (nI ac), .int (nI ex), .int (nI tr), .int (nI rj)])), (pe, .inr (0, [.ref pea, .int (nI ((rAdd 12 P (fr4 3 sn ex (O.1 pl))).2))])), (pea, .inl (ca 0, 12, .inl (fun j => nI (((rAdd 12 P (fr4 3 sn ex (O.1 pl))).1) j)))), (ou, .inr (0, [.ref oua, .int (nI O.2)])), (oua, .inl (ca 0, 16, .inl (fun j => nI (O.1 j))))] H := hP.sub [0, 3, 4, 1, 2] rfl
        have hD : va_D A [(h, .inr (2, [.ref ln, .ref pe, .ref ou, .ref cs, .int (nI lk), .int (nI (af sn)), .int (nI ac), .int (nI ex), .int (nI tr), .int (nI rj)])), (pe, .inr (0, [.ref pea, .int (nI ((rAdd 12 P (fr4 3 sn ex (O.1 pl))).2))])), (pea, .inl (ca 0, 12, .inl (fun j => nI (((rAdd 12 P (fr4 3 sn ex (O.1 pl))).1) j)))), (ou, .inr (0, [.ref oua, .int (nI O.2)])), (oua, .inl (ca 0, 16, .inl (fun j => nI (O.1 j))))] := hD.sub [0, 3, 4, 1, 2] rfl rfl
        exact ih (af sn) (pl + 1) (rAdd 12 P (fr4 3 sn ex (O.1 pl))) H locs ls (af_lt _) (rAdd_le hP1) (by omega) (by omega) hgo hP hD hS hl
    exact loop (en - ds ac sn) sn (ds ac sn) P H locs ls hsn hP1 (by omega) (by omega) hgo hP hD hS hl
set_option maxHeartbeats 4000000 in
set_option maxRecDepth 100000 in
theorem c_St_sendUnconfirmed (l : Launch) (D : va_G) (ca : Nat → ClassId) (h ln pe ou cs lk sn ac ex tr rj : Nat) (pea oua : Nat) (O P : Rw_) (P1 : Rw_) (hlk2 : lk < 3) (hsn : sn < 8) (hac : ac < 8) (hex : ex < 8) (hO : oOk O) (hP1 : P.2 ≤ 12) (hun : ds ac sn ≤ O.2) (hres : cAgain sn ac ex O P = P1) : Co (S := Unit) l ySt_sendUnconfirmed (Cond.code ySt_sendUnconfirmed cSt_sendUnconfirmed 4 none :: tb_) { frames := 1, cells := 0, slots := 0, locals := 32 } D ca [.ref h] [(h, .inr (2, [.ref ln, .ref pe, .ref ou, .ref cs, .int (nI lk), .int (nI sn), .int (nI ac), .int (nI ex), .int (nI tr), .int (nI rj)])), (pe, .inr (0, [.ref pea, .int (nI P.2)])), (pea, .inl (ca 0, 12, .inl (fun j => nI (P.1 j)))), (ou, .inr (0, [.ref oua, .int (nI O.2)])), (oua, .inl (ca 0, 16, .inl (fun j => nI (O.1 j))))] (fun _ => none) (fun _ => True) (fun _ => [(h, .inr (2, [.ref ln, .ref pe, .ref ou, .ref cs, .int (nI lk), .int (nI sn), .int (nI ac), .int (nI ex), .int (nI tr), .int (nI rj)])), (pe, .inr (0, [.ref pea, .int (nI P1.2)])), (pea, .inl (ca 0, 12, .inl (fun j => nI (P1.1 j)))), (ou, .inr (0, [.ref oua, .int (nI O.2)])), (oua, .inl (ca 0, 16, .inl (fun j => nI (O.1 j))))]) 0 0 := by
  refine Co.of cSt_sendUnconfirmed 4 none (by decide) (Nat.le_of_ble_eq_true rfl) ?_
  intro p e s m args below meth c A ls fx hret hlk hin hE hP hD hS hA hl
  have hx := fx.1
  have hb := fx.2.1
  have hown : s.vm.findClass RSt = some m.cls := fx.2.2.2.1
  have hts := fx.2.2.2.2
  have ht : ∀ w ∈ tb_, w.before args s = true := fun w h => hts w (List.mem_cons_of_mem _ h)
  have hO1 := hO.1
  have b1 := ds_lt ac sn
  have hl : lv_has ls 4 [(0, .ref h)] := hl
  refine lv_aload_n hx hb dSt_sendUnconfirmed_0 rfl (lv_at hl 0 rfl) ?_
  refine kI (rV fx (c_St_unconfirmed l D ca h ln pe ou cs lk sn ac ex tr rj (by omega) (by omega)) ⟨callB_of 0 hts (tb_gi tw_250) rfl rfl rfl (ht _ tw_3) (ht _ tw_247) (by decide +kernel) ⟨(Nat.le_of_ble_eq_true rfl), (Nat.le_of_ble_eq_true rfl)⟩, ht _ tw_249, ht _ tw_830⟩ hE hP hD 0 rfl rfl rfl [0] rfl rfl rfl hl.1 rfl (Nat.le_of_ble_eq_true rfl) dSt_sendUnconfirmed_1 ⟨(Nat.le_of_ble_eq_true rfl), (Nat.le_of_ble_eq_true rfl)⟩) hP hD hS hA [0] [1, 2, 3, 4] rfl rfl rfl (by decide) (fun _ H locs _ hP hD hS => ?_)
  have hP : va_P D cls_ [(pe, .inr (0, [.ref pea, .int (nI P.2)])), (pea, .inl (ca 0, 12, .inl (fun j => nI (P.1 j)))), (ou, .inr (0, [.ref oua, .int (nI O.2)])), (oua, .inl (ca 0, 16, .inl (fun j => nI (O.1 j)))), (h, .inr (2, [.ref ln, .ref pe, .ref ou, .ref cs, .int (nI lk), .int (nI sn), .int (nI ac), .int (nI ex), .int (nI tr), .int (nI rj)]))] H := hP
  have hD : va_D A [(pe, .inr (0, [.ref pea, .int (nI P.2)])), (pea, .inl (ca 0, 12, .inl (fun j => nI (P.1 j)))), (ou, .inr (0, [.ref oua, .int (nI O.2)])), (oua, .inl (ca 0, 16, .inl (fun j => nI (O.1 j)))), (h, .inr (2, [.ref ln, .ref pe, .ref ou, .ref cs, .int (nI lk), .int (nI sn), .int (nI ac), .int (nI ex), .int (nI tr), .int (nI rj)]))] := hD
  refine lv_istore_n hx hb dSt_sendUnconfirmed_4 rfl hl (by decide) rfl (fun ls hl => ?_)
  have hl : lv_has ls 4 [(1, .int (nI (ds ac sn))), (0, .ref h)] := hl
  refine lv_aload_n hx hb dSt_sendUnconfirmed_5 rfl (lv_at hl 1 rfl) ?_
  refine va_get (D := D) (ci := 2) (v := .int (nI ac)) (C := RSt) (T := TSt) (N := 10) hx hb ht inSt hown hE.1 hP 4 rfl rfl 6 (by decide) (ht _ tw_99) (fun _ h => h) rfl dSt_sendUnconfirmed_6 ?_
  refine lv_istore_n hx hb dSt_sendUnconfirmed_9 rfl hl (by decide) rfl (fun ls hl => ?_)
  have hl : lv_has ls 4 [(2, .int (nI ac)), (1, .int (nI (ds ac sn))), (0, .ref h)] := hl
  refine lv_iconst (v := nI 0) hx hb dSt_sendUnconfirmed_10 (by decide) ?_
  refine lv_istore_n hx hb dSt_sendUnconfirmed_11 rfl hl (by decide) rfl (fun ls hl => ?_)
  have hl : lv_has ls 4 [(3, .int (nI 0)), (2, .int (nI ac)), (1, .int (nI (ds ac sn))), (0, .ref h)] := hl
  have hP : va_P D cls_ [(h, .inr (2, [.ref ln, .ref pe, .ref ou, .ref cs, .int (nI lk), .int (nI sn), .int (nI ac), .int (nI ex), .int (nI tr), .int (nI rj)])), (pe, .inr (0, [.ref pea, .int (nI P.2)])), (pea, .inl (ca 0, 12, .inl (fun j => nI (P.1 j)))), (ou, .inr (0, [.ref oua, .int (nI O.2)])), (oua, .inl (ca 0, 16, .inl (fun j => nI (O.1 j))))] H := hP.sub [4, 0, 1, 2, 3] rfl
  have hD : va_D A [(h, .inr (2, [.ref ln, .ref pe, .ref ou, .ref cs, .int (nI lk), .int (nI sn), .int (nI ac), .int (nI ex), .int (nI tr), .int (nI rj)])), (pe, .inr (0, [.ref pea, .int (nI P.2)])), (pea, .inl (ca 0, 12, .inl (fun j => nI (P.1 j)))), (ou, .inr (0, [.ref oua, .int (nI O.2)])), (oua, .inl (ca 0, 16, .inl (fun j => nI (O.1 j))))] := hD.sub [4, 0, 1, 2, 3] rfl rfl
  have hgo : againR ex O (ds ac sn) P ac 0 = P1 := hres
  have hl := lv_sub hl [0, 1, 2, 3] rfl
  generalize ds ac sn = en at hl hgo b1 hun
  have loop : ∀ (n nb pl : Nat) (P : Rw_) (H : Heap) (locs : List Loc) (ls : Array Slot), nb < 8 → P.2 ≤ 12 → pl + n = en → againR ex O n P nb pl = P1 → va_P D cls_ [(h, .inr (2, [.ref ln, .ref pe, .ref ou, .ref cs, .int (nI lk), .int (nI sn), .int (nI ac), .int (nI ex), .int (nI tr), .int (nI rj)])), (pe, .inr (0, [.ref pea, .int (nI P.2)])), (pea, .inl (ca 0, 12, .inl (fun j => nI (P.1 j)))), (ou, .inr (0, [.ref oua, .int (nI O.2)])), (oua, .inl (ca 0, 16, .inl (fun j => nI (O.1 j))))] H → va_D A [(h, .inr (2, [.ref ln, .ref pe, .ref ou, .ref cs, .int (nI lk), .int (nI sn), .int (nI ac), .int (nI ex), .int (nI tr), .int (nI rj)])), (pe, .inr (0, [.ref pea, .int (nI P.2)])), (pea, .inl (ca 0, 12, .inl (fun j => nI (P.1 j)))), (ou, .inr (0, [.ref oua, .int (nI O.2)])), (oua, .inl (ca 0, 16, .inl (fun j => nI (O.1 j))))] → va_S A s.heap H locs → lv_has ls 4 [(3, .int (nI pl)), (2, .int (nI nb)), (1, .int (nI en)), (0, .ref h)] → W p l e ({ frames := 1, cells := 0, slots := 0, locals := 32 } : Room) s m args below meth c H locs 0 0 (MQ below (CoQ D (fun _ : Unit => none) (fun _ => True) (fun _ => [(h, .inr (2, [.ref ln, .ref pe, .ref ou, .ref cs, .int (nI lk), .int (nI sn), .int (nI ac), .int (nI ex), .int (nI tr), .int (nI rj)])), (pe, .inr (0, [.ref pea, .int (nI P1.2)])), (pea, .inl (ca 0, 12, .inl (fun j => nI (P1.1 j)))), (ou, .inr (0, [.ref oua, .int (nI O.2)])), (oua, .inl (ca 0, 16, .inl (fun j => nI (O.1 j))))]) A) args s 0 0 A) (F0 m 12 ls []) := by
    intro n
    induction n with
    | zero =>
      intro nb pl P H locs ls hnb hP1 hpn hgo hP hD hS hl
      refine lv_iload_n hx hb dSt_sendUnconfirmed_12 rfl (lv_at hl 0 rfl) ?_
      refine lv_iload_n hx hb dSt_sendUnconfirmed_13 rfl (lv_at hl 2 rfl) ?_
      refine k_icmp_ge (tgt := 52) hx hb (by omega) (by omega) dSt_sendUnconfirmed_14 rfl (fun h14 => ?_) (fun hz => absurd hz (by omega))
      obtain rfl : P = P1 := hgo
      exact Co.retv hx hb hret hlk dSt_sendUnconfirmed_52 hS hP hD () rfl trivial rfl (Nat.le_of_ble_eq_true rfl) (Nat.le_of_ble_eq_true rfl)
    | succ n ih =>
      intro nb pl P H locs ls hnb hP1 hpn hgo hP hD hS hl
      refine lv_iload_n hx hb dSt_sendUnconfirmed_12 rfl (lv_at hl 0 rfl) ?_
      refine lv_iload_n hx hb dSt_sendUnconfirmed_13 rfl (lv_at hl 2 rfl) ?_
      refine k_icmp_ge (tgt := 52) hx hb (by omega) (by omega) dSt_sendUnconfirmed_14 rfl (fun hz => absurd hz (by omega)) (fun h14 => ?_)
      refine lv_aload_n hx hb dSt_sendUnconfirmed_17 rfl (lv_at hl 3 rfl) ?_
      refine va_get (D := D) (ci := 2) (v := .ref pe) (C := RSt) (T := TSt) (N := 10) hx hb ht inSt hown hE.1 hP 0 rfl rfl 1 (by decide) (ht _ tw_90) (fun _ h => h) rfl dSt_sendUnconfirmed_18 ?_
      refine lv_iconst (v := nI 3) hx hb dSt_sendUnconfirmed_21 (by decide) ?_
      refine lv_iload_n hx hb dSt_sendUnconfirmed_22 rfl (lv_at hl 1 rfl) ?_
      refine lv_aload_n hx hb dSt_sendUnconfirmed_23 rfl (lv_at hl 3 rfl) ?_
      refine va_get (D := D) (ci := 2) (v := .int (nI ex)) (C := RSt) (T := TSt) (N := 10) hx hb ht inSt hown hE.1 hP 0 rfl rfl 7 (by decide) (ht _ tw_101) (fun _ h => h) rfl dSt_sendUnconfirmed_24 ?_
      refine lv_aload_n hx hb dSt_sendUnconfirmed_27 rfl (lv_at hl 3 rfl) ?_
      refine va_get (D := D) (ci := 2) (v := .ref ou) (C := RSt) (T := TSt) (N := 10) hx hb ht inSt hown hE.1 hP 0 rfl rfl 2 (by decide) (ht _ tw_91) (fun _ h => h) rfl dSt_sendUnconfirmed_28 ?_
      refine lv_iload_n hx hb dSt_sendUnconfirmed_31 rfl (lv_at hl 0 rfl) ?_
      refine kI (rV fx (c_Rw_at l D ca ou oua 16 O pl (by decide) (by first | assumption | exact rAdd_le (by assumption) | omega) (by first | assumption | exact rAdd_le (by assumption) | omega)) ⟨callB_of 1 hts (tb_gi tw_286) rfl rfl rfl (ht _ tw_2) (ht _ tw_283) (by decide +kernel) ⟨(Nat.le_of_ble_eq_true rfl), (Nat.le_of_ble_eq_true rfl)⟩, ht _ tw_284, ht _ tw_285⟩ hE hP hD 3 rfl rfl rfl [3, 4] rfl rfl rfl hl.1 rfl (Nat.le_of_ble_eq_true rfl) dSt_sendUnconfirmed_32 ⟨(Nat.le_of_ble_eq_true rfl), (Nat.le_of_ble_eq_true rfl)⟩) hP hD hS hA [3, 4] [0, 1, 2] rfl rfl rfl (by decide) (fun _ H locs _ hP hD hS => ?_)
      have hP : va_P D cls_ [(h, .inr (2, [.ref ln, .ref pe, .ref ou, .ref cs, .int (nI lk), .int (nI sn), .int (nI ac), .int (nI ex), .int (nI tr), .int (nI rj)])), (pe, .inr (0, [.ref pea, .int (nI P.2)])), (pea, .inl (ca 0, 12, .inl (fun j => nI (P.1 j)))), (ou, .inr (0, [.ref oua, .int (nI O.2)])), (oua, .inl (ca 0, 16, .inl (fun j => nI (O.1 j))))] H := hP
      have hD : va_D A [(h, .inr (2, [.ref ln, .ref pe, .ref ou, .ref cs, .int (nI lk), .int (nI sn), .int (nI ac), .int (nI ex), .int (nI tr), .int (nI rj)])), (pe, .inr (0, [.ref pea, .int (nI P.2)])), (pea, .inl (ca 0, 12, .inl (fun j => nI (P.1 j)))), (ou, .inr (0, [.ref oua, .int (nI O.2)])), (oua, .inl (ca 0, 16, .inl (fun j => nI (O.1 j))))] := hD
      refine kI (rSN fx (c_Fr_of l D ca 3 nb ex (O.1 pl) (by omega) (by omega) (by omega) (hO.2 _ (by omega))) ⟨va_cnB 4 hts (tb_gi tw_230) rfl rfl rfl (hE.nest tw_228 rfl) (ht _ tw_10) (by decide +kernel) ⟨(Nat.le_of_ble_eq_true rfl), (Nat.le_of_ble_eq_true rfl)⟩, ht _ tw_229, trivial⟩ hE hP hD [] rfl rfl rfl hl.1 rfl (Nat.le_of_ble_eq_true rfl) dSt_sendUnconfirmed_35 ⟨(Nat.le_of_ble_eq_true rfl), (Nat.le_of_ble_eq_true rfl)⟩) hP hD hS hA [] [0, 1, 2, 3, 4] rfl rfl rfl (by decide) (fun _ H locs _ hP hD hS => ?_)
      have hP : va_P D cls_ [(h, .inr (2, [.ref ln, .ref pe, .ref ou, .ref cs, .int (nI lk), .int (nI sn), .int (nI ac), .int (nI ex), .int (nI tr), .int (nI rj)])), (pe, .inr (0, [.ref pea, .int (nI P.2)])), (pea, .inl (ca 0, 12, .inl (fun j => nI (P.1 j)))), (ou, .inr (0, [.ref oua, .int (nI O.2)])), (oua, .inl (ca 0, 16, .inl (fun j => nI (O.1 j))))] H := hP
      have hD : va_D A [(h, .inr (2, [.ref ln, .ref pe, .ref ou, .ref cs, .int (nI lk), .int (nI sn), .int (nI ac), .int (nI ex), .int (nI tr), .int (nI rj)])), (pe, .inr (0, [.ref pea, .int (nI P.2)])), (pea, .inl (ca 0, 12, .inl (fun j => nI (P.1 j)))), (ou, .inr (0, [.ref oua, .int (nI O.2)])), (oua, .inl (ca 0, 16, .inl (fun j => nI (O.1 j))))] := hD
      refine kV (rV fx (c_Rw_add l D ca pe pea 12 P (fr4 3 nb ex (O.1 pl)) (by decide) (by first | assumption | exact rAdd_le (by assumption) | omega)) ⟨callB_of 1 hts (tb_gi tw_234) rfl rfl rfl (ht _ tw_2) (ht _ tw_231) (by decide +kernel) ⟨(Nat.le_of_ble_eq_true rfl), (Nat.le_of_ble_eq_true rfl)⟩, ht _ tw_232, ht _ tw_233⟩ hE hP hD 1 rfl rfl rfl [1, 2] rfl rfl rfl hl.1 rfl (Nat.le_of_ble_eq_true rfl) dSt_sendUnconfirmed_38 ⟨(Nat.le_of_ble_eq_true rfl), (Nat.le_of_ble_eq_true rfl)⟩) hP hD hS hA [1, 2] [0, 3, 4] rfl rfl rfl (by decide) (fun _ H locs _ hP hD hS => ?_)
      have hP : va_P D cls_ [(h, .inr (2, [.ref ln, .ref pe, .ref ou, .ref cs, .int (nI lk), .int (nI sn), .int (nI ac), .int (nI ex), .int (nI tr), .int (nI rj)])), (ou, .inr (0, [.ref oua, .int (nI O.2)])), (oua, .inl (ca 0, 16, .inl (fun j => nI (O.1 j)))), (pe, .inr (0, [.ref pea, .int (nI ((rAdd 12 P (fr4 3 nb ex (O.1 pl))).2))])), (pea, .inl (ca 0, 12, .inl (fun j => nI (((rAdd 12 P (fr4 3 nb ex (O.1 pl))).1) j))))] H := hP
      have hD : va_D A [(h, .inr (2, [.ref ln, .ref pe, .ref ou, .ref cs, .int (nI lk), .int (nI sn), .int (nI ac), .int (nI ex), .int (nI tr), .int (nI rj)])), (ou, .inr (0, [.ref oua, .int (nI O.2)])), (oua, .inl (ca 0, 16, .inl (fun j => nI (O.1 j)))), (pe, .inr (0, [.ref pea, .int (nI ((rAdd 12 P (fr4 3 nb ex (O.1 pl))).2))])), (pea, .inl (ca 0, 12, .inl (fun j => nI (((rAdd 12 P (fr4 3 nb ex (O.1 pl))).1) j))))] := hD
      refine lv_iload_n hx hb dSt_sendUnconfirmed_41 rfl (lv_at hl 1 rfl) ?_
      refine kI (rSN fx (c_Cl_after l D ca nb (by omega)) ⟨va_cnB 1 hts (tb_gi tw_289) rfl rfl rfl (hE.nest tw_287 rfl) (ht _ tw_1) (by decide +kernel) ⟨(Nat.le_of_ble_eq_true rfl), (Nat.le_of_ble_eq_true rfl)⟩, ht _ tw_288, trivial⟩ hE hP hD [] rfl rfl rfl hl.1 rfl (Nat.le_of_ble_eq_true rfl) dSt_sendUnconfirmed_42 ⟨(Nat.le_of_ble_eq_true rfl), (Nat.le_of_ble_eq_true rfl)⟩) hP hD hS hA [] [0, 1, 2, 3, 4] rfl rfl rfl (by decide) (fun _ H locs _ hP hD hS => ?_)
      have hP : va_P D cls_ [(h, .inr (2, [.ref ln, .ref pe, .ref ou, .ref cs, .int (nI lk), .int (nI sn), .int (nI ac), .int (nI ex), .int (nI tr), .int (nI rj)])), (ou, .inr (0, [.ref oua, .int (nI O.2)])), (oua, .inl (ca 0, 16, .inl (fun j => nI (O.1 j)))), (pe, .inr (0, [.ref pea, .int (nI ((rAdd 12 P (fr4 3 nb ex (O.1 pl))).2))])), (pea, .inl (ca 0, 12, .inl (fun j => nI (((rAdd 12 P (fr4 3 nb ex (O.1 pl))).1) j))))] H := hP
      have hD : va_D A [(h, .inr (2, [.ref ln, .ref pe, .ref ou, .ref cs, .int (nI lk), .int (nI sn), .int (nI ac), .int (nI ex), .int (nI tr), .int (nI rj)])), (ou, .inr (0, [.ref oua, .int (nI O.2)])), (oua, .inl (ca 0, 16, .inl (fun j => nI (O.1 j)))), (pe, .inr (0, [.ref pea, .int (nI ((rAdd 12 P (fr4 3 nb ex (O.1 pl))).2))])), (pea, .inl (ca 0, 12, .inl (fun j => nI (((rAdd 12 P (fr4 3 nb ex (O.1 pl))).1) j))))] := hD
      refine lv_istore_n hx hb dSt_sendUnconfirmed_45 rfl hl (by decide) rfl (fun ls hl => ?_)
      have hl : lv_has ls 4 [(2, .int (nI (af nb))), (3, .int (nI pl)), (1, .int (nI en)), (0, .ref h)] := hl
      refine lv_iinc (k := 1) (v := nI (pl + 1)) hx hb dSt_sendUnconfirmed_46 hl rfl (n_inc _) (by decide) rfl (fun ls hl => ?_)
      have hl : lv_has ls 4 [(3, .int (nI (pl + 1))), (2, .int (nI (af nb))), (1, .int (nI en)), (0, .ref h)] := hl
      refine lv_goto (tgt := 12) hx hb dSt_sendUnconfirmed_49 rfl ?_
      have hP : va_P D cls_ [(h, .inr (2, [.ref ln, .ref pe, .ref ou, .ref cs, .int (nI lk), .int (nI sn), .int (nI ac), .int (nI ex), .int (nI tr), .int (nI rj)])), (pe, .inr (0, [.ref pea, .int (nI ((rAdd 12 P (fr4 3 nb ex (O.1 pl))).2))])), (pea, .inl (ca 0, 12, .inl (fun j => nI (((rAdd 12 P (fr4 3 nb ex (O.1 pl))).1) j)))), (ou, .inr (0, [.ref oua, .int (nI O.2)])), (oua, .inl (ca 0, 16, .inl (fun j => nI (O.1 j))))] H := hP.sub [0, 3, 4, 1, 2] rfl
      have hD : va_D A [(h, .inr (2, [.ref ln, .ref pe, .ref ou, .ref cs, .int (nI lk), .int (nI sn), .int (nI ac), .int (nI ex), .int (nI tr), .int (nI rj)])), (pe, .inr (0, [.ref pea, .int (nI ((rAdd 12 P (fr4 3 nb ex (O.1 pl))).2))])), (pea, .inl (ca 0, 12, .inl (fun j => nI (((rAdd 12 P (fr4 3 nb ex (O.1 pl))).1) j)))), (ou, .inr (0, [.ref oua, .int (nI O.2)])), (oua, .inl (ca 0, 16, .inl (fun j => nI (O.1 j))))] := hD.sub [0, 3, 4, 1, 2] rfl rfl
      have hl := lv_sub hl [0, 1, 2, 3] rfl
      exact ih (af nb) (pl + 1) (rAdd 12 P (fr4 3 nb ex (O.1 pl))) H locs ls (af_lt _) (rAdd_le hP1) (by omega) hgo hP hD hS hl
  exact loop en ac 0 P H locs ls hac hP1 (by omega) hgo hP hD hS hl
set_option maxHeartbeats 4000000 in
set_option maxRecDepth 100000 in
theorem c_St_sendPacket (l : Launch) (D : va_G) (ca : Nat → ClassId) (h ln pe ou cs lk sn ac ex tr rj : Nat) (pea oua : Nat) (O P : Rw_) (pk : Nat) (hlk2 : lk < 3) (hsn : sn < 8) (hac : ac < 8) (hex : ex < 8) (hO : oOk O) (hP1 : P.2 ≤ 12) (hpk : pk < 2097152) : Co (S := Unit) l ySt_sendPacket (Cond.code ySt_sendPacket cSt_sendPacket 2 none :: tb_) { frames := 2, cells := 0, slots := 0, locals := 64 } D ca [.ref h, .int (nI pk)] [(h, .inr (2, [.ref ln, .ref pe, .ref ou, .ref cs, .int (nI lk), .int (nI sn), .int (nI ac), .int (nI ex), .int (nI tr), .int (nI rj)])), (pe, .inr (0, [.ref pea, .int (nI P.2)])), (pea, .inl (ca 0, 12, .inl (fun j => nI (P.1 j)))), (ou, .inr (0, [.ref oua, .int (nI O.2)])), (oua, .inl (ca 0, 16, .inl (fun j => nI (O.1 j))))] (fun _ => none) (fun _ => True) (fun _ => [(h, .inr (2, [.ref ln, .ref pe, .ref ou, .ref cs, .int (nI lk), .int (nI ((sSend lk sn ac ex O P pk).1)), .int (nI ac), .int (nI ex), .int (nI tr), .int (nI rj)])), (pe, .inr (0, [.ref pea, .int (nI (((sSend lk sn ac ex O P pk).2.2).2))])), (pea, .inl (ca 0, 12, .inl (fun j => nI ((((sSend lk sn ac ex O P pk).2.2).1) j)))), (ou, .inr (0, [.ref oua, .int (nI (((sSend lk sn ac ex O P pk).2.1).2))])), (oua, .inl (ca 0, 16, .inl (fun j => nI ((((sSend lk sn ac ex O P pk).2.1).1) j))))]) 0 0 := by
  refine Co.of cSt_sendPacket 2 none (by decide) (Nat.le_of_ble_eq_true rfl) ?_
  intro p e s m args below meth c A ls fx hret hlk hin hE hP hD hS hA hl
  have hx := fx.1
  have hb := fx.2.1
  have hown : s.vm.findClass RSt = some m.cls := fx.2.2.2.1
  have hts := fx.2.2.2.2
  have ht : ∀ w ∈ tb_, w.before args s = true := fun w h => hts w (List.mem_cons_of_mem _ h)
  have hO1 := hO.1
  have hl : lv_has ls 2 [(0, .ref h), (1, .int (nI pk))] := hl
  refine lv_aload_n hx hb dSt_sendPacket_0 rfl (lv_at hl 0 rfl) ?_
  refine va_get (D := D) (ci := 2) (v := .ref ou) (C := RSt) (T := TSt) (N := 10) hx hb ht inSt hown hE.1 hP 0 rfl rfl 2 (by decide) (ht _ tw_91) (fun _ h => h) rfl dSt_sendPacket_1 ?_
  refine lv_iload_n hx hb dSt_sendPacket_4 rfl (lv_at hl 1 rfl) ?_
  refine kV (rV fx (c_Rw_add l D ca ou oua 16 O pk (by decide) (by first | assumption | exact rAdd_le (by assumption) | omega)) ⟨callB_of 1 hts (tb_gi tw_234) rfl rfl rfl (ht _ tw_2) (ht _ tw_231) (by decide +kernel) ⟨(Nat.le_of_ble_eq_true rfl), (Nat.le_of_ble_eq_true rfl)⟩, ht _ tw_232, ht _ tw_233⟩ hE hP hD 3 rfl rfl rfl [3, 4] rfl rfl rfl hl.1 rfl (Nat.le_of_ble_eq_true rfl) dSt_sendPacket_5 ⟨(Nat.le_of_ble_eq_true rfl), (Nat.le_of_ble_eq_true rfl)⟩) hP hD hS hA [3, 4] [0, 1, 2] rfl rfl rfl (by decide) (fun _ H locs _ hP hD hS => ?_)
  have hP : va_P D cls_ [(h, .inr (2, [.ref ln, .ref pe, .ref ou, .ref cs, .int (nI lk), .int (nI sn), .int (nI ac), .int (nI ex), .int (nI tr), .int (nI rj)])), (pe, .inr (0, [.ref pea, .int (nI P.2)])), (pea, .inl (ca 0, 12, .inl (fun j => nI (P.1 j)))), (ou, .inr (0, [.ref oua, .int (nI ((rAdd 16 O pk).2))])), (oua, .inl (ca 0, 16, .inl (fun j => nI (((rAdd 16 O pk).1) j))))] H := hP
  have hD : va_D A [(h, .inr (2, [.ref ln, .ref pe, .ref ou, .ref cs, .int (nI lk), .int (nI sn), .int (nI ac), .int (nI ex), .int (nI tr), .int (nI rj)])), (pe, .inr (0, [.ref pea, .int (nI P.2)])), (pea, .inl (ca 0, 12, .inl (fun j => nI (P.1 j)))), (ou, .inr (0, [.ref oua, .int (nI ((rAdd 16 O pk).2))])), (oua, .inl (ca 0, 16, .inl (fun j => nI (((rAdd 16 O pk).1) j))))] := hD
  refine lv_aload_n hx hb dSt_sendPacket_8 rfl (lv_at hl 0 rfl) ?_
  refine kV (rV fx (c_St_pump l D ca h ln pe ou cs lk sn ac ex tr rj pea oua (rAdd 16 O pk) P (cPump lk sn ac ex (rAdd 16 O pk) P).1 (cPump lk sn ac ex (rAdd 16 O pk) P).2 (by omega) (by first | omega | exact cPump_snd (by omega)) (by omega) (by omega) (by first | assumption | exact oOk.add (by assumption) (by first | omega | exact pk5_lt (by omega) (by omega) (by omega) (by omega) (by omega))) (by first | assumption | exact rAdd_le (by assumption) | exact cPump_le (by assumption) | exact cAgain_le (by assumption) | exact cPump_le (cAgain_le (by assumption)) | omega) rfl) ⟨callB_of 0 hts (tb_gi tw_436) rfl rfl rfl (ht _ tw_3) (ht _ tw_433) (by decide +kernel) ⟨(Nat.le_of_ble_eq_true rfl), (Nat.le_of_ble_eq_true rfl)⟩, ht _ tw_435, ht _ tw_844⟩ hE hP hD 0 rfl rfl rfl [0, 1, 2, 3, 4] rfl rfl rfl hl.1 rfl (Nat.le_of_ble_eq_true rfl) dSt_sendPacket_9 ⟨(Nat.le_of_ble_eq_true rfl), (Nat.le_of_ble_eq_true rfl)⟩) hP hD hS hA [0, 1, 2, 3, 4] [] rfl rfl rfl (by decide) (fun _ H locs _ hP hD hS => ?_)
  have hP : va_P D cls_ [(h, .inr (2, [.ref ln, .ref pe, .ref ou, .ref cs, .int (nI lk), .int (nI ((cPump lk sn ac ex (rAdd 16 O pk) P).2)), .int (nI ac), .int (nI ex), .int (nI tr), .int (nI rj)])), (pe, .inr (0, [.ref pea, .int (nI (((cPump lk sn ac ex (rAdd 16 O pk) P).1).2))])), (pea, .inl (ca 0, 12, .inl (fun j => nI ((((cPump lk sn ac ex (rAdd 16 O pk) P).1).1) j)))), (ou, .inr (0, [.ref oua, .int (nI ((rAdd 16 O pk).2))])), (oua, .inl (ca 0, 16, .inl (fun j => nI (((rAdd 16 O pk).1) j))))] H := hP
  have hD : va_D A [(h, .inr (2, [.ref ln, .ref pe, .ref ou, .ref cs, .int (nI lk), .int (nI ((cPump lk sn ac ex (rAdd 16 O pk) P).2)), .int (nI ac), .int (nI ex), .int (nI tr), .int (nI rj)])), (pe, .inr (0, [.ref pea, .int (nI (((cPump lk sn ac ex (rAdd 16 O pk) P).1).2))])), (pea, .inl (ca 0, 12, .inl (fun j => nI ((((cPump lk sn ac ex (rAdd 16 O pk) P).1).1) j)))), (ou, .inr (0, [.ref oua, .int (nI ((rAdd 16 O pk).2))])), (oua, .inl (ca 0, 16, .inl (fun j => nI (((rAdd 16 O pk).1) j))))] := hD
  exact Co.retv hx hb hret hlk dSt_sendPacket_12 hS hP hD () rfl trivial rfl (Nat.le_of_ble_eq_true rfl) (Nat.le_of_ble_eq_true rfl)
set_option maxHeartbeats 4000000 in
set_option maxRecDepth 100000 in
theorem c_St_confirm (l : Launch) (D : va_G) (ca : Nat → ClassId) (h ln pe ou cs lk sn ac ex tr rj : Nat) (oua : Nat) (O : Rw_) (ak : Nat) (ac' tr' : Nat) (O' : Rw_) (hsn : sn < 8) (hac : ac < 8) (hak : ak < 8) (hO1 : O.2 ≤ 16) (hun : ds ac sn ≤ O.2) (hres : sConf sn ac ak tr O = (ac', tr', O')) : Co (S := Unit) l ySt_confirm (Cond.code ySt_confirm cSt_confirm 3 none :: tb_) { frames := 2, cells := 0, slots := 0, locals := 64 } D ca [.ref h, .int (nI ak)] [(h, .inr (2, [.ref ln, .ref pe, .ref ou, .ref cs, .int (nI lk), .int (nI sn), .int (nI ac), .int (nI ex), .int (nI tr), .int (nI rj)])), (ou, .inr (0, [.ref oua, .int (nI O.2)])), (oua, .inl (ca 0, 16, .inl (fun j => nI (O.1 j))))] (fun _ => none) (fun _ => True) (fun _ => [(h, .inr (2, [.ref ln, .ref pe, .ref ou, .ref cs, .int (nI lk), .int (nI sn), .int (nI ac'), .int (nI ex), .int (nI tr'), .int (nI rj)])), (ou, .inr (0, [.ref oua, .int (nI O'.2)])), (oua, .inl (ca 0, 16, .inl (fun j => nI (O'.1 j))))]) 0 0 := by
  refine Co.of cSt_confirm 3 none (by decide) (Nat.le_of_ble_eq_true rfl) ?_
  intro p e s m args below meth c A ls fx hret hlk hin hE hP hD hS hA hl
  have hx := fx.1
  have hb := fx.2.1
  have hown : s.vm.findClass RSt = some m.cls := fx.2.2.2.1
  have hts := fx.2.2.2.2
  have ht : ∀ w ∈ tb_, w.before args s = true := fun w h => hts w (List.mem_cons_of_mem _ h)
  have b1 := ds_lt ac sn
  have b2 := ds_lt ac ak
  have hl : lv_has ls 3 [(0, .ref h), (1, .int (nI ak))] := hl
  refine lv_aload_n hx hb dSt_confirm_0 rfl (lv_at hl 0 rfl) ?_
  refine va_get (D := D) (ci := 2) (v := .int (nI ac)) (C := RSt) (T := TSt) (N := 10) hx hb ht inSt hown hE.1 hP 0 rfl rfl 6 (by decide) (ht _ tw_99) (fun _ h => h) rfl dSt_confirm_1 ?_
  refine lv_iload_n hx hb dSt_confirm_4 rfl (lv_at hl 1 rfl) ?_
  refine kI (rSN fx (c_Cl_distance l D ca ac ak (by omega) (by omega)) ⟨va_cnB 2 hts (tb_gi tw_352) rfl rfl rfl (hE.nest tw_350 rfl) (ht _ tw_1) (by decide +kernel) ⟨(Nat.le_of_ble_eq_true rfl), (Nat.le_of_ble_eq_true rfl)⟩, ht _ tw_351, trivial⟩ hE hP hD [] rfl rfl rfl hl.1 rfl (Nat.le_of_ble_eq_true rfl) dSt_confirm_5 ⟨(Nat.le_of_ble_eq_true rfl), (Nat.le_of_ble_eq_true rfl)⟩) hP hD hS hA [] [0, 1, 2] rfl rfl rfl (by decide) (fun _ H locs _ hP hD hS => ?_)
  have hP : va_P D cls_ [(h, .inr (2, [.ref ln, .ref pe, .ref ou, .ref cs, .int (nI lk), .int (nI sn), .int (nI ac), .int (nI ex), .int (nI tr), .int (nI rj)])), (ou, .inr (0, [.ref oua, .int (nI O.2)])), (oua, .inl (ca 0, 16, .inl (fun j => nI (O.1 j))))] H := hP
  have hD : va_D A [(h, .inr (2, [.ref ln, .ref pe, .ref ou, .ref cs, .int (nI lk), .int (nI sn), .int (nI ac), .int (nI ex), .int (nI tr), .int (nI rj)])), (ou, .inr (0, [.ref oua, .int (nI O.2)])), (oua, .inl (ca 0, 16, .inl (fun j => nI (O.1 j))))] := hD
  refine lv_istore_n hx hb dSt_confirm_8 rfl hl (by decide) rfl (fun ls hl => ?_)
  have hl : lv_has ls 3 [(2, .int (nI (ds ac ak))), (0, .ref h), (1, .int (nI ak))] := hl
  refine lv_iload_n hx hb dSt_confirm_9 rfl (lv_at hl 0 rfl) ?_
  refine k_if_le (tgt := 39) hx hb (by omega) dSt_confirm_10 rfl (fun h10 => ?_) (fun h10 => ?_)
  · rw [sConf, if_neg (by omega)] at hres
    simp only [Prod.mk.injEq] at hres
    obtain ⟨rfl, rfl, rfl⟩ := hres
    exact Co.retv hx hb hret hlk dSt_confirm_39 hS hP hD () rfl trivial rfl (Nat.le_of_ble_eq_true rfl) (Nat.le_of_ble_eq_true rfl)
  · refine lv_iload_n hx hb dSt_confirm_13 rfl (lv_at hl 0 rfl) ?_
    refine lv_aload_n hx hb dSt_confirm_14 rfl (lv_at hl 1 rfl) ?_
    refine kI (rV fx (c_St_unconfirmed l D ca h ln pe ou cs lk sn ac ex tr rj (by omega) (by omega)) ⟨callB_of 0 hts (tb_gi tw_250) rfl rfl rfl (ht _ tw_3) (ht _ tw_247) (by decide +kernel) ⟨(Nat.le_of_ble_eq_true rfl), (Nat.le_of_ble_eq_true rfl)⟩, ht _ tw_249, ht _ tw_830⟩ hE hP hD 0 rfl rfl rfl [0] rfl rfl rfl hl.1 rfl (Nat.le_of_ble_eq_true rfl) dSt_confirm_15 ⟨(Nat.le_of_ble_eq_true rfl), (Nat.le_of_ble_eq_true rfl)⟩) hP hD hS hA [0] [1, 2] rfl rfl rfl (by decide) (fun _ H locs _ hP hD hS => ?_)
    have hP : va_P D cls_ [(ou, .inr (0, [.ref oua, .int (nI O.2)])), (oua, .inl (ca 0, 16, .inl (fun j => nI (O.1 j)))), (h, .inr (2, [.ref ln, .ref pe, .ref ou, .ref cs, .int (nI lk), .int (nI sn), .int (nI ac), .int (nI ex), .int (nI tr), .int (nI rj)]))] H := hP
    have hD : va_D A [(ou, .inr (0, [.ref oua, .int (nI O.2)])), (oua, .inl (ca 0, 16, .inl (fun j => nI (O.1 j)))), (h, .inr (2, [.ref ln, .ref pe, .ref ou, .ref cs, .int (nI lk), .int (nI sn), .int (nI ac), .int (nI ex), .int (nI tr), .int (nI rj)]))] := hD
    refine k_icmp_gt (tgt := 39) hx hb (by omega) (by omega) dSt_confirm_18 rfl (fun h18 => ?_) (fun h18 => ?_)
    · have hP : va_P D cls_ [(h, .inr (2, [.ref ln, .ref pe, .ref ou, .ref cs, .int (nI lk), .int (nI sn), .int (nI ac), .int (nI ex), .int (nI tr), .int (nI rj)])), (ou, .inr (0, [.ref oua, .int (nI O.2)])), (oua, .inl (ca 0, 16, .inl (fun j => nI (O.1 j))))] H := hP.sub [2, 0, 1] rfl
      have hD : va_D A [(h, .inr (2, [.ref ln, .ref pe, .ref ou, .ref cs, .int (nI lk), .int (nI sn), .int (nI ac), .int (nI ex), .int (nI tr), .int (nI rj)])), (ou, .inr (0, [.ref oua, .int (nI O.2)])), (oua, .inl (ca 0, 16, .inl (fun j => nI (O.1 j))))] := hD.sub [2, 0, 1] rfl rfl
      rw [sConf, if_neg (by omega)] at hres
      simp only [Prod.mk.injEq] at hres
      obtain ⟨rfl, rfl, rfl⟩ := hres
      exact Co.retv hx hb hret hlk dSt_confirm_39 hS hP hD () rfl trivial rfl (Nat.le_of_ble_eq_true rfl) (Nat.le_of_ble_eq_true rfl)
    · refine lv_aload_n hx hb dSt_confirm_21 rfl (lv_at hl 1 rfl) ?_
      refine va_get (D := D) (ci := 2) (v := .ref ou) (C := RSt) (T := TSt) (N := 10) hx hb ht inSt hown hE.1 hP 2 rfl rfl 2 (by decide) (ht _ tw_91) (fun _ h => h) rfl dSt_confirm_22 ?_
      refine lv_iload_n hx hb dSt_confirm_25 rfl (lv_at hl 0 rfl) ?_
      refine kV (rV fx (c_Rw_drop l D ca ou oua 16 O (ds ac ak) (by decide) (by first | assumption | exact rAdd_le (by assumption) | omega) (by first | assumption | exact rAdd_le (by assumption) | omega)) ⟨callB_of 1 hts (tb_gi tw_324) rfl rfl rfl (ht _ tw_2) (ht _ tw_353) (by decide +kernel) ⟨(Nat.le_of_ble_eq_true rfl), (Nat.le_of_ble_eq_true rfl)⟩, ht _ tw_322, ht _ tw_323⟩ hE hP hD 0 rfl rfl rfl [0, 1] rfl rfl rfl hl.1 rfl (Nat.le_of_ble_eq_true rfl) dSt_confirm_26 ⟨(Nat.le_of_ble_eq_true rfl), (Nat.le_of_ble_eq_true rfl)⟩) hP hD hS hA [0, 1] [2] rfl rfl rfl (by decide) (fun _ H locs _ hP hD hS => ?_)
      have hP : va_P D cls_ [(h, .inr (2, [.ref ln, .ref pe, .ref ou, .ref cs, .int (nI lk), .int (nI sn), .int (nI ac), .int (nI ex), .int (nI tr), .int (nI rj)])), (ou, .inr (0, [.ref oua, .int (nI ((rDrop O (ds ac ak)).2))])), (oua, .inl (ca 0, 16, .inl (fun j => nI (((rDrop O (ds ac ak)).1) j))))] H := hP
      have hD : va_D A [(h, .inr (2, [.ref ln, .ref pe, .ref ou, .ref cs, .int (nI lk), .int (nI sn), .int (nI ac), .int (nI ex), .int (nI tr), .int (nI rj)])), (ou, .inr (0, [.ref oua, .int (nI ((rDrop O (ds ac ak)).2))])), (oua, .inl (ca 0, 16, .inl (fun j => nI (((rDrop O (ds ac ak)).1) j))))] := hD
      refine lv_aload_n hx hb dSt_confirm_29 rfl (lv_at hl 1 rfl) ?_
      refine lv_iload_n hx hb dSt_confirm_30 rfl (lv_at hl 2 rfl) ?_
      refine va_put (D := D) (ci := 2) (v := .int (nI ak)) (ty := .int) (C := RSt) (T := TSt) (N := 10) hx hb ht inSt tySt tySt_ok nmSt hown hE.1 hP hD hS 0 rfl rfl 6 (by decide) (ht _ tw_99) (fun _ h => h) rfl (by decide +kernel) rfl rfl (Nat.le_of_ble_eq_true rfl) dSt_confirm_31 (fun H locs hP hD hS => ?_)
      have hP : va_P D cls_ [(h, .inr (2, [.ref ln, .ref pe, .ref ou, .ref cs, .int (nI lk), .int (nI sn), .int (nI ak), .int (nI ex), .int (nI tr), .int (nI rj)])), (ou, .inr (0, [.ref oua, .int (nI ((rDrop O (ds ac ak)).2))])), (oua, .inl (ca 0, 16, .inl (fun j => nI (((rDrop O (ds ac ak)).1) j))))] H := hP
      have hD : va_D A [(h, .inr (2, [.ref ln, .ref pe, .ref ou, .ref cs, .int (nI lk), .int (nI sn), .int (nI ak), .int (nI ex), .int (nI tr), .int (nI rj)])), (ou, .inr (0, [.ref oua, .int (nI ((rDrop O (ds ac ak)).2))])), (oua, .inl (ca 0, 16, .inl (fun j => nI (((rDrop O (ds ac ak)).1) j))))] := hD
      refine lv_aload_n hx hb dSt_confirm_34 rfl (lv_at hl 1 rfl) ?_
      refine lv_iconst (v := nI 0) hx hb dSt_confirm_35 (by decide) ?_
      refine va_put (D := D) (ci := 2) (v := .int (nI 0)) (ty := .int) (C := RSt) (T := TSt) (N := 10) hx hb ht inSt tySt tySt_ok nmSt hown hE.1 hP hD hS 0 rfl rfl 8 (by decide) (ht _ tw_103) (fun _ h => h) rfl (by decide +kernel) rfl rfl (Nat.le_of_ble_eq_true rfl) dSt_confirm_36 (fun H locs hP hD hS => ?_)
      have hP : va_P D cls_ [(h, .inr (2, [.ref ln, .ref pe, .ref ou, .ref cs, .int (nI lk), .int (nI sn), .int (nI ak), .int (nI ex), .int (nI 0), .int (nI rj)])), (ou, .inr (0, [.ref oua, .int (nI ((rDrop O (ds ac ak)).2))])), (oua, .inl (ca 0, 16, .inl (fun j => nI (((rDrop O (ds ac ak)).1) j))))] H := hP
      have hD : va_D A [(h, .inr (2, [.ref ln, .ref pe, .ref ou, .ref cs, .int (nI lk), .int (nI sn), .int (nI ak), .int (nI ex), .int (nI 0), .int (nI rj)])), (ou, .inr (0, [.ref oua, .int (nI ((rDrop O (ds ac ak)).2))])), (oua, .inl (ca 0, 16, .inl (fun j => nI (((rDrop O (ds ac ak)).1) j))))] := hD
      rw [sConf, if_pos (by omega)] at hres
      simp only [Prod.mk.injEq] at hres
      obtain ⟨rfl, rfl, rfl⟩ := hres
      exact Co.retv hx hb hret hlk dSt_confirm_39 hS hP hD () rfl trivial rfl (Nat.le_of_ble_eq_true rfl) (Nat.le_of_ble_eq_true rfl)
set_option maxHeartbeats 4000000 in
set_option maxRecDepth 100000 in
theorem c_St_rejectOnce (l : Launch) (D : va_G) (ca : Nat → ClassId) (h ln pe ou cs lk sn ac ex tr rj : Nat) (pea : Nat) (P : Rw_) (rj' : Nat) (P' : Rw_) (hex : ex < 8) (hrj : rj < 2) (hP1 : P.2 ≤ 12) (hres : sRej rj ex P = (rj', P')) : Co (S := Unit) l ySt_rejectOnce (Cond.code ySt_rejectOnce cSt_rejectOnce 1 none :: tb_) { frames := 2, cells := 0, slots := 0, locals := 64 } D ca [.ref h] [(h, .inr (2, [.ref ln, .ref pe, .ref ou, .ref cs, .int (nI lk), .int (nI sn), .int (nI ac), .int (nI ex), .int (nI tr), .int (nI rj)])), (pe, .inr (0, [.ref pea, .int (nI P.2)])), (pea, .inl (ca 0, 12, .inl (fun j => nI (P.1 j))))] (fun _ => none) (fun _ => True) (fun _ => [(h, .inr (2, [.ref ln, .ref pe, .ref ou, .ref cs, .int (nI lk), .int (nI sn), .int (nI ac), .int (nI ex), .int (nI tr), .int (nI rj')])), (pe, .inr (0, [.ref pea, .int (nI P'.2)])), (pea, .inl (ca 0, 12, .inl (fun j => nI (P'.1 j))))]) 0 0 := by
  refine Co.of cSt_rejectOnce 1 none (by decide) (Nat.le_of_ble_eq_true rfl) ?_
  intro p e s m args below meth c A ls fx hret hlk hin hE hP hD hS hA hl
  have hx := fx.1
  have hb := fx.2.1
  have hown : s.vm.findClass RSt = some m.cls := fx.2.2.2.1
  have hts := fx.2.2.2.2
  have ht : ∀ w ∈ tb_, w.before args s = true := fun w h => hts w (List.mem_cons_of_mem _ h)
  have hl : lv_has ls 1 [(0, .ref h)] := hl
  refine lv_aload_n hx hb dSt_rejectOnce_0 rfl (lv_at hl 0 rfl) ?_
  refine va_get (D := D) (ci := 2) (v := .int (nI rj)) (C := RSt) (T := TSt) (N := 10) hx hb ht inSt hown hE.1 hP 0 rfl rfl 9 (by decide) (ht _ tw_105) (fun _ h => h) rfl dSt_rejectOnce_1 ?_
  refine k_if_ne (tgt := 17) hx hb (by omega) dSt_rejectOnce_4 rfl (fun h4 => ?_) (fun h4 => ?_)
  · rw [sRej, if_neg (by omega)] at hres
    simp only [Prod.mk.injEq] at hres
    obtain ⟨rfl, rfl⟩ := hres
    exact Co.retv hx hb hret hlk dSt_rejectOnce_17 hS hP hD () rfl trivial rfl (Nat.le_of_ble_eq_true rfl) (Nat.le_of_ble_eq_true rfl)
  · refine lv_aload_n hx hb dSt_rejectOnce_7 rfl (lv_at hl 0 rfl) ?_
    refine lv_iconst (v := nI 1) hx hb dSt_rejectOnce_8 (by decide) ?_
    refine va_put (D := D) (ci := 2) (v := .int (nI 1)) (ty := .boolean) (C := RSt) (T := TSt) (N := 10) hx hb ht inSt tySt tySt_ok nmSt hown hE.1 hP hD hS 0 rfl rfl 9 (by decide) (ht _ tw_105) (fun _ h => h) rfl (by decide +kernel) rfl rfl (Nat.le_of_ble_eq_true rfl) dSt_rejectOnce_9 (fun H locs hP hD hS => ?_)
    have hP : va_P D cls_ [(h, .inr (2, [.ref ln, .ref pe, .ref ou, .ref cs, .int (nI lk), .int (nI sn), .int (nI ac), .int (nI ex), .int (nI tr), .int (nI 1)])), (pe, .inr (0, [.ref pea, .int (nI P.2)])), (pea, .inl (ca 0, 12, .inl (fun j => nI (P.1 j))))] H := hP
    have hD : va_D A [(h, .inr (2, [.ref ln, .ref pe, .ref ou, .ref cs, .int (nI lk), .int (nI sn), .int (nI ac), .int (nI ex), .int (nI tr), .int (nI 1)])), (pe, .inr (0, [.ref pea, .int (nI P.2)])), (pea, .inl (ca 0, 12, .inl (fun j => nI (P.1 j))))] := hD
    refine lv_aload_n hx hb dSt_rejectOnce_12 rfl (lv_at hl 0 rfl) ?_
    refine lv_iconst (v := nI 5) hx hb dSt_rejectOnce_13 (by decide) ?_
    refine kV (rV fx (c_St_sendAcknowledging l D ca h ln pe ou cs lk sn ac ex tr 1 pea P 5 (by omega) (by omega) (by first | assumption | exact rAdd_le (by assumption) | exact cPump_le (by assumption) | exact cAgain_le (by assumption) | exact cPump_le (cAgain_le (by assumption)) | omega)) ⟨callB_of 1 hts (tb_gi tw_368) rfl rfl rfl (ht _ tw_3) (ht _ tw_365) (by decide +kernel) ⟨(Nat.le_of_ble_eq_true rfl), (Nat.le_of_ble_eq_true rfl)⟩, ht _ tw_367, ht _ tw_838⟩ hE hP hD 0 rfl rfl rfl [0, 1, 2] rfl rfl rfl hl.1 rfl (Nat.le_of_ble_eq_true rfl) dSt_rejectOnce_14 ⟨(Nat.le_of_ble_eq_true rfl), (Nat.le_of_ble_eq_true rfl)⟩) hP hD hS hA [0, 1, 2] [] rfl rfl rfl (by decide) (fun _ H locs _ hP hD hS => ?_)
    have hP : va_P D cls_ [(h, .inr (2, [.ref ln, .ref pe, .ref ou, .ref cs, .int (nI lk), .int (nI sn), .int (nI ac), .int (nI ex), .int (nI tr), .int (nI 1)])), (pe, .inr (0, [.ref pea, .int (nI ((rAdd 12 P (fr4 5 0 ex 0)).2))])), (pea, .inl (ca 0, 12, .inl (fun j => nI (((rAdd 12 P (fr4 5 0 ex 0)).1) j))))] H := hP
    have hD : va_D A [(h, .inr (2, [.ref ln, .ref pe, .ref ou, .ref cs, .int (nI lk), .int (nI sn), .int (nI ac), .int (nI ex), .int (nI tr), .int (nI 1)])), (pe, .inr (0, [.ref pea, .int (nI ((rAdd 12 P (fr4 5 0 ex 0)).2))])), (pea, .inl (ca 0, 12, .inl (fun j => nI (((rAdd 12 P (fr4 5 0 ex 0)).1) j))))] := hD
    rw [sRej, if_pos (by omega)] at hres
    simp only [Prod.mk.injEq] at hres
    obtain ⟨rfl, rfl⟩ := hres
    exact Co.retv hx hb hret hlk dSt_rejectOnce_17 hS hP hD () rfl trivial rfl (Nat.le_of_ble_eq_true rfl) (Nat.le_of_ble_eq_true rfl)
end
section
set_option maxHeartbeats 4000000 in
set_option maxRecDepth 100000 in
theorem c_St_cleanAs (l : Launch) (D : va_G) (ca : Nat → ClassId) (h ln pe ou cs lk sn ac ex tr rj : Nat) (oua : Nat) (O : Rw_) (q0 d0 a0 q1 d1 a1 q2 d2 a2 y : Nat) (fc : Nat → Option Nat) (K : Nat → Cn_) (hq0 : fc 0 = some q0) (hq1 : fc 1 = some q1) (hq2 : fc 2 = some q2) (nl : Nat) : Co (S := Unit) l ySt_cleanAs (Cond.code ySt_cleanAs cSt_cleanAs 3 none :: tb_) { frames := 1, cells := 0, slots := 0, locals := 32 } D ca [.ref h, .int (nI nl)] [(h, .inr (2, [.ref ln, .ref pe, .ref ou, .ref cs, .int (nI lk), .int (nI sn), .int (nI ac), .int (nI ex), .int (nI tr), .int (nI rj)])), (ou, .inr (0, [.ref oua, .int (nI O.2)])), (oua, .inl (ca 0, 16, .inl (fun j => nI (O.1 j)))), (cs, .inl (ca 3, 3, .inr (.inr (.inr (.inr fc))))), (q0, .inr (1, [.int (nI y), .ref d0, .int (nI ((K 0).1)), .int (nI ((K 0).2.1)), .int (nI ((K 0).2.2.1)), .int (nI ((K 0).2.2.2.1)), .int (nI ((K 0).2.2.2.2.1))])), (d0, .inr (0, [.ref a0, .int (nI (((K 0).2.2.2.2.2).2))])), (a0, .inl (ca 0, 2, .inl (fun j => nI ((((K 0).2.2.2.2.2).1) j)))), (q1, .inr (1, [.int (nI y), .ref d1, .int (nI ((K 1).1)), .int (nI ((K 1).2.1)), .int (nI ((K 1).2.2.1)), .int (nI ((K 1).2.2.2.1)), .int (nI ((K 1).2.2.2.2.1))])), (d1, .inr (0, [.ref a1, .int (nI (((K 1).2.2.2.2.2).2))])), (a1, .inl (ca 0, 2, .inl (fun j => nI ((((K 1).2.2.2.2.2).1) j)))), (q2, .inr (1, [.int (nI y), .ref d2, .int (nI ((K 2).1)), .int (nI ((K 2).2.1)), .int (nI ((K 2).2.2.1)), .int (nI ((K 2).2.2.2.1)), .int (nI ((K 2).2.2.2.2.1))])), (d2, .inr (0, [.ref a2, .int (nI (((K 2).2.2.2.2.2).2))])), (a2, .inl (ca 0, 2, .inl (fun j => nI ((((K 2).2.2.2.2.2).1) j))))] (fun _ => none) (fun _ => True) (fun _ => [(h, .inr (2, [.ref ln, .ref pe, .ref ou, .ref cs, .int (nI nl), .int (nI 0), .int (nI 0), .int (nI 0), .int (nI 0), .int (nI 0)])), (ou, .inr (0, [.ref oua, .int (nI ((rNone O).2))])), (oua, .inl (ca 0, 16, .inl (fun j => nI (((rNone O).1) j)))), (cs, .inl (ca 3, 3, .inr (.inr (.inr (.inr fc))))), (q0, .inr (1, [.int (nI y), .ref d0, .int (nI (((kClean K) 0).1)), .int (nI (((kClean K) 0).2.1)), .int (nI (((kClean K) 0).2.2.1)), .int (nI (((kClean K) 0).2.2.2.1)), .int (nI (((kClean K) 0).2.2.2.2.1))])), (d0, .inr (0, [.ref a0, .int (nI ((((kClean K) 0).2.2.2.2.2).2))])), (a0, .inl (ca 0, 2, .inl (fun j => nI (((((kClean K) 0).2.2.2.2.2).1) j)))), (q1, .inr (1, [.int (nI y), .ref d1, .int (nI (((kClean K) 1).1)), .int (nI (((kClean K) 1).2.1)), .int (nI (((kClean K) 1).2.2.1)), .int (nI (((kClean K) 1).2.2.2.1)), .int (nI (((kClean K) 1).2.2.2.2.1))])), (d1, .inr (0, [.ref a1, .int (nI ((((kClean K) 1).2.2.2.2.2).2))])), (a1, .inl (ca 0, 2, .inl (fun j => nI (((((kClean K) 1).2.2.2.2.2).1) j)))), (q2, .inr (1, [.int (nI y), .ref d2, .int (nI (((kClean K) 2).1)), .int (nI (((kClean K) 2).2.1)), .int (nI (((kClean K) 2).2.2.1)), .int (nI (((kClean K) 2).2.2.2.1)), .int (nI (((kClean K) 2).2.2.2.2.1))])), (d2, .inr (0, [.ref a2, .int (nI ((((kClean K) 2).2.2.2.2.2).2))])), (a2, .inl (ca 0, 2, .inl (fun j => nI (((((kClean K) 2).2.2.2.2.2).1) j))))]) 0 0 := by
  refine Co.of cSt_cleanAs 3 none (by decide) (Nat.le_of_ble_eq_true rfl) ?_
  intro p e s m args below meth c A ls fx hret hlk hin hE hP hD hS hA hl
  have hx := fx.1
  have hb := fx.2.1
  have hown : s.vm.findClass RSt = some m.cls := fx.2.2.2.1
  have hts := fx.2.2.2.2
  have ht : ∀ w ∈ tb_, w.before args s = true := fun w h => hts w (List.mem_cons_of_mem _ h)
  have hl : lv_has ls 3 [(0, .ref h), (1, .int (nI nl))] := hl
  refine lv_aload_n hx hb dSt_cleanAs_0 rfl (lv_at hl 0 rfl) ?_
  refine lv_iload_n hx hb dSt_cleanAs_1 rfl (lv_at hl 1 rfl) ?_
  refine va_put (D := D) (ci := 2) (v := .int (nI nl)) (ty := .int) (C := RSt) (T := TSt) (N := 10) hx hb ht inSt tySt tySt_ok nmSt hown hE.1 hP hD hS 0 rfl rfl 4 (by decide) (ht _ tw_95) (fun _ h => h) rfl (by decide +kernel) rfl rfl (Nat.le_of_ble_eq_true rfl) dSt_cleanAs_2 (fun H locs hP hD hS => ?_)
  have hP : va_P D cls_ [(h, .inr (2, [.ref ln, .ref pe, .ref ou, .ref cs, .int (nI nl), .int (nI sn), .int (nI ac), .int (nI ex), .int (nI tr), .int (nI rj)])), (ou, .inr (0, [.ref oua, .int (nI O.2)])), (oua, .inl (ca 0, 16, .inl (fun j => nI (O.1 j)))), (cs, .inl (ca 3, 3, .inr (.inr (.inr (.inr fc))))), (q0, .inr (1, [.int (nI y), .ref d0, .int (nI ((K 0).1)), .int (nI ((K 0).2.1)), .int (nI ((K 0).2.2.1)), .int (nI ((K 0).2.2.2.1)), .int (nI ((K 0).2.2.2.2.1))])), (d0, .inr (0, [.ref a0, .int (nI (((K 0).2.2.2.2.2).2))])), (a0, .inl (ca 0, 2, .inl (fun j => nI ((((K 0).2.2.2.2.2).1) j)))), (q1, .inr (1, [.int (nI y), .ref d1, .int (nI ((K 1).1)), .int (nI ((K 1).2.1)), .int (nI ((K 1).2.2.1)), .int (nI ((K 1).2.2.2.1)), .int (nI ((K 1).2.2.2.2.1))])), (d1, .inr (0, [.ref a1, .int (nI (((K 1).2.2.2.2.2).2))])), (a1, .inl (ca 0, 2, .inl (fun j => nI ((((K 1).2.2.2.2.2).1) j)))), (q2, .inr (1, [.int (nI y), .ref d2, .int (nI ((K 2).1)), .int (nI ((K 2).2.1)), .int (nI ((K 2).2.2.1)), .int (nI ((K 2).2.2.2.1)), .int (nI ((K 2).2.2.2.2.1))])), (d2, .inr (0, [.ref a2, .int (nI (((K 2).2.2.2.2.2).2))])), (a2, .inl (ca 0, 2, .inl (fun j => nI ((((K 2).2.2.2.2.2).1) j))))] H := hP
  have hD : va_D A [(h, .inr (2, [.ref ln, .ref pe, .ref ou, .ref cs, .int (nI nl), .int (nI sn), .int (nI ac), .int (nI ex), .int (nI tr), .int (nI rj)])), (ou, .inr (0, [.ref oua, .int (nI O.2)])), (oua, .inl (ca 0, 16, .inl (fun j => nI (O.1 j)))), (cs, .inl (ca 3, 3, .inr (.inr (.inr (.inr fc))))), (q0, .inr (1, [.int (nI y), .ref d0, .int (nI ((K 0).1)), .int (nI ((K 0).2.1)), .int (nI ((K 0).2.2.1)), .int (nI ((K 0).2.2.2.1)), .int (nI ((K 0).2.2.2.2.1))])), (d0, .inr (0, [.ref a0, .int (nI (((K 0).2.2.2.2.2).2))])), (a0, .inl (ca 0, 2, .inl (fun j => nI ((((K 0).2.2.2.2.2).1) j)))), (q1, .inr (1, [.int (nI y), .ref d1, .int (nI ((K 1).1)), .int (nI ((K 1).2.1)), .int (nI ((K 1).2.2.1)), .int (nI ((K 1).2.2.2.1)), .int (nI ((K 1).2.2.2.2.1))])), (d1, .inr (0, [.ref a1, .int (nI (((K 1).2.2.2.2.2).2))])), (a1, .inl (ca 0, 2, .inl (fun j => nI ((((K 1).2.2.2.2.2).1) j)))), (q2, .inr (1, [.int (nI y), .ref d2, .int (nI ((K 2).1)), .int (nI ((K 2).2.1)), .int (nI ((K 2).2.2.1)), .int (nI ((K 2).2.2.2.1)), .int (nI ((K 2).2.2.2.2.1))])), (d2, .inr (0, [.ref a2, .int (nI (((K 2).2.2.2.2.2).2))])), (a2, .inl (ca 0, 2, .inl (fun j => nI ((((K 2).2.2.2.2.2).1) j))))] := hD
  refine lv_aload_n hx hb dSt_cleanAs_5 rfl (lv_at hl 0 rfl) ?_
  refine lv_iconst (v := nI 0) hx hb dSt_cleanAs_6 (by decide) ?_
  refine va_put (D := D) (ci := 2) (v := .int (nI 0)) (ty := .int) (C := RSt) (T := TSt) (N := 10) hx hb ht inSt tySt tySt_ok nmSt hown hE.1 hP hD hS 0 rfl rfl 5 (by decide) (ht _ tw_97) (fun _ h => h) rfl (by decide +kernel) rfl rfl (Nat.le_of_ble_eq_true rfl) dSt_cleanAs_7 (fun H locs hP hD hS => ?_)
  have hP : va_P D cls_ [(h, .inr (2, [.ref ln, .ref pe, .ref ou, .ref cs, .int (nI nl), .int (nI 0), .int (nI ac), .int (nI ex), .int (nI tr), .int (nI rj)])), (ou, .inr (0, [.ref oua, .int (nI O.2)])), (oua, .inl (ca 0, 16, .inl (fun j => nI (O.1 j)))), (cs, .inl (ca 3, 3, .inr (.inr (.inr (.inr fc))))), (q0, .inr (1, [.int (nI y), .ref d0, .int (nI ((K 0).1)), .int (nI ((K 0).2.1)), .int (nI ((K 0).2.2.1)), .int (nI ((K 0).2.2.2.1)), .int (nI ((K 0).2.2.2.2.1))])), (d0, .inr (0, [.ref a0, .int (nI (((K 0).2.2.2.2.2).2))])), (a0, .inl (ca 0, 2, .inl (fun j => nI ((((K 0).2.2.2.2.2).1) j)))), (q1, .inr (1, [.int (nI y), .ref d1, .int (nI ((K 1).1)), .int (nI ((K 1).2.1)), .int (nI ((K 1).2.2.1)), .int (nI ((K 1).2.2.2.1)), .int (nI ((K 1).2.2.2.2.1))])), (d1, .inr (0, [.ref a1, .int (nI (((K 1).2.2.2.2.2).2))])), (a1, .inl (ca 0, 2, .inl (fun j => nI ((((K 1).2.2.2.2.2).1) j)))), (q2, .inr (1, [.int (nI y), .ref d2, .int (nI ((K 2).1)), .int (nI ((K 2).2.1)), .int (nI ((K 2).2.2.1)), .int (nI ((K 2).2.2.2.1)), .int (nI ((K 2).2.2.2.2.1))])), (d2, .inr (0, [.ref a2, .int (nI (((K 2).2.2.2.2.2).2))])), (a2, .inl (ca 0, 2, .inl (fun j => nI ((((K 2).2.2.2.2.2).1) j))))] H := hP
  have hD : va_D A [(h, .inr (2, [.ref ln, .ref pe, .ref ou, .ref cs, .int (nI nl), .int (nI 0), .int (nI ac), .int (nI ex), .int (nI tr), .int (nI rj)])), (ou, .inr (0, [.ref oua, .int (nI O.2)])), (oua, .inl (ca 0, 16, .inl (fun j => nI (O.1 j)))), (cs, .inl (ca 3, 3, .inr (.inr (.inr (.inr fc))))), (q0, .inr (1, [.int (nI y), .ref d0, .int (nI ((K 0).1)), .int (nI ((K 0).2.1)), .int (nI ((K 0).2.2.1)), .int (nI ((K 0).2.2.2.1)), .int (nI ((K 0).2.2.2.2.1))])), (d0, .inr (0, [.ref a0, .int (nI (((K 0).2.2.2.2.2).2))])), (a0, .inl (ca 0, 2, .inl (fun j => nI ((((K 0).2.2.2.2.2).1) j)))), (q1, .inr (1, [.int (nI y), .ref d1, .int (nI ((K 1).1)), .int (nI ((K 1).2.1)), .int (nI ((K 1).2.2.1)), .int (nI ((K 1).2.2.2.1)), .int (nI ((K 1).2.2.2.2.1))])), (d1, .inr (0, [.ref a1, .int (nI (((K 1).2.2.2.2.2).2))])), (a1, .inl (ca 0, 2, .inl (fun j => nI ((((K 1).2.2.2.2.2).1) j)))), (q2, .inr (1, [.int (nI y), .ref d2, .int (nI ((K 2).1)), .int (nI ((K 2).2.1)), .int (nI ((K 2).2.2.1)), .int (nI ((K 2).2.2.2.1)), .int (nI ((K 2).2.2.2.2.1))])), (d2, .inr (0, [.ref a2, .int (nI (((K 2).2.2.2.2.2).2))])), (a2, .inl (ca 0, 2, .inl (fun j => nI ((((K 2).2.2.2.2.2).1) j))))] := hD
  refine lv_aload_n hx hb dSt_cleanAs_10 rfl (lv_at hl 0 rfl) ?_
  refine lv_iconst (v := nI 0) hx hb dSt_cleanAs_11 (by decide) ?_
  refine va_put (D := D) (ci := 2) (v := .int (nI 0)) (ty := .int) (C := RSt) (T := TSt) (N := 10) hx hb ht inSt tySt tySt_ok nmSt hown hE.1 hP hD hS 0 rfl rfl 6 (by decide) (ht _ tw_99) (fun _ h => h) rfl (by decide +kernel) rfl rfl (Nat.le_of_ble_eq_true rfl) dSt_cleanAs_12 (fun H locs hP hD hS => ?_)
  have hP : va_P D cls_ [(h, .inr (2, [.ref ln, .ref pe, .ref ou, .ref cs, .int (nI nl), .int (nI 0), .int (nI 0), .int (nI ex), .int (nI tr), .int (nI rj)])), (ou, .inr (0, [.ref oua, .int (nI O.2)])), (oua, .inl (ca 0, 16, .inl (fun j => nI (O.1 j)))), (cs, .inl (ca 3, 3, .inr (.inr (.inr (.inr fc))))), (q0, .inr (1, [.int (nI y), .ref d0, .int (nI ((K 0).1)), .int (nI ((K 0).2.1)), .int (nI ((K 0).2.2.1)), .int (nI ((K 0).2.2.2.1)), .int (nI ((K 0).2.2.2.2.1))])), (d0, .inr (0, [.ref a0, .int (nI (((K 0).2.2.2.2.2).2))])), (a0, .inl (ca 0, 2, .inl (fun j => nI ((((K 0).2.2.2.2.2).1) j)))), (q1, .inr (1, [.int (nI y), .ref d1, .int (nI ((K 1).1)), .int (nI ((K 1).2.1)), .int (nI ((K 1).2.2.1)), .int (nI ((K 1).2.2.2.1)), .int (nI ((K 1).2.2.2.2.1))])), (d1, .inr (0, [.ref a1, .int (nI (((K 1).2.2.2.2.2).2))])), (a1, .inl (ca 0, 2, .inl (fun j => nI ((((K 1).2.2.2.2.2).1) j)))), (q2, .inr (1, [.int (nI y), .ref d2, .int (nI ((K 2).1)), .int (nI ((K 2).2.1)), .int (nI ((K 2).2.2.1)), .int (nI ((K 2).2.2.2.1)), .int (nI ((K 2).2.2.2.2.1))])), (d2, .inr (0, [.ref a2, .int (nI (((K 2).2.2.2.2.2).2))])), (a2, .inl (ca 0, 2, .inl (fun j => nI ((((K 2).2.2.2.2.2).1) j))))] H := hP
  have hD : va_D A [(h, .inr (2, [.ref ln, .ref pe, .ref ou, .ref cs, .int (nI nl), .int (nI 0), .int (nI 0), .int (nI ex), .int (nI tr), .int (nI rj)])), (ou, .inr (0, [.ref oua, .int (nI O.2)])), (oua, .inl (ca 0, 16, .inl (fun j => nI (O.1 j)))), (cs, .inl (ca 3, 3, .inr (.inr (.inr (.inr fc))))), (q0, .inr (1, [.int (nI y), .ref d0, .int (nI ((K 0).1)), .int (nI ((K 0).2.1)), .int (nI ((K 0).2.2.1)), .int (nI ((K 0).2.2.2.1)), .int (nI ((K 0).2.2.2.2.1))])), (d0, .inr (0, [.ref a0, .int (nI (((K 0).2.2.2.2.2).2))])), (a0, .inl (ca 0, 2, .inl (fun j => nI ((((K 0).2.2.2.2.2).1) j)))), (q1, .inr (1, [.int (nI y), .ref d1, .int (nI ((K 1).1)), .int (nI ((K 1).2.1)), .int (nI ((K 1).2.2.1)), .int (nI ((K 1).2.2.2.1)), .int (nI ((K 1).2.2.2.2.1))])), (d1, .inr (0, [.ref a1, .int (nI (((K 1).2.2.2.2.2).2))])), (a1, .inl (ca 0, 2, .inl (fun j => nI ((((K 1).2.2.2.2.2).1) j)))), (q2, .inr (1, [.int (nI y), .ref d2, .int (nI ((K 2).1)), .int (nI ((K 2).2.1)), .int (nI ((K 2).2.2.1)), .int (nI ((K 2).2.2.2.1)), .int (nI ((K 2).2.2.2.2.1))])), (d2, .inr (0, [.ref a2, .int (nI (((K 2).2.2.2.2.2).2))])), (a2, .inl (ca 0, 2, .inl (fun j => nI ((((K 2).2.2.2.2.2).1) j))))] := hD
  refine lv_aload_n hx hb dSt_cleanAs_15 rfl (lv_at hl 0 rfl) ?_
  refine lv_iconst (v := nI 0) hx hb dSt_cleanAs_16 (by decide) ?_
  refine va_put (D := D) (ci := 2) (v := .int (nI 0)) (ty := .int) (C := RSt) (T := TSt) (N := 10) hx hb ht inSt tySt tySt_ok nmSt hown hE.1 hP hD hS 0 rfl rfl 7 (by decide) (ht _ tw_101) (fun _ h => h) rfl (by decide +kernel) rfl rfl (Nat.le_of_ble_eq_true rfl) dSt_cleanAs_17 (fun H locs hP hD hS => ?_)
  have hP : va_P D cls_ [(h, .inr (2, [.ref ln, .ref pe, .ref ou, .ref cs, .int (nI nl), .int (nI 0), .int (nI 0), .int (nI 0), .int (nI tr), .int (nI rj)])), (ou, .inr (0, [.ref oua, .int (nI O.2)])), (oua, .inl (ca 0, 16, .inl (fun j => nI (O.1 j)))), (cs, .inl (ca 3, 3, .inr (.inr (.inr (.inr fc))))), (q0, .inr (1, [.int (nI y), .ref d0, .int (nI ((K 0).1)), .int (nI ((K 0).2.1)), .int (nI ((K 0).2.2.1)), .int (nI ((K 0).2.2.2.1)), .int (nI ((K 0).2.2.2.2.1))])), (d0, .inr (0, [.ref a0, .int (nI (((K 0).2.2.2.2.2).2))])), (a0, .inl (ca 0, 2, .inl (fun j => nI ((((K 0).2.2.2.2.2).1) j)))), (q1, .inr (1, [.int (nI y), .ref d1, .int (nI ((K 1).1)), .int (nI ((K 1).2.1)), .int (nI ((K 1).2.2.1)), .int (nI ((K 1).2.2.2.1)), .int (nI ((K 1).2.2.2.2.1))])), (d1, .inr (0, [.ref a1, .int (nI (((K 1).2.2.2.2.2).2))])), (a1, .inl (ca 0, 2, .inl (fun j => nI ((((K 1).2.2.2.2.2).1) j)))), (q2, .inr (1, [.int (nI y), .ref d2, .int (nI ((K 2).1)), .int (nI ((K 2).2.1)), .int (nI ((K 2).2.2.1)), .int (nI ((K 2).2.2.2.1)), .int (nI ((K 2).2.2.2.2.1))])), (d2, .inr (0, [.ref a2, .int (nI (((K 2).2.2.2.2.2).2))])), (a2, .inl (ca 0, 2, .inl (fun j => nI ((((K 2).2.2.2.2.2).1) j))))] H := hP
  have hD : va_D A [(h, .inr (2, [.ref ln, .ref pe, .ref ou, .ref cs, .int (nI nl), .int (nI 0), .int (nI 0), .int (nI 0), .int (nI tr), .int (nI rj)])), (ou, .inr (0, [.ref oua, .int (nI O.2)])), (oua, .inl (ca 0, 16, .inl (fun j => nI (O.1 j)))), (cs, .inl (ca 3, 3, .inr (.inr (.inr (.inr fc))))), (q0, .inr (1, [.int (nI y), .ref d0, .int (nI ((K 0).1)), .int (nI ((K 0).2.1)), .int (nI ((K 0).2.2.1)), .int (nI ((K 0).2.2.2.1)), .int (nI ((K 0).2.2.2.2.1))])), (d0, .inr (0, [.ref a0, .int (nI (((K 0).2.2.2.2.2).2))])), (a0, .inl (ca 0, 2, .inl (fun j => nI ((((K 0).2.2.2.2.2).1) j)))), (q1, .inr (1, [.int (nI y), .ref d1, .int (nI ((K 1).1)), .int (nI ((K 1).2.1)), .int (nI ((K 1).2.2.1)), .int (nI ((K 1).2.2.2.1)), .int (nI ((K 1).2.2.2.2.1))])), (d1, .inr (0, [.ref a1, .int (nI (((K 1).2.2.2.2.2).2))])), (a1, .inl (ca 0, 2, .inl (fun j => nI ((((K 1).2.2.2.2.2).1) j)))), (q2, .inr (1, [.int (nI y), .ref d2, .int (nI ((K 2).1)), .int (nI ((K 2).2.1)), .int (nI ((K 2).2.2.1)), .int (nI ((K 2).2.2.2.1)), .int (nI ((K 2).2.2.2.2.1))])), (d2, .inr (0, [.ref a2, .int (nI (((K 2).2.2.2.2.2).2))])), (a2, .inl (ca 0, 2, .inl (fun j => nI ((((K 2).2.2.2.2.2).1) j))))] := hD
  refine lv_aload_n hx hb dSt_cleanAs_20 rfl (lv_at hl 0 rfl) ?_
  refine lv_iconst (v := nI 0) hx hb dSt_cleanAs_21 (by decide) ?_
  refine va_put (D := D) (ci := 2) (v := .int (nI 0)) (ty := .int) (C := RSt) (T := TSt) (N := 10) hx hb ht inSt tySt tySt_ok nmSt hown hE.1 hP hD hS 0 rfl rfl 8 (by decide) (ht _ tw_103) (fun _ h => h) rfl (by decide +kernel) rfl rfl (Nat.le_of_ble_eq_true rfl) dSt_cleanAs_22 (fun H locs hP hD hS => ?_)
  have hP : va_P D cls_ [(h, .inr (2, [.ref ln, .ref pe, .ref ou, .ref cs, .int (nI nl), .int (nI 0), .int (nI 0), .int (nI 0), .int (nI 0), .int (nI rj)])), (ou, .inr (0, [.ref oua, .int (nI O.2)])), (oua, .inl (ca 0, 16, .inl (fun j => nI (O.1 j)))), (cs, .inl (ca 3, 3, .inr (.inr (.inr (.inr fc))))), (q0, .inr (1, [.int (nI y), .ref d0, .int (nI ((K 0).1)), .int (nI ((K 0).2.1)), .int (nI ((K 0).2.2.1)), .int (nI ((K 0).2.2.2.1)), .int (nI ((K 0).2.2.2.2.1))])), (d0, .inr (0, [.ref a0, .int (nI (((K 0).2.2.2.2.2).2))])), (a0, .inl (ca 0, 2, .inl (fun j => nI ((((K 0).2.2.2.2.2).1) j)))), (q1, .inr (1, [.int (nI y), .ref d1, .int (nI ((K 1).1)), .int (nI ((K 1).2.1)), .int (nI ((K 1).2.2.1)), .int (nI ((K 1).2.2.2.1)), .int (nI ((K 1).2.2.2.2.1))])), (d1, .inr (0, [.ref a1, .int (nI (((K 1).2.2.2.2.2).2))])), (a1, .inl (ca 0, 2, .inl (fun j => nI ((((K 1).2.2.2.2.2).1) j)))), (q2, .inr (1, [.int (nI y), .ref d2, .int (nI ((K 2).1)), .int (nI ((K 2).2.1)), .int (nI ((K 2).2.2.1)), .int (nI ((K 2).2.2.2.1)), .int (nI ((K 2).2.2.2.2.1))])), (d2, .inr (0, [.ref a2, .int (nI (((K 2).2.2.2.2.2).2))])), (a2, .inl (ca 0, 2, .inl (fun j => nI ((((K 2).2.2.2.2.2).1) j))))] H := hP
  have hD : va_D A [(h, .inr (2, [.ref ln, .ref pe, .ref ou, .ref cs, .int (nI nl), .int (nI 0), .int (nI 0), .int (nI 0), .int (nI 0), .int (nI rj)])), (ou, .inr (0, [.ref oua, .int (nI O.2)])), (oua, .inl (ca 0, 16, .inl (fun j => nI (O.1 j)))), (cs, .inl (ca 3, 3, .inr (.inr (.inr (.inr fc))))), (q0, .inr (1, [.int (nI y), .ref d0, .int (nI ((K 0).1)), .int (nI ((K 0).2.1)), .int (nI ((K 0).2.2.1)), .int (nI ((K 0).2.2.2.1)), .int (nI ((K 0).2.2.2.2.1))])), (d0, .inr (0, [.ref a0, .int (nI (((K 0).2.2.2.2.2).2))])), (a0, .inl (ca 0, 2, .inl (fun j => nI ((((K 0).2.2.2.2.2).1) j)))), (q1, .inr (1, [.int (nI y), .ref d1, .int (nI ((K 1).1)), .int (nI ((K 1).2.1)), .int (nI ((K 1).2.2.1)), .int (nI ((K 1).2.2.2.1)), .int (nI ((K 1).2.2.2.2.1))])), (d1, .inr (0, [.ref a1, .int (nI (((K 1).2.2.2.2.2).2))])), (a1, .inl (ca 0, 2, .inl (fun j => nI ((((K 1).2.2.2.2.2).1) j)))), (q2, .inr (1, [.int (nI y), .ref d2, .int (nI ((K 2).1)), .int (nI ((K 2).2.1)), .int (nI ((K 2).2.2.1)), .int (nI ((K 2).2.2.2.1)), .int (nI ((K 2).2.2.2.2.1))])), (d2, .inr (0, [.ref a2, .int (nI (((K 2).2.2.2.2.2).2))])), (a2, .inl (ca 0, 2, .inl (fun j => nI ((((K 2).2.2.2.2.2).1) j))))] := hD
  refine lv_aload_n hx hb dSt_cleanAs_25 rfl (lv_at hl 0 rfl) ?_
  refine lv_iconst (v := nI 0) hx hb dSt_cleanAs_26 (by decide) ?_
  refine va_put (D := D) (ci := 2) (v := .int (nI 0)) (ty := .boolean) (C := RSt) (T := TSt) (N := 10) hx hb ht inSt tySt tySt_ok nmSt hown hE.1 hP hD hS 0 rfl rfl 9 (by decide) (ht _ tw_105) (fun _ h => h) rfl (by decide +kernel) rfl rfl (Nat.le_of_ble_eq_true rfl) dSt_cleanAs_27 (fun H locs hP hD hS => ?_)
  have hP : va_P D cls_ [(h, .inr (2, [.ref ln, .ref pe, .ref ou, .ref cs, .int (nI nl), .int (nI 0), .int (nI 0), .int (nI 0), .int (nI 0), .int (nI 0)])), (ou, .inr (0, [.ref oua, .int (nI O.2)])), (oua, .inl (ca 0, 16, .inl (fun j => nI (O.1 j)))), (cs, .inl (ca 3, 3, .inr (.inr (.inr (.inr fc))))), (q0, .inr (1, [.int (nI y), .ref d0, .int (nI ((K 0).1)), .int (nI ((K 0).2.1)), .int (nI ((K 0).2.2.1)), .int (nI ((K 0).2.2.2.1)), .int (nI ((K 0).2.2.2.2.1))])), (d0, .inr (0, [.ref a0, .int (nI (((K 0).2.2.2.2.2).2))])), (a0, .inl (ca 0, 2, .inl (fun j => nI ((((K 0).2.2.2.2.2).1) j)))), (q1, .inr (1, [.int (nI y), .ref d1, .int (nI ((K 1).1)), .int (nI ((K 1).2.1)), .int (nI ((K 1).2.2.1)), .int (nI ((K 1).2.2.2.1)), .int (nI ((K 1).2.2.2.2.1))])), (d1, .inr (0, [.ref a1, .int (nI (((K 1).2.2.2.2.2).2))])), (a1, .inl (ca 0, 2, .inl (fun j => nI ((((K 1).2.2.2.2.2).1) j)))), (q2, .inr (1, [.int (nI y), .ref d2, .int (nI ((K 2).1)), .int (nI ((K 2).2.1)), .int (nI ((K 2).2.2.1)), .int (nI ((K 2).2.2.2.1)), .int (nI ((K 2).2.2.2.2.1))])), (d2, .inr (0, [.ref a2, .int (nI (((K 2).2.2.2.2.2).2))])), (a2, .inl (ca 0, 2, .inl (fun j => nI ((((K 2).2.2.2.2.2).1) j))))] H := hP
  have hD : va_D A [(h, .inr (2, [.ref ln, .ref pe, .ref ou, .ref cs, .int (nI nl), .int (nI 0), .int (nI 0), .int (nI 0), .int (nI 0), .int (nI 0)])), (ou, .inr (0, [.ref oua, .int (nI O.2)])), (oua, .inl (ca 0, 16, .inl (fun j => nI (O.1 j)))), (cs, .inl (ca 3, 3, .inr (.inr (.inr (.inr fc))))), (q0, .inr (1, [.int (nI y), .ref d0, .int (nI ((K 0).1)), .int (nI ((K 0).2.1)), .int (nI ((K 0).2.2.1)), .int (nI ((K 0).2.2.2.1)), .int (nI ((K 0).2.2.2.2.1))])), (d0, .inr (0, [.ref a0, .int (nI (((K 0).2.2.2.2.2).2))])), (a0, .inl (ca 0, 2, .inl (fun j => nI ((((K 0).2.2.2.2.2).1) j)))), (q1, .inr (1, [.int (nI y), .ref d1, .int (nI ((K 1).1)), .int (nI ((K 1).2.1)), .int (nI ((K 1).2.2.1)), .int (nI ((K 1).2.2.2.1)), .int (nI ((K 1).2.2.2.2.1))])), (d1, .inr (0, [.ref a1, .int (nI (((K 1).2.2.2.2.2).2))])), (a1, .inl (ca 0, 2, .inl (fun j => nI ((((K 1).2.2.2.2.2).1) j)))), (q2, .inr (1, [.int (nI y), .ref d2, .int (nI ((K 2).1)), .int (nI ((K 2).2.1)), .int (nI ((K 2).2.2.1)), .int (nI ((K 2).2.2.2.1)), .int (nI ((K 2).2.2.2.2.1))])), (d2, .inr (0, [.ref a2, .int (nI (((K 2).2.2.2.2.2).2))])), (a2, .inl (ca 0, 2, .inl (fun j => nI ((((K 2).2.2.2.2.2).1) j))))] := hD
  refine lv_aload_n hx hb dSt_cleanAs_30 rfl (lv_at hl 0 rfl) ?_
  refine va_get (D := D) (ci := 2) (v := .ref ou) (C := RSt) (T := TSt) (N := 10) hx hb ht inSt hown hE.1 hP 0 rfl rfl 2 (by decide) (ht _ tw_91) (fun _ h => h) rfl dSt_cleanAs_31 ?_
  refine lv_iconst (v := nI 0) hx hb dSt_cleanAs_34 (by decide) ?_
  refine va_putN (D := D) (ci := 0) (v := .int (nI 0)) (ty := .int) (host := "ChannelledLink") (C := RRw) (T := TRw) (N := 2) hx hb ht inRw tyRw tyRw_ok nmRw hown hE.1 hP hD hS 1 rfl rfl 1 (by decide) (hE.nestU tw_34 rfl) (fun _ h => h) rfl (by decide +kernel) rfl rfl (Nat.le_of_ble_eq_true rfl) dSt_cleanAs_35 (fun H locs hP hD hS => ?_)
  have hP : va_P D cls_ [(h, .inr (2, [.ref ln, .ref pe, .ref ou, .ref cs, .int (nI nl), .int (nI 0), .int (nI 0), .int (nI 0), .int (nI 0), .int (nI 0)])), (ou, .inr (0, [.ref oua, .int (nI 0)])), (oua, .inl (ca 0, 16, .inl (fun j => nI (O.1 j)))), (cs, .inl (ca 3, 3, .inr (.inr (.inr (.inr fc))))), (q0, .inr (1, [.int (nI y), .ref d0, .int (nI ((K 0).1)), .int (nI ((K 0).2.1)), .int (nI ((K 0).2.2.1)), .int (nI ((K 0).2.2.2.1)), .int (nI ((K 0).2.2.2.2.1))])), (d0, .inr (0, [.ref a0, .int (nI (((K 0).2.2.2.2.2).2))])), (a0, .inl (ca 0, 2, .inl (fun j => nI ((((K 0).2.2.2.2.2).1) j)))), (q1, .inr (1, [.int (nI y), .ref d1, .int (nI ((K 1).1)), .int (nI ((K 1).2.1)), .int (nI ((K 1).2.2.1)), .int (nI ((K 1).2.2.2.1)), .int (nI ((K 1).2.2.2.2.1))])), (d1, .inr (0, [.ref a1, .int (nI (((K 1).2.2.2.2.2).2))])), (a1, .inl (ca 0, 2, .inl (fun j => nI ((((K 1).2.2.2.2.2).1) j)))), (q2, .inr (1, [.int (nI y), .ref d2, .int (nI ((K 2).1)), .int (nI ((K 2).2.1)), .int (nI ((K 2).2.2.1)), .int (nI ((K 2).2.2.2.1)), .int (nI ((K 2).2.2.2.2.1))])), (d2, .inr (0, [.ref a2, .int (nI (((K 2).2.2.2.2.2).2))])), (a2, .inl (ca 0, 2, .inl (fun j => nI ((((K 2).2.2.2.2.2).1) j))))] H := hP
  have hD : va_D A [(h, .inr (2, [.ref ln, .ref pe, .ref ou, .ref cs, .int (nI nl), .int (nI 0), .int (nI 0), .int (nI 0), .int (nI 0), .int (nI 0)])), (ou, .inr (0, [.ref oua, .int (nI 0)])), (oua, .inl (ca 0, 16, .inl (fun j => nI (O.1 j)))), (cs, .inl (ca 3, 3, .inr (.inr (.inr (.inr fc))))), (q0, .inr (1, [.int (nI y), .ref d0, .int (nI ((K 0).1)), .int (nI ((K 0).2.1)), .int (nI ((K 0).2.2.1)), .int (nI ((K 0).2.2.2.1)), .int (nI ((K 0).2.2.2.2.1))])), (d0, .inr (0, [.ref a0, .int (nI (((K 0).2.2.2.2.2).2))])), (a0, .inl (ca 0, 2, .inl (fun j => nI ((((K 0).2.2.2.2.2).1) j)))), (q1, .inr (1, [.int (nI y), .ref d1, .int (nI ((K 1).1)), .int (nI ((K 1).2.1)), .int (nI ((K 1).2.2.1)), .int (nI ((K 1).2.2.2.1)), .int (nI ((K 1).2.2.2.2.1))])), (d1, .inr (0, [.ref a1, .int (nI (((K 1).2.2.2.2.2).2))])), (a1, .inl (ca 0, 2, .inl (fun j => nI ((((K 1).2.2.2.2.2).1) j)))), (q2, .inr (1, [.int (nI y), .ref d2, .int (nI ((K 2).1)), .int (nI ((K 2).2.1)), .int (nI ((K 2).2.2.1)), .int (nI ((K 2).2.2.2.1)), .int (nI ((K 2).2.2.2.2.1))])), (d2, .inr (0, [.ref a2, .int (nI (((K 2).2.2.2.2.2).2))])), (a2, .inl (ca 0, 2, .inl (fun j => nI ((((K 2).2.2.2.2.2).1) j))))] := hD
  refine lv_iconst (v := nI 0) hx hb dSt_cleanAs_38 (by decide) ?_
  refine lv_istore_n hx hb dSt_cleanAs_39 rfl hl (by decide) rfl (fun ls hl => ?_)
  have hl : lv_has ls 3 [(2, .int (nI 0)), (0, .ref h), (1, .int (nI nl))] := hl
  refine lv_iload_n hx hb dSt_cleanAs_40 rfl (lv_at hl 0 rfl) ?_
  refine lv_iconst (v := nI 3) hx hb dSt_cleanAs_41 (by decide) ?_
  refine k_icmp_ge (tgt := 61) hx hb (by omega) (by omega) dSt_cleanAs_42 rfl (fun hz => absurd hz (by omega)) (fun h42 => ?_)
  refine lv_aload_n hx hb dSt_cleanAs_45 rfl (lv_at hl 1 rfl) ?_
  refine va_get (D := D) (ci := 2) (v := .ref cs) (C := RSt) (T := TSt) (N := 10) hx hb ht inSt hown hE.1 hP 0 rfl rfl 3 (by decide) (ht _ tw_93) (fun _ h => h) rfl dSt_cleanAs_46 ?_
  refine lv_iload_n hx hb dSt_cleanAs_49 rfl (lv_at hl 0 rfl) ?_
  refine k_aald hx hb hE.1 hP 3 3 (n := 3) (f := fc) rfl rfl (i := 0) (by omega) (by omega) (q := q0) hq0 dSt_cleanAs_50 ?_
  refine lv_iconst (v := nI 0) hx hb dSt_cleanAs_51 (by decide) ?_
  refine kV (rV fx (c_Ch_renewAs l D ca q0 d0 a0 y ((K 0).1) ((K 0).2.1) ((K 0).2.2.1) ((K 0).2.2.2.1) ((K 0).2.2.2.2.1) ((K 0).2.2.2.2.2) 0) ⟨callB_of 1 hts (tb_gi tw_223) rfl rfl rfl (ht _ tw_4) (ht _ tw_220) (by decide +kernel) ⟨(Nat.le_of_ble_eq_true rfl), (Nat.le_of_ble_eq_true rfl)⟩, ht _ tw_221, ht _ tw_222⟩ hE hP hD 4 rfl rfl rfl [4, 5, 6] rfl rfl rfl hl.1 rfl (Nat.le_of_ble_eq_true rfl) dSt_cleanAs_52 ⟨(Nat.le_of_ble_eq_true rfl), (Nat.le_of_ble_eq_true rfl)⟩) hP hD hS hA [4, 5, 6] [0, 1, 2, 3, 7, 8, 9, 10, 11, 12] rfl rfl rfl (by decide) (fun _ H locs _ hP hD hS => ?_)
  have hP : va_P D cls_ [(h, .inr (2, [.ref ln, .ref pe, .ref ou, .ref cs, .int (nI nl), .int (nI 0), .int (nI 0), .int (nI 0), .int (nI 0), .int (nI 0)])), (ou, .inr (0, [.ref oua, .int (nI 0)])), (oua, .inl (ca 0, 16, .inl (fun j => nI (O.1 j)))), (cs, .inl (ca 3, 3, .inr (.inr (.inr (.inr fc))))), (q1, .inr (1, [.int (nI y), .ref d1, .int (nI ((K 1).1)), .int (nI ((K 1).2.1)), .int (nI ((K 1).2.2.1)), .int (nI ((K 1).2.2.2.1)), .int (nI ((K 1).2.2.2.2.1))])), (d1, .inr (0, [.ref a1, .int (nI (((K 1).2.2.2.2.2).2))])), (a1, .inl (ca 0, 2, .inl (fun j => nI ((((K 1).2.2.2.2.2).1) j)))), (q2, .inr (1, [.int (nI y), .ref d2, .int (nI ((K 2).1)), .int (nI ((K 2).2.1)), .int (nI ((K 2).2.2.1)), .int (nI ((K 2).2.2.2.1)), .int (nI ((K 2).2.2.2.2.1))])), (d2, .inr (0, [.ref a2, .int (nI (((K 2).2.2.2.2.2).2))])), (a2, .inl (ca 0, 2, .inl (fun j => nI ((((K 2).2.2.2.2.2).1) j)))), (q0, .inr (1, [.int (nI y), .ref d0, .int (nI 0), .int (nI 0), .int (nI 0), .int (nI 0), .int (nI 0)])), (d0, .inr (0, [.ref a0, .int (nI ((rNone ((K 0).2.2.2.2.2)).2))])), (a0, .inl (ca 0, 2, .inl (fun j => nI (((rNone ((K 0).2.2.2.2.2)).1) j))))] H := hP
  have hD : va_D A [(h, .inr (2, [.ref ln, .ref pe, .ref ou, .ref cs, .int (nI nl), .int (nI 0), .int (nI 0), .int (nI 0), .int (nI 0), .int (nI 0)])), (ou, .inr (0, [.ref oua, .int (nI 0)])), (oua, .inl (ca 0, 16, .inl (fun j => nI (O.1 j)))), (cs, .inl (ca 3, 3, .inr (.inr (.inr (.inr fc))))), (q1, .inr (1, [.int (nI y), .ref d1, .int (nI ((K 1).1)), .int (nI ((K 1).2.1)), .int (nI ((K 1).2.2.1)), .int (nI ((K 1).2.2.2.1)), .int (nI ((K 1).2.2.2.2.1))])), (d1, .inr (0, [.ref a1, .int (nI (((K 1).2.2.2.2.2).2))])), (a1, .inl (ca 0, 2, .inl (fun j => nI ((((K 1).2.2.2.2.2).1) j)))), (q2, .inr (1, [.int (nI y), .ref d2, .int (nI ((K 2).1)), .int (nI ((K 2).2.1)), .int (nI ((K 2).2.2.1)), .int (nI ((K 2).2.2.2.1)), .int (nI ((K 2).2.2.2.2.1))])), (d2, .inr (0, [.ref a2, .int (nI (((K 2).2.2.2.2.2).2))])), (a2, .inl (ca 0, 2, .inl (fun j => nI ((((K 2).2.2.2.2.2).1) j)))), (q0, .inr (1, [.int (nI y), .ref d0, .int (nI 0), .int (nI 0), .int (nI 0), .int (nI 0), .int (nI 0)])), (d0, .inr (0, [.ref a0, .int (nI ((rNone ((K 0).2.2.2.2.2)).2))])), (a0, .inl (ca 0, 2, .inl (fun j => nI (((rNone ((K 0).2.2.2.2.2)).1) j))))] := hD
  refine lv_iinc (k := 0) (v := nI (0 + 1)) hx hb dSt_cleanAs_55 hl rfl (n_inc _) (by decide) rfl (fun ls hl => ?_)
  have hl : lv_has ls 3 [(2, .int (nI (0 + 1))), (0, .ref h), (1, .int (nI nl))] := hl
  refine lv_goto (tgt := 40) hx hb dSt_cleanAs_58 rfl ?_
  refine lv_iload_n hx hb dSt_cleanAs_40 rfl (lv_at hl 0 rfl) ?_
  refine lv_iconst (v := nI 3) hx hb dSt_cleanAs_41 (by decide) ?_
  refine k_icmp_ge (tgt := 61) hx hb (by omega) (by omega) dSt_cleanAs_42 rfl (fun hz => absurd hz (by omega)) (fun h42 => ?_)
  refine lv_aload_n hx hb dSt_cleanAs_45 rfl (lv_at hl 1 rfl) ?_
  refine va_get (D := D) (ci := 2) (v := .ref cs) (C := RSt) (T := TSt) (N := 10) hx hb ht inSt hown hE.1 hP 0 rfl rfl 3 (by decide) (ht _ tw_93) (fun _ h => h) rfl dSt_cleanAs_46 ?_
  refine lv_iload_n hx hb dSt_cleanAs_49 rfl (lv_at hl 0 rfl) ?_
  refine k_aald hx hb hE.1 hP 3 3 (n := 3) (f := fc) rfl rfl (i := (0 + 1)) (by omega) (by omega) (q := q1) hq1 dSt_cleanAs_50 ?_
  refine lv_iconst (v := nI 0) hx hb dSt_cleanAs_51 (by decide) ?_
  refine kV (rV fx (c_Ch_renewAs l D ca q1 d1 a1 y ((K 1).1) ((K 1).2.1) ((K 1).2.2.1) ((K 1).2.2.2.1) ((K 1).2.2.2.2.1) ((K 1).2.2.2.2.2) 0) ⟨callB_of 1 hts (tb_gi tw_223) rfl rfl rfl (ht _ tw_4) (ht _ tw_220) (by decide +kernel) ⟨(Nat.le_of_ble_eq_true rfl), (Nat.le_of_ble_eq_true rfl)⟩, ht _ tw_221, ht _ tw_222⟩ hE hP hD 4 rfl rfl rfl [4, 5, 6] rfl rfl rfl hl.1 rfl (Nat.le_of_ble_eq_true rfl) dSt_cleanAs_52 ⟨(Nat.le_of_ble_eq_true rfl), (Nat.le_of_ble_eq_true rfl)⟩) hP hD hS hA [4, 5, 6] [0, 1, 2, 3, 7, 8, 9, 10, 11, 12] rfl rfl rfl (by decide) (fun _ H locs _ hP hD hS => ?_)
  have hP : va_P D cls_ [(h, .inr (2, [.ref ln, .ref pe, .ref ou, .ref cs, .int (nI nl), .int (nI 0), .int (nI 0), .int (nI 0), .int (nI 0), .int (nI 0)])), (ou, .inr (0, [.ref oua, .int (nI 0)])), (oua, .inl (ca 0, 16, .inl (fun j => nI (O.1 j)))), (cs, .inl (ca 3, 3, .inr (.inr (.inr (.inr fc))))), (q2, .inr (1, [.int (nI y), .ref d2, .int (nI ((K 2).1)), .int (nI ((K 2).2.1)), .int (nI ((K 2).2.2.1)), .int (nI ((K 2).2.2.2.1)), .int (nI ((K 2).2.2.2.2.1))])), (d2, .inr (0, [.ref a2, .int (nI (((K 2).2.2.2.2.2).2))])), (a2, .inl (ca 0, 2, .inl (fun j => nI ((((K 2).2.2.2.2.2).1) j)))), (q0, .inr (1, [.int (nI y), .ref d0, .int (nI 0), .int (nI 0), .int (nI 0), .int (nI 0), .int (nI 0)])), (d0, .inr (0, [.ref a0, .int (nI ((rNone ((K 0).2.2.2.2.2)).2))])), (a0, .inl (ca 0, 2, .inl (fun j => nI (((rNone ((K 0).2.2.2.2.2)).1) j)))), (q1, .inr (1, [.int (nI y), .ref d1, .int (nI 0), .int (nI 0), .int (nI 0), .int (nI 0), .int (nI 0)])), (d1, .inr (0, [.ref a1, .int (nI ((rNone ((K 1).2.2.2.2.2)).2))])), (a1, .inl (ca 0, 2, .inl (fun j => nI (((rNone ((K 1).2.2.2.2.2)).1) j))))] H := hP
  have hD : va_D A [(h, .inr (2, [.ref ln, .ref pe, .ref ou, .ref cs, .int (nI nl), .int (nI 0), .int (nI 0), .int (nI 0), .int (nI 0), .int (nI 0)])), (ou, .inr (0, [.ref oua, .int (nI 0)])), (oua, .inl (ca 0, 16, .inl (fun j => nI (O.1 j)))), (cs, .inl (ca 3, 3, .inr (.inr (.inr (.inr fc))))), (q2, .inr (1, [.int (nI y), .ref d2, .int (nI ((K 2).1)), .int (nI ((K 2).2.1)), .int (nI ((K 2).2.2.1)), .int (nI ((K 2).2.2.2.1)), .int (nI ((K 2).2.2.2.2.1))])), (d2, .inr (0, [.ref a2, .int (nI (((K 2).2.2.2.2.2).2))])), (a2, .inl (ca 0, 2, .inl (fun j => nI ((((K 2).2.2.2.2.2).1) j)))), (q0, .inr (1, [.int (nI y), .ref d0, .int (nI 0), .int (nI 0), .int (nI 0), .int (nI 0), .int (nI 0)])), (d0, .inr (0, [.ref a0, .int (nI ((rNone ((K 0).2.2.2.2.2)).2))])), (a0, .inl (ca 0, 2, .inl (fun j => nI (((rNone ((K 0).2.2.2.2.2)).1) j)))), (q1, .inr (1, [.int (nI y), .ref d1, .int (nI 0), .int (nI 0), .int (nI 0), .int (nI 0), .int (nI 0)])), (d1, .inr (0, [.ref a1, .int (nI ((rNone ((K 1).2.2.2.2.2)).2))])), (a1, .inl (ca 0, 2, .inl (fun j => nI (((rNone ((K 1).2.2.2.2.2)).1) j))))] := hD
  refine lv_iinc (k := 0) (v := nI ((0 + 1) + 1)) hx hb dSt_cleanAs_55 hl rfl (n_inc _) (by decide) rfl (fun ls hl => ?_)
  have hl : lv_has ls 3 [(2, .int (nI ((0 + 1) + 1))), (0, .ref h), (1, .int (nI nl))] := hl
  refine lv_goto (tgt := 40) hx hb dSt_cleanAs_58 rfl ?_
  refine lv_iload_n hx hb dSt_cleanAs_40 rfl (lv_at hl 0 rfl) ?_
  refine lv_iconst (v := nI 3) hx hb dSt_cleanAs_41 (by decide) ?_
  refine k_icmp_ge (tgt := 61) hx hb (by omega) (by omega) dSt_cleanAs_42 rfl (fun hz => absurd hz (by omega)) (fun h42 => ?_)
  refine lv_aload_n hx hb dSt_cleanAs_45 rfl (lv_at hl 1 rfl) ?_
  refine va_get (D := D) (ci := 2) (v := .ref cs) (C := RSt) (T := TSt) (N := 10) hx hb ht inSt hown hE.1 hP 0 rfl rfl 3 (by decide) (ht _ tw_93) (fun _ h => h) rfl dSt_cleanAs_46 ?_
  refine lv_iload_n hx hb dSt_cleanAs_49 rfl (lv_at hl 0 rfl) ?_
  refine k_aald hx hb hE.1 hP 3 3 (n := 3) (f := fc) rfl rfl (i := ((0 + 1) + 1)) (by omega) (by omega) (q := q2) hq2 dSt_cleanAs_50 ?_
  refine lv_iconst (v := nI 0) hx hb dSt_cleanAs_51 (by decide) ?_
  refine kV (rV fx (c_Ch_renewAs l D ca q2 d2 a2 y ((K 2).1) ((K 2).2.1) ((K 2).2.2.1) ((K 2).2.2.2.1) ((K 2).2.2.2.2.1) ((K 2).2.2.2.2.2) 0) ⟨callB_of 1 hts (tb_gi tw_223) rfl rfl rfl (ht _ tw_4) (ht _ tw_220) (by decide +kernel) ⟨(Nat.le_of_ble_eq_true rfl), (Nat.le_of_ble_eq_true rfl)⟩, ht _ tw_221, ht _ tw_222⟩ hE hP hD 4 rfl rfl rfl [4, 5, 6] rfl rfl rfl hl.1 rfl (Nat.le_of_ble_eq_true rfl) dSt_cleanAs_52 ⟨(Nat.le_of_ble_eq_true rfl), (Nat.le_of_ble_eq_true rfl)⟩) hP hD hS hA [4, 5, 6] [0, 1, 2, 3, 7, 8, 9, 10, 11, 12] rfl rfl rfl (by decide) (fun _ H locs _ hP hD hS => ?_)
  have hP : va_P D cls_ [(h, .inr (2, [.ref ln, .ref pe, .ref ou, .ref cs, .int (nI nl), .int (nI 0), .int (nI 0), .int (nI 0), .int (nI 0), .int (nI 0)])), (ou, .inr (0, [.ref oua, .int (nI 0)])), (oua, .inl (ca 0, 16, .inl (fun j => nI (O.1 j)))), (cs, .inl (ca 3, 3, .inr (.inr (.inr (.inr fc))))), (q0, .inr (1, [.int (nI y), .ref d0, .int (nI 0), .int (nI 0), .int (nI 0), .int (nI 0), .int (nI 0)])), (d0, .inr (0, [.ref a0, .int (nI ((rNone ((K 0).2.2.2.2.2)).2))])), (a0, .inl (ca 0, 2, .inl (fun j => nI (((rNone ((K 0).2.2.2.2.2)).1) j)))), (q1, .inr (1, [.int (nI y), .ref d1, .int (nI 0), .int (nI 0), .int (nI 0), .int (nI 0), .int (nI 0)])), (d1, .inr (0, [.ref a1, .int (nI ((rNone ((K 1).2.2.2.2.2)).2))])), (a1, .inl (ca 0, 2, .inl (fun j => nI (((rNone ((K 1).2.2.2.2.2)).1) j)))), (q2, .inr (1, [.int (nI y), .ref d2, .int (nI 0), .int (nI 0), .int (nI 0), .int (nI 0), .int (nI 0)])), (d2, .inr (0, [.ref a2, .int (nI ((rNone ((K 2).2.2.2.2.2)).2))])), (a2, .inl (ca 0, 2, .inl (fun j => nI (((rNone ((K 2).2.2.2.2.2)).1) j))))] H := hP
  have hD : va_D A [(h, .inr (2, [.ref ln, .ref pe, .ref ou, .ref cs, .int (nI nl), .int (nI 0), .int (nI 0), .int (nI 0), .int (nI 0), .int (nI 0)])), (ou, .inr (0, [.ref oua, .int (nI 0)])), (oua, .inl (ca 0, 16, .inl (fun j => nI (O.1 j)))), (cs, .inl (ca 3, 3, .inr (.inr (.inr (.inr fc))))), (q0, .inr (1, [.int (nI y), .ref d0, .int (nI 0), .int (nI 0), .int (nI 0), .int (nI 0), .int (nI 0)])), (d0, .inr (0, [.ref a0, .int (nI ((rNone ((K 0).2.2.2.2.2)).2))])), (a0, .inl (ca 0, 2, .inl (fun j => nI (((rNone ((K 0).2.2.2.2.2)).1) j)))), (q1, .inr (1, [.int (nI y), .ref d1, .int (nI 0), .int (nI 0), .int (nI 0), .int (nI 0), .int (nI 0)])), (d1, .inr (0, [.ref a1, .int (nI ((rNone ((K 1).2.2.2.2.2)).2))])), (a1, .inl (ca 0, 2, .inl (fun j => nI (((rNone ((K 1).2.2.2.2.2)).1) j)))), (q2, .inr (1, [.int (nI y), .ref d2, .int (nI 0), .int (nI 0), .int (nI 0), .int (nI 0), .int (nI 0)])), (d2, .inr (0, [.ref a2, .int (nI ((rNone ((K 2).2.2.2.2.2)).2))])), (a2, .inl (ca 0, 2, .inl (fun j => nI (((rNone ((K 2).2.2.2.2.2)).1) j))))] := hD
  refine lv_iinc (k := 0) (v := nI (((0 + 1) + 1) + 1)) hx hb dSt_cleanAs_55 hl rfl (n_inc _) (by decide) rfl (fun ls hl => ?_)
  have hl : lv_has ls 3 [(2, .int (nI (((0 + 1) + 1) + 1))), (0, .ref h), (1, .int (nI nl))] := hl
  refine lv_goto (tgt := 40) hx hb dSt_cleanAs_58 rfl ?_
  refine lv_iload_n hx hb dSt_cleanAs_40 rfl (lv_at hl 0 rfl) ?_
  refine lv_iconst (v := nI 3) hx hb dSt_cleanAs_41 (by decide) ?_
  refine k_icmp_ge (tgt := 61) hx hb (by omega) (by omega) dSt_cleanAs_42 rfl (fun h42 => ?_) (fun hz => absurd hz (by omega))
  exact Co.retv hx hb hret hlk dSt_cleanAs_61 hS hP hD () rfl trivial rfl (Nat.le_of_ble_eq_true rfl) (Nat.le_of_ble_eq_true rfl)
set_option maxHeartbeats 4000000 in
set_option maxRecDepth 100000 in
theorem c_St_setUp (l : Launch) (D : va_G) (ca : Nat → ClassId) (h ln pe ou cs lk sn ac ex tr rj : Nat) (pea oua : Nat) (O P : Rw_) (q0 d0 a0 q1 d1 a1 q2 d2 a2 y : Nat) (fc : Nat → Option Nat) (K : Nat → Cn_) (hq0 : fc 0 = some q0) (hq1 : fc 1 = some q1) (hq2 : fc 2 = some q2) (hP1 : P.2 ≤ 12) : Co (S := Unit) l ySt_setUp (Cond.code ySt_setUp cSt_setUp 1 none :: tb_) { frames := 2, cells := 0, slots := 0, locals := 64 } D ca [.ref h] [(h, .inr (2, [.ref ln, .ref pe, .ref ou, .ref cs, .int (nI lk), .int (nI sn), .int (nI ac), .int (nI ex), .int (nI tr), .int (nI rj)])), (pe, .inr (0, [.ref pea, .int (nI P.2)])), (pea, .inl (ca 0, 12, .inl (fun j => nI (P.1 j)))), (ou, .inr (0, [.ref oua, .int (nI O.2)])), (oua, .inl (ca 0, 16, .inl (fun j => nI (O.1 j)))), (cs, .inl (ca 3, 3, .inr (.inr (.inr (.inr fc))))), (q0, .inr (1, [.int (nI y), .ref d0, .int (nI ((K 0).1)), .int (nI ((K 0).2.1)), .int (nI ((K 0).2.2.1)), .int (nI ((K 0).2.2.2.1)), .int (nI ((K 0).2.2.2.2.1))])), (d0, .inr (0, [.ref a0, .int (nI (((K 0).2.2.2.2.2).2))])), (a0, .inl (ca 0, 2, .inl (fun j => nI ((((K 0).2.2.2.2.2).1) j)))), (q1, .inr (1, [.int (nI y), .ref d1, .int (nI ((K 1).1)), .int (nI ((K 1).2.1)), .int (nI ((K 1).2.2.1)), .int (nI ((K 1).2.2.2.1)), .int (nI ((K 1).2.2.2.2.1))])), (d1, .inr (0, [.ref a1, .int (nI (((K 1).2.2.2.2.2).2))])), (a1, .inl (ca 0, 2, .inl (fun j => nI ((((K 1).2.2.2.2.2).1) j)))), (q2, .inr (1, [.int (nI y), .ref d2, .int (nI ((K 2).1)), .int (nI ((K 2).2.1)), .int (nI ((K 2).2.2.1)), .int (nI ((K 2).2.2.2.1)), .int (nI ((K 2).2.2.2.2.1))])), (d2, .inr (0, [.ref a2, .int (nI (((K 2).2.2.2.2.2).2))])), (a2, .inl (ca 0, 2, .inl (fun j => nI ((((K 2).2.2.2.2.2).1) j))))] (fun _ => none) (fun _ => True) (fun _ => [(h, .inr (2, [.ref ln, .ref pe, .ref ou, .ref cs, .int (nI ((sSetUp O K P).1.1)), .int (nI ((sSetUp O K P).1.2.1)), .int (nI ((sSetUp O K P).1.2.2.1)), .int (nI ((sSetUp O K P).1.2.2.2.1)), .int (nI ((sSetUp O K P).1.2.2.2.2.1)), .int (nI ((sSetUp O K P).1.2.2.2.2.2))])), (pe, .inr (0, [.ref pea, .int (nI (((sSetUp O K P).2.2.2).2))])), (pea, .inl (ca 0, 12, .inl (fun j => nI ((((sSetUp O K P).2.2.2).1) j)))), (ou, .inr (0, [.ref oua, .int (nI (((sSetUp O K P).2.1).2))])), (oua, .inl (ca 0, 16, .inl (fun j => nI ((((sSetUp O K P).2.1).1) j)))), (cs, .inl (ca 3, 3, .inr (.inr (.inr (.inr fc))))), (q0, .inr (1, [.int (nI y), .ref d0, .int (nI ((((sSetUp O K P).2.2.1) 0).1)), .int (nI ((((sSetUp O K P).2.2.1) 0).2.1)), .int (nI ((((sSetUp O K P).2.2.1) 0).2.2.1)), .int (nI ((((sSetUp O K P).2.2.1) 0).2.2.2.1)), .int (nI ((((sSetUp O K P).2.2.1) 0).2.2.2.2.1))])), (d0, .inr (0, [.ref a0, .int (nI (((((sSetUp O K P).2.2.1) 0).2.2.2.2.2).2))])), (a0, .inl (ca 0, 2, .inl (fun j => nI ((((((sSetUp O K P).2.2.1) 0).2.2.2.2.2).1) j)))), (q1, .inr (1, [.int (nI y), .ref d1, .int (nI ((((sSetUp O K P).2.2.1) 1).1)), .int (nI ((((sSetUp O K P).2.2.1) 1).2.1)), .int (nI ((((sSetUp O K P).2.2.1) 1).2.2.1)), .int (nI ((((sSetUp O K P).2.2.1) 1).2.2.2.1)), .int (nI ((((sSetUp O K P).2.2.1) 1).2.2.2.2.1))])), (d1, .inr (0, [.ref a1, .int (nI (((((sSetUp O K P).2.2.1) 1).2.2.2.2.2).2))])), (a1, .inl (ca 0, 2, .inl (fun j => nI ((((((sSetUp O K P).2.2.1) 1).2.2.2.2.2).1) j)))), (q2, .inr (1, [.int (nI y), .ref d2, .int (nI ((((sSetUp O K P).2.2.1) 2).1)), .int (nI ((((sSetUp O K P).2.2.1) 2).2.1)), .int (nI ((((sSetUp O K P).2.2.1) 2).2.2.1)), .int (nI ((((sSetUp O K P).2.2.1) 2).2.2.2.1)), .int (nI ((((sSetUp O K P).2.2.1) 2).2.2.2.2.1))])), (d2, .inr (0, [.ref a2, .int (nI (((((sSetUp O K P).2.2.1) 2).2.2.2.2.2).2))])), (a2, .inl (ca 0, 2, .inl (fun j => nI ((((((sSetUp O K P).2.2.1) 2).2.2.2.2.2).1) j))))]) 0 0 := by
  refine Co.of cSt_setUp 1 none (by decide) (Nat.le_of_ble_eq_true rfl) ?_
  intro p e s m args below meth c A ls fx hret hlk hin hE hP hD hS hA hl
  have hx := fx.1
  have hb := fx.2.1
  have hown : s.vm.findClass RSt = some m.cls := fx.2.2.2.1
  have hts := fx.2.2.2.2
  have ht : ∀ w ∈ tb_, w.before args s = true := fun w h => hts w (List.mem_cons_of_mem _ h)
  have hl : lv_has ls 1 [(0, .ref h)] := hl
  refine lv_aload_n hx hb dSt_setUp_0 rfl (lv_at hl 0 rfl) ?_
  refine lv_iconst (v := nI 1) hx hb dSt_setUp_1 (by decide) ?_
  refine kV (rV fx (c_St_cleanAs l D ca h ln pe ou cs lk sn ac ex tr rj oua O q0 d0 a0 q1 d1 a1 q2 d2 a2 y fc K hq0 hq1 hq2 1) ⟨callB_of 1 hts (tb_gi tw_219) rfl rfl rfl (ht _ tw_3) (ht _ tw_216) (by decide +kernel) ⟨(Nat.le_of_ble_eq_true rfl), (Nat.le_of_ble_eq_true rfl)⟩, ht _ tw_218, ht _ tw_828⟩ hE hP hD 0 rfl rfl rfl [0, 3, 4, 5, 6, 7, 8, 9, 10, 11, 12, 13, 14] rfl rfl rfl hl.1 rfl (Nat.le_of_ble_eq_true rfl) dSt_setUp_2 ⟨(Nat.le_of_ble_eq_true rfl), (Nat.le_of_ble_eq_true rfl)⟩) hP hD hS hA [0, 3, 4, 5, 6, 7, 8, 9, 10, 11, 12, 13, 14] [1, 2] rfl rfl rfl (by decide) (fun _ H locs _ hP hD hS => ?_)
  have hP : va_P D cls_ [(pe, .inr (0, [.ref pea, .int (nI P.2)])), (pea, .inl (ca 0, 12, .inl (fun j => nI (P.1 j)))), (h, .inr (2, [.ref ln, .ref pe, .ref ou, .ref cs, .int (nI 1), .int (nI 0), .int (nI 0), .int (nI 0), .int (nI 0), .int (nI 0)])), (ou, .inr (0, [.ref oua, .int (nI ((rNone O).2))])), (oua, .inl (ca 0, 16, .inl (fun j => nI (((rNone O).1) j)))), (cs, .inl (ca 3, 3, .inr (.inr (.inr (.inr fc))))), (q0, .inr (1, [.int (nI y), .ref d0, .int (nI (((kClean K) 0).1)), .int (nI (((kClean K) 0).2.1)), .int (nI (((kClean K) 0).2.2.1)), .int (nI (((kClean K) 0).2.2.2.1)), .int (nI (((kClean K) 0).2.2.2.2.1))])), (d0, .inr (0, [.ref a0, .int (nI ((((kClean K) 0).2.2.2.2.2).2))])), (a0, .inl (ca 0, 2, .inl (fun j => nI (((((kClean K) 0).2.2.2.2.2).1) j)))), (q1, .inr (1, [.int (nI y), .ref d1, .int (nI (((kClean K) 1).1)), .int (nI (((kClean K) 1).2.1)), .int (nI (((kClean K) 1).2.2.1)), .int (nI (((kClean K) 1).2.2.2.1)), .int (nI (((kClean K) 1).2.2.2.2.1))])), (d1, .inr (0, [.ref a1, .int (nI ((((kClean K) 1).2.2.2.2.2).2))])), (a1, .inl (ca 0, 2, .inl (fun j => nI (((((kClean K) 1).2.2.2.2.2).1) j)))), (q2, .inr (1, [.int (nI y), .ref d2, .int (nI (((kClean K) 2).1)), .int (nI (((kClean K) 2).2.1)), .int (nI (((kClean K) 2).2.2.1)), .int (nI (((kClean K) 2).2.2.2.1)), .int (nI (((kClean K) 2).2.2.2.2.1))])), (d2, .inr (0, [.ref a2, .int (nI ((((kClean K) 2).2.2.2.2.2).2))])), (a2, .inl (ca 0, 2, .inl (fun j => nI (((((kClean K) 2).2.2.2.2.2).1) j))))] H := hP
  have hD : va_D A [(pe, .inr (0, [.ref pea, .int (nI P.2)])), (pea, .inl (ca 0, 12, .inl (fun j => nI (P.1 j)))), (h, .inr (2, [.ref ln, .ref pe, .ref ou, .ref cs, .int (nI 1), .int (nI 0), .int (nI 0), .int (nI 0), .int (nI 0), .int (nI 0)])), (ou, .inr (0, [.ref oua, .int (nI ((rNone O).2))])), (oua, .inl (ca 0, 16, .inl (fun j => nI (((rNone O).1) j)))), (cs, .inl (ca 3, 3, .inr (.inr (.inr (.inr fc))))), (q0, .inr (1, [.int (nI y), .ref d0, .int (nI (((kClean K) 0).1)), .int (nI (((kClean K) 0).2.1)), .int (nI (((kClean K) 0).2.2.1)), .int (nI (((kClean K) 0).2.2.2.1)), .int (nI (((kClean K) 0).2.2.2.2.1))])), (d0, .inr (0, [.ref a0, .int (nI ((((kClean K) 0).2.2.2.2.2).2))])), (a0, .inl (ca 0, 2, .inl (fun j => nI (((((kClean K) 0).2.2.2.2.2).1) j)))), (q1, .inr (1, [.int (nI y), .ref d1, .int (nI (((kClean K) 1).1)), .int (nI (((kClean K) 1).2.1)), .int (nI (((kClean K) 1).2.2.1)), .int (nI (((kClean K) 1).2.2.2.1)), .int (nI (((kClean K) 1).2.2.2.2.1))])), (d1, .inr (0, [.ref a1, .int (nI ((((kClean K) 1).2.2.2.2.2).2))])), (a1, .inl (ca 0, 2, .inl (fun j => nI (((((kClean K) 1).2.2.2.2.2).1) j)))), (q2, .inr (1, [.int (nI y), .ref d2, .int (nI (((kClean K) 2).1)), .int (nI (((kClean K) 2).2.1)), .int (nI (((kClean K) 2).2.2.1)), .int (nI (((kClean K) 2).2.2.2.1)), .int (nI (((kClean K) 2).2.2.2.2.1))])), (d2, .inr (0, [.ref a2, .int (nI ((((kClean K) 2).2.2.2.2.2).2))])), (a2, .inl (ca 0, 2, .inl (fun j => nI (((((kClean K) 2).2.2.2.2.2).1) j))))] := hD
  refine lv_aload_n hx hb dSt_setUp_5 rfl (lv_at hl 0 rfl) ?_
  refine lv_iconst (v := nI 1) hx hb dSt_setUp_6 (by decide) ?_
  refine kV (rV fx (c_St_sendUnnumbered l D ca h ln pe ou cs 1 0 0 0 0 0 pea P 1 (by omega) (by first | assumption | exact rAdd_le (by assumption) | exact cPump_le (by assumption) | exact cAgain_le (by assumption) | exact cPump_le (cAgain_le (by assumption)) | omega)) ⟨callB_of 1 hts (tb_gi tw_227) rfl rfl rfl (ht _ tw_3) (ht _ tw_224) (by decide +kernel) ⟨(Nat.le_of_ble_eq_true rfl), (Nat.le_of_ble_eq_true rfl)⟩, ht _ tw_226, ht _ tw_829⟩ hE hP hD 2 rfl rfl rfl [2, 0, 1] rfl rfl rfl hl.1 rfl (Nat.le_of_ble_eq_true rfl) dSt_setUp_7 ⟨(Nat.le_of_ble_eq_true rfl), (Nat.le_of_ble_eq_true rfl)⟩) hP hD hS hA [2, 0, 1] [3, 4, 5, 6, 7, 8, 9, 10, 11, 12, 13, 14] rfl rfl rfl (by decide) (fun _ H locs _ hP hD hS => ?_)
  have hP : va_P D cls_ [(ou, .inr (0, [.ref oua, .int (nI ((rNone O).2))])), (oua, .inl (ca 0, 16, .inl (fun j => nI (((rNone O).1) j)))), (cs, .inl (ca 3, 3, .inr (.inr (.inr (.inr fc))))), (q0, .inr (1, [.int (nI y), .ref d0, .int (nI (((kClean K) 0).1)), .int (nI (((kClean K) 0).2.1)), .int (nI (((kClean K) 0).2.2.1)), .int (nI (((kClean K) 0).2.2.2.1)), .int (nI (((kClean K) 0).2.2.2.2.1))])), (d0, .inr (0, [.ref a0, .int (nI ((((kClean K) 0).2.2.2.2.2).2))])), (a0, .inl (ca 0, 2, .inl (fun j => nI (((((kClean K) 0).2.2.2.2.2).1) j)))), (q1, .inr (1, [.int (nI y), .ref d1, .int (nI (((kClean K) 1).1)), .int (nI (((kClean K) 1).2.1)), .int (nI (((kClean K) 1).2.2.1)), .int (nI (((kClean K) 1).2.2.2.1)), .int (nI (((kClean K) 1).2.2.2.2.1))])), (d1, .inr (0, [.ref a1, .int (nI ((((kClean K) 1).2.2.2.2.2).2))])), (a1, .inl (ca 0, 2, .inl (fun j => nI (((((kClean K) 1).2.2.2.2.2).1) j)))), (q2, .inr (1, [.int (nI y), .ref d2, .int (nI (((kClean K) 2).1)), .int (nI (((kClean K) 2).2.1)), .int (nI (((kClean K) 2).2.2.1)), .int (nI (((kClean K) 2).2.2.2.1)), .int (nI (((kClean K) 2).2.2.2.2.1))])), (d2, .inr (0, [.ref a2, .int (nI ((((kClean K) 2).2.2.2.2.2).2))])), (a2, .inl (ca 0, 2, .inl (fun j => nI (((((kClean K) 2).2.2.2.2.2).1) j)))), (h, .inr (2, [.ref ln, .ref pe, .ref ou, .ref cs, .int (nI 1), .int (nI 0), .int (nI 0), .int (nI 0), .int (nI 0), .int (nI 0)])), (pe, .inr (0, [.ref pea, .int (nI ((rAdd 12 P (fr4 1 0 0 0)).2))])), (pea, .inl (ca 0, 12, .inl (fun j => nI (((rAdd 12 P (fr4 1 0 0 0)).1) j))))] H := hP
  have hD : va_D A [(ou, .inr (0, [.ref oua, .int (nI ((rNone O).2))])), (oua, .inl (ca 0, 16, .inl (fun j => nI (((rNone O).1) j)))), (cs, .inl (ca 3, 3, .inr (.inr (.inr (.inr fc))))), (q0, .inr (1, [.int (nI y), .ref d0, .int (nI (((kClean K) 0).1)), .int (nI (((kClean K) 0).2.1)), .int (nI (((kClean K) 0).2.2.1)), .int (nI (((kClean K) 0).2.2.2.1)), .int (nI (((kClean K) 0).2.2.2.2.1))])), (d0, .inr (0, [.ref a0, .int (nI ((((kClean K) 0).2.2.2.2.2).2))])), (a0, .inl (ca 0, 2, .inl (fun j => nI (((((kClean K) 0).2.2.2.2.2).1) j)))), (q1, .inr (1, [.int (nI y), .ref d1, .int (nI (((kClean K) 1).1)), .int (nI (((kClean K) 1).2.1)), .int (nI (((kClean K) 1).2.2.1)), .int (nI (((kClean K) 1).2.2.2.1)), .int (nI (((kClean K) 1).2.2.2.2.1))])), (d1, .inr (0, [.ref a1, .int (nI ((((kClean K) 1).2.2.2.2.2).2))])), (a1, .inl (ca 0, 2, .inl (fun j => nI (((((kClean K) 1).2.2.2.2.2).1) j)))), (q2, .inr (1, [.int (nI y), .ref d2, .int (nI (((kClean K) 2).1)), .int (nI (((kClean K) 2).2.1)), .int (nI (((kClean K) 2).2.2.1)), .int (nI (((kClean K) 2).2.2.2.1)), .int (nI (((kClean K) 2).2.2.2.2.1))])), (d2, .inr (0, [.ref a2, .int (nI ((((kClean K) 2).2.2.2.2.2).2))])), (a2, .inl (ca 0, 2, .inl (fun j => nI (((((kClean K) 2).2.2.2.2.2).1) j)))), (h, .inr (2, [.ref ln, .ref pe, .ref ou, .ref cs, .int (nI 1), .int (nI 0), .int (nI 0), .int (nI 0), .int (nI 0), .int (nI 0)])), (pe, .inr (0, [.ref pea, .int (nI ((rAdd 12 P (fr4 1 0 0 0)).2))])), (pea, .inl (ca 0, 12, .inl (fun j => nI (((rAdd 12 P (fr4 1 0 0 0)).1) j))))] := hD
  have hP : va_P D cls_ [(h, .inr (2, [.ref ln, .ref pe, .ref ou, .ref cs, .int (nI 1), .int (nI 0), .int (nI 0), .int (nI 0), .int (nI 0), .int (nI 0)])), (pe, .inr (0, [.ref pea, .int (nI ((rAdd 12 P (fr4 1 0 0 0)).2))])), (pea, .inl (ca 0, 12, .inl (fun j => nI (((rAdd 12 P (fr4 1 0 0 0)).1) j)))), (ou, .inr (0, [.ref oua, .int (nI ((rNone O).2))])), (oua, .inl (ca 0, 16, .inl (fun j => nI (((rNone O).1) j)))), (cs, .inl (ca 3, 3, .inr (.inr (.inr (.inr fc))))), (q0, .inr (1, [.int (nI y), .ref d0, .int (nI (((kClean K) 0).1)), .int (nI (((kClean K) 0).2.1)), .int (nI (((kClean K) 0).2.2.1)), .int (nI (((kClean K) 0).2.2.2.1)), .int (nI (((kClean K) 0).2.2.2.2.1))])), (d0, .inr (0, [.ref a0, .int (nI ((((kClean K) 0).2.2.2.2.2).2))])), (a0, .inl (ca 0, 2, .inl (fun j => nI (((((kClean K) 0).2.2.2.2.2).1) j)))), (q1, .inr (1, [.int (nI y), .ref d1, .int (nI (((kClean K) 1).1)), .int (nI (((kClean K) 1).2.1)), .int (nI (((kClean K) 1).2.2.1)), .int (nI (((kClean K) 1).2.2.2.1)), .int (nI (((kClean K) 1).2.2.2.2.1))])), (d1, .inr (0, [.ref a1, .int (nI ((((kClean K) 1).2.2.2.2.2).2))])), (a1, .inl (ca 0, 2, .inl (fun j => nI (((((kClean K) 1).2.2.2.2.2).1) j)))), (q2, .inr (1, [.int (nI y), .ref d2, .int (nI (((kClean K) 2).1)), .int (nI (((kClean K) 2).2.1)), .int (nI (((kClean K) 2).2.2.1)), .int (nI (((kClean K) 2).2.2.2.1)), .int (nI (((kClean K) 2).2.2.2.2.1))])), (d2, .inr (0, [.ref a2, .int (nI ((((kClean K) 2).2.2.2.2.2).2))])), (a2, .inl (ca 0, 2, .inl (fun j => nI (((((kClean K) 2).2.2.2.2.2).1) j))))] H := hP.sub [12, 13, 14, 0, 1, 2, 3, 4, 5, 6, 7, 8, 9, 10, 11] rfl
  have hD : va_D A [(h, .inr (2, [.ref ln, .ref pe, .ref ou, .ref cs, .int (nI 1), .int (nI 0), .int (nI 0), .int (nI 0), .int (nI 0), .int (nI 0)])), (pe, .inr (0, [.ref pea, .int (nI ((rAdd 12 P (fr4 1 0 0 0)).2))])), (pea, .inl (ca 0, 12, .inl (fun j => nI (((rAdd 12 P (fr4 1 0 0 0)).1) j)))), (ou, .inr (0, [.ref oua, .int (nI ((rNone O).2))])), (oua, .inl (ca 0, 16, .inl (fun j => nI (((rNone O).1) j)))), (cs, .inl (ca 3, 3, .inr (.inr (.inr (.inr fc))))), (q0, .inr (1, [.int (nI y), .ref d0, .int (nI (((kClean K) 0).1)), .int (nI (((kClean K) 0).2.1)), .int (nI (((kClean K) 0).2.2.1)), .int (nI (((kClean K) 0).2.2.2.1)), .int (nI (((kClean K) 0).2.2.2.2.1))])), (d0, .inr (0, [.ref a0, .int (nI ((((kClean K) 0).2.2.2.2.2).2))])), (a0, .inl (ca 0, 2, .inl (fun j => nI (((((kClean K) 0).2.2.2.2.2).1) j)))), (q1, .inr (1, [.int (nI y), .ref d1, .int (nI (((kClean K) 1).1)), .int (nI (((kClean K) 1).2.1)), .int (nI (((kClean K) 1).2.2.1)), .int (nI (((kClean K) 1).2.2.2.1)), .int (nI (((kClean K) 1).2.2.2.2.1))])), (d1, .inr (0, [.ref a1, .int (nI ((((kClean K) 1).2.2.2.2.2).2))])), (a1, .inl (ca 0, 2, .inl (fun j => nI (((((kClean K) 1).2.2.2.2.2).1) j)))), (q2, .inr (1, [.int (nI y), .ref d2, .int (nI (((kClean K) 2).1)), .int (nI (((kClean K) 2).2.1)), .int (nI (((kClean K) 2).2.2.1)), .int (nI (((kClean K) 2).2.2.2.1)), .int (nI (((kClean K) 2).2.2.2.2.1))])), (d2, .inr (0, [.ref a2, .int (nI ((((kClean K) 2).2.2.2.2.2).2))])), (a2, .inl (ca 0, 2, .inl (fun j => nI (((((kClean K) 2).2.2.2.2.2).1) j))))] := hD.sub [12, 13, 14, 0, 1, 2, 3, 4, 5, 6, 7, 8, 9, 10, 11] rfl rfl
  exact Co.retv hx hb hret hlk dSt_setUp_10 hS hP hD () rfl trivial rfl (Nat.le_of_ble_eq_true rfl) (Nat.le_of_ble_eq_true rfl)
set_option maxHeartbeats 4000000 in
set_option maxRecDepth 100000 in
theorem c_St_giveUp (l : Launch) (D : va_G) (ca : Nat → ClassId) (h ln pe ou cs lk sn ac ex tr rj : Nat) (pea oua : Nat) (O P : Rw_) (q0 d0 a0 q1 d1 a1 q2 d2 a2 y : Nat) (fc : Nat → Option Nat) (K : Nat → Cn_) (hq0 : fc 0 = some q0) (hq1 : fc 1 = some q1) (hq2 : fc 2 = some q2) (hlk2 : lk < 3) (hsn : sn < 8) (hac : ac < 8) (hex : ex < 8) (hO : oOk O) (hP1 : P.2 ≤ 12) : Co (S := Unit) l ySt_giveUp (Cond.code ySt_giveUp cSt_giveUp 1 none :: tb_) { frames := 3, cells := 0, slots := 0, locals := 96 } D ca [.ref h] [(h, .inr (2, [.ref ln, .ref pe, .ref ou, .ref cs, .int (nI lk), .int (nI sn), .int (nI ac), .int (nI ex), .int (nI tr), .int (nI rj)])), (pe, .inr (0, [.ref pea, .int (nI P.2)])), (pea, .inl (ca 0, 12, .inl (fun j => nI (P.1 j)))), (ou, .inr (0, [.ref oua, .int (nI O.2)])), (oua, .inl (ca 0, 16, .inl (fun j => nI (O.1 j)))), (cs, .inl (ca 3, 3, .inr (.inr (.inr (.inr fc))))), (q0, .inr (1, [.int (nI y), .ref d0, .int (nI ((K 0).1)), .int (nI ((K 0).2.1)), .int (nI ((K 0).2.2.1)), .int (nI ((K 0).2.2.2.1)), .int (nI ((K 0).2.2.2.2.1))])), (d0, .inr (0, [.ref a0, .int (nI (((K 0).2.2.2.2.2).2))])), (a0, .inl (ca 0, 2, .inl (fun j => nI ((((K 0).2.2.2.2.2).1) j)))), (q1, .inr (1, [.int (nI y), .ref d1, .int (nI ((K 1).1)), .int (nI ((K 1).2.1)), .int (nI ((K 1).2.2.1)), .int (nI ((K 1).2.2.2.1)), .int (nI ((K 1).2.2.2.2.1))])), (d1, .inr (0, [.ref a1, .int (nI (((K 1).2.2.2.2.2).2))])), (a1, .inl (ca 0, 2, .inl (fun j => nI ((((K 1).2.2.2.2.2).1) j)))), (q2, .inr (1, [.int (nI y), .ref d2, .int (nI ((K 2).1)), .int (nI ((K 2).2.1)), .int (nI ((K 2).2.2.1)), .int (nI ((K 2).2.2.2.1)), .int (nI ((K 2).2.2.2.2.1))])), (d2, .inr (0, [.ref a2, .int (nI (((K 2).2.2.2.2.2).2))])), (a2, .inl (ca 0, 2, .inl (fun j => nI ((((K 2).2.2.2.2.2).1) j))))] (fun _ => none) (fun _ => True) (fun _ => [(h, .inr (2, [.ref ln, .ref pe, .ref ou, .ref cs, .int (nI ((sGive lk sn ac ex rj O K P).1.1)), .int (nI ((sGive lk sn ac ex rj O K P).1.2.1)), .int (nI ((sGive lk sn ac ex rj O K P).1.2.2.1)), .int (nI ((sGive lk sn ac ex rj O K P).1.2.2.2.1)), .int (nI ((sGive lk sn ac ex rj O K P).1.2.2.2.2.1)), .int (nI ((sGive lk sn ac ex rj O K P).1.2.2.2.2.2))])), (pe, .inr (0, [.ref pea, .int (nI (((sGive lk sn ac ex rj O K P).2.2.2).2))])), (pea, .inl (ca 0, 12, .inl (fun j => nI ((((sGive lk sn ac ex rj O K P).2.2.2).1) j)))), (ou, .inr (0, [.ref oua, .int (nI (((sGive lk sn ac ex rj O K P).2.1).2))])), (oua, .inl (ca 0, 16, .inl (fun j => nI ((((sGive lk sn ac ex rj O K P).2.1).1) j)))), (cs, .inl (ca 3, 3, .inr (.inr (.inr (.inr fc))))), (q0, .inr (1, [.int (nI y), .ref d0, .int (nI ((((sGive lk sn ac ex rj O K P).2.2.1) 0).1)), .int (nI ((((sGive lk sn ac ex rj O K P).2.2.1) 0).2.1)), .int (nI ((((sGive lk sn ac ex rj O K P).2.2.1) 0).2.2.1)), .int (nI ((((sGive lk sn ac ex rj O K P).2.2.1) 0).2.2.2.1)), .int (nI ((((sGive lk sn ac ex rj O K P).2.2.1) 0).2.2.2.2.1))])), (d0, .inr (0, [.ref a0, .int (nI (((((sGive lk sn ac ex rj O K P).2.2.1) 0).2.2.2.2.2).2))])), (a0, .inl (ca 0, 2, .inl (fun j => nI ((((((sGive lk sn ac ex rj O K P).2.2.1) 0).2.2.2.2.2).1) j)))), (q1, .inr (1, [.int (nI y), .ref d1, .int (nI ((((sGive lk sn ac ex rj O K P).2.2.1) 1).1)), .int (nI ((((sGive lk sn ac ex rj O K P).2.2.1) 1).2.1)), .int (nI ((((sGive lk sn ac ex rj O K P).2.2.1) 1).2.2.1)), .int (nI ((((sGive lk sn ac ex rj O K P).2.2.1) 1).2.2.2.1)), .int (nI ((((sGive lk sn ac ex rj O K P).2.2.1) 1).2.2.2.2.1))])), (d1, .inr (0, [.ref a1, .int (nI (((((sGive lk sn ac ex rj O K P).2.2.1) 1).2.2.2.2.2).2))])), (a1, .inl (ca 0, 2, .inl (fun j => nI ((((((sGive lk sn ac ex rj O K P).2.2.1) 1).2.2.2.2.2).1) j)))), (q2, .inr (1, [.int (nI y), .ref d2, .int (nI ((((sGive lk sn ac ex rj O K P).2.2.1) 2).1)), .int (nI ((((sGive lk sn ac ex rj O K P).2.2.1) 2).2.1)), .int (nI ((((sGive lk sn ac ex rj O K P).2.2.1) 2).2.2.1)), .int (nI ((((sGive lk sn ac ex rj O K P).2.2.1) 2).2.2.2.1)), .int (nI ((((sGive lk sn ac ex rj O K P).2.2.1) 2).2.2.2.2.1))])), (d2, .inr (0, [.ref a2, .int (nI (((((sGive lk sn ac ex rj O K P).2.2.1) 2).2.2.2.2.2).2))])), (a2, .inl (ca 0, 2, .inl (fun j => nI ((((((sGive lk sn ac ex rj O K P).2.2.1) 2).2.2.2.2.2).1) j))))]) 0 0 := by
  refine Co.of cSt_giveUp 1 none (by decide) (Nat.le_of_ble_eq_true rfl) ?_
  intro p e s m args below meth c A ls fx hret hlk hin hE hP hD hS hA hl
  have hx := fx.1
  have hb := fx.2.1
  have hown : s.vm.findClass RSt = some m.cls := fx.2.2.2.1
  have hts := fx.2.2.2.2
  have ht : ∀ w ∈ tb_, w.before args s = true := fun w h => hts w (List.mem_cons_of_mem _ h)
  have hl : lv_has ls 1 [(0, .ref h)] := hl
  refine lv_aload_n hx hb dSt_giveUp_0 rfl (lv_at hl 0 rfl) ?_
  refine va_get (D := D) (ci := 2) (v := .int (nI lk)) (C := RSt) (T := TSt) (N := 10) hx hb ht inSt hown hE.1 hP 0 rfl rfl 4 (by decide) (ht _ tw_95) (fun _ h => h) rfl dSt_giveUp_1 ?_
  refine lv_iconst (v := nI 1) hx hb dSt_giveUp_4 (by decide) ?_
  refine k_icmp_ne (tgt := 21) hx hb (by omega) (by omega) dSt_giveUp_5 rfl (fun h5 => ?_) (fun h5 => ?_)
  · refine lv_aload_n hx hb dSt_giveUp_21 rfl (lv_at hl 0 rfl) ?_
    refine kV (rV fx (c_St_setUp l D ca h ln pe ou cs lk sn ac ex tr rj pea oua O P q0 d0 a0 q1 d1 a1 q2 d2 a2 y fc K hq0 hq1 hq2 (by first | assumption | exact rAdd_le (by assumption) | exact cPump_le (by assumption) | exact cAgain_le (by assumption) | exact cPump_le (cAgain_le (by assumption)) | omega)) ⟨callB_of 0 hts (tb_gi tw_215) rfl rfl rfl (ht _ tw_3) (ht _ tw_278) (by decide +kernel) ⟨(Nat.le_of_ble_eq_true rfl), (Nat.le_of_ble_eq_true rfl)⟩, ht _ tw_213, ht _ tw_214⟩ hE hP hD 0 rfl rfl rfl [0, 1, 2, 3, 4, 5, 6, 7, 8, 9, 10, 11, 12, 13, 14] rfl rfl rfl hl.1 rfl (Nat.le_of_ble_eq_true rfl) dSt_giveUp_22 ⟨(Nat.le_of_ble_eq_true rfl), (Nat.le_of_ble_eq_true rfl)⟩) hP hD hS hA [0, 1, 2, 3, 4, 5, 6, 7, 8, 9, 10, 11, 12, 13, 14] [] rfl rfl rfl (by decide) (fun _ H locs _ hP hD hS => ?_)
    have hP : va_P D cls_ [(h, .inr (2, [.ref ln, .ref pe, .ref ou, .ref cs, .int (nI ((sSetUp O K P).1.1)), .int (nI ((sSetUp O K P).1.2.1)), .int (nI ((sSetUp O K P).1.2.2.1)), .int (nI ((sSetUp O K P).1.2.2.2.1)), .int (nI ((sSetUp O K P).1.2.2.2.2.1)), .int (nI ((sSetUp O K P).1.2.2.2.2.2))])), (pe, .inr (0, [.ref pea, .int (nI (((sSetUp O K P).2.2.2).2))])), (pea, .inl (ca 0, 12, .inl (fun j => nI ((((sSetUp O K P).2.2.2).1) j)))), (ou, .inr (0, [.ref oua, .int (nI (((sSetUp O K P).2.1).2))])), (oua, .inl (ca 0, 16, .inl (fun j => nI ((((sSetUp O K P).2.1).1) j)))), (cs, .inl (ca 3, 3, .inr (.inr (.inr (.inr fc))))), (q0, .inr (1, [.int (nI y), .ref d0, .int (nI ((((sSetUp O K P).2.2.1) 0).1)), .int (nI ((((sSetUp O K P).2.2.1) 0).2.1)), .int (nI ((((sSetUp O K P).2.2.1) 0).2.2.1)), .int (nI ((((sSetUp O K P).2.2.1) 0).2.2.2.1)), .int (nI ((((sSetUp O K P).2.2.1) 0).2.2.2.2.1))])), (d0, .inr (0, [.ref a0, .int (nI (((((sSetUp O K P).2.2.1) 0).2.2.2.2.2).2))])), (a0, .inl (ca 0, 2, .inl (fun j => nI ((((((sSetUp O K P).2.2.1) 0).2.2.2.2.2).1) j)))), (q1, .inr (1, [.int (nI y), .ref d1, .int (nI ((((sSetUp O K P).2.2.1) 1).1)), .int (nI ((((sSetUp O K P).2.2.1) 1).2.1)), .int (nI ((((sSetUp O K P).2.2.1) 1).2.2.1)), .int (nI ((((sSetUp O K P).2.2.1) 1).2.2.2.1)), .int (nI ((((sSetUp O K P).2.2.1) 1).2.2.2.2.1))])), (d1, .inr (0, [.ref a1, .int (nI (((((sSetUp O K P).2.2.1) 1).2.2.2.2.2).2))])), (a1, .inl (ca 0, 2, .inl (fun j => nI ((((((sSetUp O K P).2.2.1) 1).2.2.2.2.2).1) j)))), (q2, .inr (1, [.int (nI y), .ref d2, .int (nI ((((sSetUp O K P).2.2.1) 2).1)), .int (nI ((((sSetUp O K P).2.2.1) 2).2.1)), .int (nI ((((sSetUp O K P).2.2.1) 2).2.2.1)), .int (nI ((((sSetUp O K P).2.2.1) 2).2.2.2.1)), .int (nI ((((sSetUp O K P).2.2.1) 2).2.2.2.2.1))])), (d2, .inr (0, [.ref a2, .int (nI (((((sSetUp O K P).2.2.1) 2).2.2.2.2.2).2))])), (a2, .inl (ca 0, 2, .inl (fun j => nI ((((((sSetUp O K P).2.2.1) 2).2.2.2.2.2).1) j))))] H := hP
    have hD : va_D A [(h, .inr (2, [.ref ln, .ref pe, .ref ou, .ref cs, .int (nI ((sSetUp O K P).1.1)), .int (nI ((sSetUp O K P).1.2.1)), .int (nI ((sSetUp O K P).1.2.2.1)), .int (nI ((sSetUp O K P).1.2.2.2.1)), .int (nI ((sSetUp O K P).1.2.2.2.2.1)), .int (nI ((sSetUp O K P).1.2.2.2.2.2))])), (pe, .inr (0, [.ref pea, .int (nI (((sSetUp O K P).2.2.2).2))])), (pea, .inl (ca 0, 12, .inl (fun j => nI ((((sSetUp O K P).2.2.2).1) j)))), (ou, .inr (0, [.ref oua, .int (nI (((sSetUp O K P).2.1).2))])), (oua, .inl (ca 0, 16, .inl (fun j => nI ((((sSetUp O K P).2.1).1) j)))), (cs, .inl (ca 3, 3, .inr (.inr (.inr (.inr fc))))), (q0, .inr (1, [.int (nI y), .ref d0, .int (nI ((((sSetUp O K P).2.2.1) 0).1)), .int (nI ((((sSetUp O K P).2.2.1) 0).2.1)), .int (nI ((((sSetUp O K P).2.2.1) 0).2.2.1)), .int (nI ((((sSetUp O K P).2.2.1) 0).2.2.2.1)), .int (nI ((((sSetUp O K P).2.2.1) 0).2.2.2.2.1))])), (d0, .inr (0, [.ref a0, .int (nI (((((sSetUp O K P).2.2.1) 0).2.2.2.2.2).2))])), (a0, .inl (ca 0, 2, .inl (fun j => nI ((((((sSetUp O K P).2.2.1) 0).2.2.2.2.2).1) j)))), (q1, .inr (1, [.int (nI y), .ref d1, .int (nI ((((sSetUp O K P).2.2.1) 1).1)), .int (nI ((((sSetUp O K P).2.2.1) 1).2.1)), .int (nI ((((sSetUp O K P).2.2.1) 1).2.2.1)), .int (nI ((((sSetUp O K P).2.2.1) 1).2.2.2.1)), .int (nI ((((sSetUp O K P).2.2.1) 1).2.2.2.2.1))])), (d1, .inr (0, [.ref a1, .int (nI (((((sSetUp O K P).2.2.1) 1).2.2.2.2.2).2))])), (a1, .inl (ca 0, 2, .inl (fun j => nI ((((((sSetUp O K P).2.2.1) 1).2.2.2.2.2).1) j)))), (q2, .inr (1, [.int (nI y), .ref d2, .int (nI ((((sSetUp O K P).2.2.1) 2).1)), .int (nI ((((sSetUp O K P).2.2.1) 2).2.1)), .int (nI ((((sSetUp O K P).2.2.1) 2).2.2.1)), .int (nI ((((sSetUp O K P).2.2.1) 2).2.2.2.1)), .int (nI ((((sSetUp O K P).2.2.1) 2).2.2.2.2.1))])), (d2, .inr (0, [.ref a2, .int (nI (((((sSetUp O K P).2.2.1) 2).2.2.2.2.2).2))])), (a2, .inl (ca 0, 2, .inl (fun j => nI ((((((sSetUp O K P).2.2.1) 2).2.2.2.2.2).1) j))))] := hD
    have e9 : sGive lk sn ac ex rj O K P = sSetUp O K P := if_neg (by omega)
    exact Co.retv hx hb hret hlk dSt_giveUp_25 hS hP hD () rfl trivial (by rw [e9]; rfl) (Nat.le_of_ble_eq_true rfl) (Nat.le_of_ble_eq_true rfl)
  · refine lv_aload_n hx hb dSt_giveUp_8 rfl (lv_at hl 0 rfl) ?_
    refine lv_iconst (v := nI 0) hx hb dSt_giveUp_9 (by decide) ?_
    refine va_put (D := D) (ci := 2) (v := .int (nI 0)) (ty := .int) (C := RSt) (T := TSt) (N := 10) hx hb ht inSt tySt tySt_ok nmSt hown hE.1 hP hD hS 0 rfl rfl 4 (by decide) (ht _ tw_95) (fun _ h => h) rfl (by decide +kernel) rfl rfl (Nat.le_of_ble_eq_true rfl) dSt_giveUp_10 (fun H locs hP hD hS => ?_)
    have hP : va_P D cls_ [(h, .inr (2, [.ref ln, .ref pe, .ref ou, .ref cs, .int (nI 0), .int (nI sn), .int (nI ac), .int (nI ex), .int (nI tr), .int (nI rj)])), (pe, .inr (0, [.ref pea, .int (nI P.2)])), (pea, .inl (ca 0, 12, .inl (fun j => nI (P.1 j)))), (ou, .inr (0, [.ref oua, .int (nI O.2)])), (oua, .inl (ca 0, 16, .inl (fun j => nI (O.1 j)))), (cs, .inl (ca 3, 3, .inr (.inr (.inr (.inr fc))))), (q0, .inr (1, [.int (nI y), .ref d0, .int (nI ((K 0).1)), .int (nI ((K 0).2.1)), .int (nI ((K 0).2.2.1)), .int (nI ((K 0).2.2.2.1)), .int (nI ((K 0).2.2.2.2.1))])), (d0, .inr (0, [.ref a0, .int (nI (((K 0).2.2.2.2.2).2))])), (a0, .inl (ca 0, 2, .inl (fun j => nI ((((K 0).2.2.2.2.2).1) j)))), (q1, .inr (1, [.int (nI y), .ref d1, .int (nI ((K 1).1)), .int (nI ((K 1).2.1)), .int (nI ((K 1).2.2.1)), .int (nI ((K 1).2.2.2.1)), .int (nI ((K 1).2.2.2.2.1))])), (d1, .inr (0, [.ref a1, .int (nI (((K 1).2.2.2.2.2).2))])), (a1, .inl (ca 0, 2, .inl (fun j => nI ((((K 1).2.2.2.2.2).1) j)))), (q2, .inr (1, [.int (nI y), .ref d2, .int (nI ((K 2).1)), .int (nI ((K 2).2.1)), .int (nI ((K 2).2.2.1)), .int (nI ((K 2).2.2.2.1)), .int (nI ((K 2).2.2.2.2.1))])), (d2, .inr (0, [.ref a2, .int (nI (((K 2).2.2.2.2.2).2))])), (a2, .inl (ca 0, 2, .inl (fun j => nI ((((K 2).2.2.2.2.2).1) j))))] H := hP
    have hD : va_D A [(h, .inr (2, [.ref ln, .ref pe, .ref ou, .ref cs, .int (nI 0), .int (nI sn), .int (nI ac), .int (nI ex), .int (nI tr), .int (nI rj)])), (pe, .inr (0, [.ref pea, .int (nI P.2)])), (pea, .inl (ca 0, 12, .inl (fun j => nI (P.1 j)))), (ou, .inr (0, [.ref oua, .int (nI O.2)])), (oua, .inl (ca 0, 16, .inl (fun j => nI (O.1 j)))), (cs, .inl (ca 3, 3, .inr (.inr (.inr (.inr fc))))), (q0, .inr (1, [.int (nI y), .ref d0, .int (nI ((K 0).1)), .int (nI ((K 0).2.1)), .int (nI ((K 0).2.2.1)), .int (nI ((K 0).2.2.2.1)), .int (nI ((K 0).2.2.2.2.1))])), (d0, .inr (0, [.ref a0, .int (nI (((K 0).2.2.2.2.2).2))])), (a0, .inl (ca 0, 2, .inl (fun j => nI ((((K 0).2.2.2.2.2).1) j)))), (q1, .inr (1, [.int (nI y), .ref d1, .int (nI ((K 1).1)), .int (nI ((K 1).2.1)), .int (nI ((K 1).2.2.1)), .int (nI ((K 1).2.2.2.1)), .int (nI ((K 1).2.2.2.2.1))])), (d1, .inr (0, [.ref a1, .int (nI (((K 1).2.2.2.2.2).2))])), (a1, .inl (ca 0, 2, .inl (fun j => nI ((((K 1).2.2.2.2.2).1) j)))), (q2, .inr (1, [.int (nI y), .ref d2, .int (nI ((K 2).1)), .int (nI ((K 2).2.1)), .int (nI ((K 2).2.2.1)), .int (nI ((K 2).2.2.2.1)), .int (nI ((K 2).2.2.2.2.1))])), (d2, .inr (0, [.ref a2, .int (nI (((K 2).2.2.2.2.2).2))])), (a2, .inl (ca 0, 2, .inl (fun j => nI ((((K 2).2.2.2.2.2).1) j))))] := hD
    refine lv_aload_n hx hb dSt_giveUp_13 rfl (lv_at hl 0 rfl) ?_
    refine lv_iconst (v := nI 0) hx hb dSt_giveUp_14 (by decide) ?_
    refine va_put (D := D) (ci := 2) (v := .int (nI 0)) (ty := .int) (C := RSt) (T := TSt) (N := 10) hx hb ht inSt tySt tySt_ok nmSt hown hE.1 hP hD hS 0 rfl rfl 8 (by decide) (ht _ tw_103) (fun _ h => h) rfl (by decide +kernel) rfl rfl (Nat.le_of_ble_eq_true rfl) dSt_giveUp_15 (fun H locs hP hD hS => ?_)
    have hP : va_P D cls_ [(h, .inr (2, [.ref ln, .ref pe, .ref ou, .ref cs, .int (nI 0), .int (nI sn), .int (nI ac), .int (nI ex), .int (nI 0), .int (nI rj)])), (pe, .inr (0, [.ref pea, .int (nI P.2)])), (pea, .inl (ca 0, 12, .inl (fun j => nI (P.1 j)))), (ou, .inr (0, [.ref oua, .int (nI O.2)])), (oua, .inl (ca 0, 16, .inl (fun j => nI (O.1 j)))), (cs, .inl (ca 3, 3, .inr (.inr (.inr (.inr fc))))), (q0, .inr (1, [.int (nI y), .ref d0, .int (nI ((K 0).1)), .int (nI ((K 0).2.1)), .int (nI ((K 0).2.2.1)), .int (nI ((K 0).2.2.2.1)), .int (nI ((K 0).2.2.2.2.1))])), (d0, .inr (0, [.ref a0, .int (nI (((K 0).2.2.2.2.2).2))])), (a0, .inl (ca 0, 2, .inl (fun j => nI ((((K 0).2.2.2.2.2).1) j)))), (q1, .inr (1, [.int (nI y), .ref d1, .int (nI ((K 1).1)), .int (nI ((K 1).2.1)), .int (nI ((K 1).2.2.1)), .int (nI ((K 1).2.2.2.1)), .int (nI ((K 1).2.2.2.2.1))])), (d1, .inr (0, [.ref a1, .int (nI (((K 1).2.2.2.2.2).2))])), (a1, .inl (ca 0, 2, .inl (fun j => nI ((((K 1).2.2.2.2.2).1) j)))), (q2, .inr (1, [.int (nI y), .ref d2, .int (nI ((K 2).1)), .int (nI ((K 2).2.1)), .int (nI ((K 2).2.2.1)), .int (nI ((K 2).2.2.2.1)), .int (nI ((K 2).2.2.2.2.1))])), (d2, .inr (0, [.ref a2, .int (nI (((K 2).2.2.2.2.2).2))])), (a2, .inl (ca 0, 2, .inl (fun j => nI ((((K 2).2.2.2.2.2).1) j))))] H := hP
    have hD : va_D A [(h, .inr (2, [.ref ln, .ref pe, .ref ou, .ref cs, .int (nI 0), .int (nI sn), .int (nI ac), .int (nI ex), .int (nI 0), .int (nI rj)])), (pe, .inr (0, [.ref pea, .int (nI P.2)])), (pea, .inl (ca 0, 12, .inl (fun j => nI (P.1 j)))), (ou, .inr (0, [.ref oua, .int (nI O.2)])), (oua, .inl (ca 0, 16, .inl (fun j => nI (O.1 j)))), (cs, .inl (ca 3, 3, .inr (.inr (.inr (.inr fc))))), (q0, .inr (1, [.int (nI y), .ref d0, .int (nI ((K 0).1)), .int (nI ((K 0).2.1)), .int (nI ((K 0).2.2.1)), .int (nI ((K 0).2.2.2.1)), .int (nI ((K 0).2.2.2.2.1))])), (d0, .inr (0, [.ref a0, .int (nI (((K 0).2.2.2.2.2).2))])), (a0, .inl (ca 0, 2, .inl (fun j => nI ((((K 0).2.2.2.2.2).1) j)))), (q1, .inr (1, [.int (nI y), .ref d1, .int (nI ((K 1).1)), .int (nI ((K 1).2.1)), .int (nI ((K 1).2.2.1)), .int (nI ((K 1).2.2.2.1)), .int (nI ((K 1).2.2.2.2.1))])), (d1, .inr (0, [.ref a1, .int (nI (((K 1).2.2.2.2.2).2))])), (a1, .inl (ca 0, 2, .inl (fun j => nI ((((K 1).2.2.2.2.2).1) j)))), (q2, .inr (1, [.int (nI y), .ref d2, .int (nI ((K 2).1)), .int (nI ((K 2).2.1)), .int (nI ((K 2).2.2.1)), .int (nI ((K 2).2.2.2.1)), .int (nI ((K 2).2.2.2.2.1))])), (d2, .inr (0, [.ref a2, .int (nI (((K 2).2.2.2.2.2).2))])), (a2, .inl (ca 0, 2, .inl (fun j => nI ((((K 2).2.2.2.2.2).1) j))))] := hD
    refine lv_goto (tgt := 25) hx hb dSt_giveUp_18 rfl ?_
    have e9 : sGive lk sn ac ex rj O K P = ((0, sn, ac, ex, 0, rj), O, K, P) := if_pos (by omega)
    exact Co.retv hx hb hret hlk dSt_giveUp_25 hS hP hD () rfl trivial (by rw [e9]; rfl) (Nat.le_of_ble_eq_true rfl) (Nat.le_of_ble_eq_true rfl)
set_option maxHeartbeats 4000000 in
set_option maxRecDepth 100000 in
theorem c_St_tryAgain (l : Launch) (D : va_G) (ca : Nat → ClassId) (h ln pe ou cs lk sn ac ex tr rj : Nat) (pea oua : Nat) (O P : Rw_) (q0 d0 a0 q1 d1 a1 q2 d2 a2 y : Nat) (fc : Nat → Option Nat) (K : Nat → Cn_) (hq0 : fc 0 = some q0) (hq1 : fc 1 = some q1) (hq2 : fc 2 = some q2) (hlk2 : lk < 3) (hsn : sn < 8) (hac : ac < 8) (hex : ex < 8) (hO : oOk O) (hP1 : P.2 ≤ 12) (htr : tr < 4) (hun : ds ac sn ≤ O.2) : Co (S := Unit) l ySt_tryAgain (Cond.code ySt_tryAgain cSt_tryAgain 2 (some FieldType.int) :: tb_) { frames := 4, cells := 0, slots := 0, locals := 128 } D ca [.ref h] [(h, .inr (2, [.ref ln, .ref pe, .ref ou, .ref cs, .int (nI lk), .int (nI sn), .int (nI ac), .int (nI ex), .int (nI tr), .int (nI rj)])), (pe, .inr (0, [.ref pea, .int (nI P.2)])), (pea, .inl (ca 0, 12, .inl (fun j => nI (P.1 j)))), (ou, .inr (0, [.ref oua, .int (nI O.2)])), (oua, .inl (ca 0, 16, .inl (fun j => nI (O.1 j)))), (cs, .inl (ca 3, 3, .inr (.inr (.inr (.inr fc))))), (q0, .inr (1, [.int (nI y), .ref d0, .int (nI ((K 0).1)), .int (nI ((K 0).2.1)), .int (nI ((K 0).2.2.1)), .int (nI ((K 0).2.2.2.1)), .int (nI ((K 0).2.2.2.2.1))])), (d0, .inr (0, [.ref a0, .int (nI (((K 0).2.2.2.2.2).2))])), (a0, .inl (ca 0, 2, .inl (fun j => nI ((((K 0).2.2.2.2.2).1) j)))), (q1, .inr (1, [.int (nI y), .ref d1, .int (nI ((K 1).1)), .int (nI ((K 1).2.1)), .int (nI ((K 1).2.2.1)), .int (nI ((K 1).2.2.2.1)), .int (nI ((K 1).2.2.2.2.1))])), (d1, .inr (0, [.ref a1, .int (nI (((K 1).2.2.2.2.2).2))])), (a1, .inl (ca 0, 2, .inl (fun j => nI ((((K 1).2.2.2.2.2).1) j)))), (q2, .inr (1, [.int (nI y), .ref d2, .int (nI ((K 2).1)), .int (nI ((K 2).2.1)), .int (nI ((K 2).2.2.1)), .int (nI ((K 2).2.2.2.1)), .int (nI ((K 2).2.2.2.2.1))])), (d2, .inr (0, [.ref a2, .int (nI (((K 2).2.2.2.2.2).2))])), (a2, .inl (ca 0, 2, .inl (fun j => nI ((((K 2).2.2.2.2.2).1) j))))] (fun _ => some (.int (nI (tr + 1)))) (fun _ => True) (fun _ => [(h, .inr (2, [.ref ln, .ref pe, .ref ou, .ref cs, .int (nI ((sTry lk sn ac ex tr rj O K P).1.1)), .int (nI ((sTry lk sn ac ex tr rj O K P).1.2.1)), .int (nI ((sTry lk sn ac ex tr rj O K P).1.2.2.1)), .int (nI ((sTry lk sn ac ex tr rj O K P).1.2.2.2.1)), .int (nI ((sTry lk sn ac ex tr rj O K P).1.2.2.2.2.1)), .int (nI ((sTry lk sn ac ex tr rj O K P).1.2.2.2.2.2))])), (pe, .inr (0, [.ref pea, .int (nI (((sTry lk sn ac ex tr rj O K P).2.2.2).2))])), (pea, .inl (ca 0, 12, .inl (fun j => nI ((((sTry lk sn ac ex tr rj O K P).2.2.2).1) j)))), (ou, .inr (0, [.ref oua, .int (nI (((sTry lk sn ac ex tr rj O K P).2.1).2))])), (oua, .inl (ca 0, 16, .inl (fun j => nI ((((sTry lk sn ac ex tr rj O K P).2.1).1) j)))), (cs, .inl (ca 3, 3, .inr (.inr (.inr (.inr fc))))), (q0, .inr (1, [.int (nI y), .ref d0, .int (nI ((((sTry lk sn ac ex tr rj O K P).2.2.1) 0).1)), .int (nI ((((sTry lk sn ac ex tr rj O K P).2.2.1) 0).2.1)), .int (nI ((((sTry lk sn ac ex tr rj O K P).2.2.1) 0).2.2.1)), .int (nI ((((sTry lk sn ac ex tr rj O K P).2.2.1) 0).2.2.2.1)), .int (nI ((((sTry lk sn ac ex tr rj O K P).2.2.1) 0).2.2.2.2.1))])), (d0, .inr (0, [.ref a0, .int (nI (((((sTry lk sn ac ex tr rj O K P).2.2.1) 0).2.2.2.2.2).2))])), (a0, .inl (ca 0, 2, .inl (fun j => nI ((((((sTry lk sn ac ex tr rj O K P).2.2.1) 0).2.2.2.2.2).1) j)))), (q1, .inr (1, [.int (nI y), .ref d1, .int (nI ((((sTry lk sn ac ex tr rj O K P).2.2.1) 1).1)), .int (nI ((((sTry lk sn ac ex tr rj O K P).2.2.1) 1).2.1)), .int (nI ((((sTry lk sn ac ex tr rj O K P).2.2.1) 1).2.2.1)), .int (nI ((((sTry lk sn ac ex tr rj O K P).2.2.1) 1).2.2.2.1)), .int (nI ((((sTry lk sn ac ex tr rj O K P).2.2.1) 1).2.2.2.2.1))])), (d1, .inr (0, [.ref a1, .int (nI (((((sTry lk sn ac ex tr rj O K P).2.2.1) 1).2.2.2.2.2).2))])), (a1, .inl (ca 0, 2, .inl (fun j => nI ((((((sTry lk sn ac ex tr rj O K P).2.2.1) 1).2.2.2.2.2).1) j)))), (q2, .inr (1, [.int (nI y), .ref d2, .int (nI ((((sTry lk sn ac ex tr rj O K P).2.2.1) 2).1)), .int (nI ((((sTry lk sn ac ex tr rj O K P).2.2.1) 2).2.1)), .int (nI ((((sTry lk sn ac ex tr rj O K P).2.2.1) 2).2.2.1)), .int (nI ((((sTry lk sn ac ex tr rj O K P).2.2.1) 2).2.2.2.1)), .int (nI ((((sTry lk sn ac ex tr rj O K P).2.2.1) 2).2.2.2.2.1))])), (d2, .inr (0, [.ref a2, .int (nI (((((sTry lk sn ac ex tr rj O K P).2.2.1) 2).2.2.2.2.2).2))])), (a2, .inl (ca 0, 2, .inl (fun j => nI ((((((sTry lk sn ac ex tr rj O K P).2.2.1) 2).2.2.2.2.2).1) j))))]) 0 0 := by
  refine Co.of cSt_tryAgain 2 (some FieldType.int) (by decide) (Nat.le_of_ble_eq_true rfl) ?_
  intro p e s m args below meth c A ls fx hret hlk hin hE hP hD hS hA hl
  have hx := fx.1
  have hb := fx.2.1
  have hown : s.vm.findClass RSt = some m.cls := fx.2.2.2.1
  have hts := fx.2.2.2.2
  have ht : ∀ w ∈ tb_, w.before args s = true := fun w h => hts w (List.mem_cons_of_mem _ h)
  have hl : lv_has ls 2 [(0, .ref h)] := hl
  refine lv_aload_n hx hb dSt_tryAgain_0 rfl (lv_at hl 0 rfl) ?_
  refine va_get (D := D) (ci := 2) (v := .int (nI tr)) (C := RSt) (T := TSt) (N := 10) hx hb ht inSt hown hE.1 hP 0 rfl rfl 8 (by decide) (ht _ tw_103) (fun _ h => h) rfl dSt_tryAgain_1 ?_
  refine lv_iconst (v := nI 1) hx hb dSt_tryAgain_4 (by decide) ?_
  refine k_iadd hx hb dSt_tryAgain_5 ?_
  refine lv_istore_n hx hb dSt_tryAgain_6 rfl hl (by decide) rfl (fun ls hl => ?_)
  have hl : lv_has ls 2 [(1, .int (nI (tr + 1))), (0, .ref h)] := hl
  refine lv_aload_n hx hb dSt_tryAgain_7 rfl (lv_at hl 1 rfl) ?_
  refine lv_iload_n hx hb dSt_tryAgain_8 rfl (lv_at hl 0 rfl) ?_
  refine va_put (D := D) (ci := 2) (v := .int (nI (tr + 1))) (ty := .int) (C := RSt) (T := TSt) (N := 10) hx hb ht inSt tySt tySt_ok nmSt hown hE.1 hP hD hS 0 rfl rfl 8 (by decide) (ht _ tw_103) (fun _ h => h) rfl (by decide +kernel) rfl rfl (Nat.le_of_ble_eq_true rfl) dSt_tryAgain_9 (fun H locs hP hD hS => ?_)
  have hP : va_P D cls_ [(h, .inr (2, [.ref ln, .ref pe, .ref ou, .ref cs, .int (nI lk), .int (nI sn), .int (nI ac), .int (nI ex), .int (nI (tr + 1)), .int (nI rj)])), (pe, .inr (0, [.ref pea, .int (nI P.2)])), (pea, .inl (ca 0, 12, .inl (fun j => nI (P.1 j)))), (ou, .inr (0, [.ref oua, .int (nI O.2)])), (oua, .inl (ca 0, 16, .inl (fun j => nI (O.1 j)))), (cs, .inl (ca 3, 3, .inr (.inr (.inr (.inr fc))))), (q0, .inr (1, [.int (nI y), .ref d0, .int (nI ((K 0).1)), .int (nI ((K 0).2.1)), .int (nI ((K 0).2.2.1)), .int (nI ((K 0).2.2.2.1)), .int (nI ((K 0).2.2.2.2.1))])), (d0, .inr (0, [.ref a0, .int (nI (((K 0).2.2.2.2.2).2))])), (a0, .inl (ca 0, 2, .inl (fun j => nI ((((K 0).2.2.2.2.2).1) j)))), (q1, .inr (1, [.int (nI y), .ref d1, .int (nI ((K 1).1)), .int (nI ((K 1).2.1)), .int (nI ((K 1).2.2.1)), .int (nI ((K 1).2.2.2.1)), .int (nI ((K 1).2.2.2.2.1))])), (d1, .inr (0, [.ref a1, .int (nI (((K 1).2.2.2.2.2).2))])), (a1, .inl (ca 0, 2, .inl (fun j => nI ((((K 1).2.2.2.2.2).1) j)))), (q2, .inr (1, [.int (nI y), .ref d2, .int (nI ((K 2).1)), .int (nI ((K 2).2.1)), .int (nI ((K 2).2.2.1)), .int (nI ((K 2).2.2.2.1)), .int (nI ((K 2).2.2.2.2.1))])), (d2, .inr (0, [.ref a2, .int (nI (((K 2).2.2.2.2.2).2))])), (a2, .inl (ca 0, 2, .inl (fun j => nI ((((K 2).2.2.2.2.2).1) j))))] H := hP
  have hD : va_D A [(h, .inr (2, [.ref ln, .ref pe, .ref ou, .ref cs, .int (nI lk), .int (nI sn), .int (nI ac), .int (nI ex), .int (nI (tr + 1)), .int (nI rj)])), (pe, .inr (0, [.ref pea, .int (nI P.2)])), (pea, .inl (ca 0, 12, .inl (fun j => nI (P.1 j)))), (ou, .inr (0, [.ref oua, .int (nI O.2)])), (oua, .inl (ca 0, 16, .inl (fun j => nI (O.1 j)))), (cs, .inl (ca 3, 3, .inr (.inr (.inr (.inr fc))))), (q0, .inr (1, [.int (nI y), .ref d0, .int (nI ((K 0).1)), .int (nI ((K 0).2.1)), .int (nI ((K 0).2.2.1)), .int (nI ((K 0).2.2.2.1)), .int (nI ((K 0).2.2.2.2.1))])), (d0, .inr (0, [.ref a0, .int (nI (((K 0).2.2.2.2.2).2))])), (a0, .inl (ca 0, 2, .inl (fun j => nI ((((K 0).2.2.2.2.2).1) j)))), (q1, .inr (1, [.int (nI y), .ref d1, .int (nI ((K 1).1)), .int (nI ((K 1).2.1)), .int (nI ((K 1).2.2.1)), .int (nI ((K 1).2.2.2.1)), .int (nI ((K 1).2.2.2.2.1))])), (d1, .inr (0, [.ref a1, .int (nI (((K 1).2.2.2.2.2).2))])), (a1, .inl (ca 0, 2, .inl (fun j => nI ((((K 1).2.2.2.2.2).1) j)))), (q2, .inr (1, [.int (nI y), .ref d2, .int (nI ((K 2).1)), .int (nI ((K 2).2.1)), .int (nI ((K 2).2.2.1)), .int (nI ((K 2).2.2.2.1)), .int (nI ((K 2).2.2.2.2.1))])), (d2, .inr (0, [.ref a2, .int (nI (((K 2).2.2.2.2.2).2))])), (a2, .inl (ca 0, 2, .inl (fun j => nI ((((K 2).2.2.2.2.2).1) j))))] := hD
  refine lv_iload_n hx hb dSt_tryAgain_12 rfl (lv_at hl 0 rfl) ?_
  refine lv_iconst (v := nI 4) hx hb dSt_tryAgain_13 (by decide) ?_
  refine k_icmp_lt (tgt := 24) hx hb (by omega) (by omega) dSt_tryAgain_14 rfl (fun h14 => ?_) (fun h14 => ?_)
  · refine lv_aload_n hx hb dSt_tryAgain_24 rfl (lv_at hl 1 rfl) ?_
    refine va_get (D := D) (ci := 2) (v := .int (nI lk)) (C := RSt) (T := TSt) (N := 10) hx hb ht inSt hown hE.1 hP 0 rfl rfl 4 (by decide) (ht _ tw_95) (fun _ h => h) rfl dSt_tryAgain_25 ?_
    refine lv_iconst (v := nI 1) hx hb dSt_tryAgain_28 (by decide) ?_
    refine k_icmp_ne (tgt := 40) hx hb (by omega) (by omega) dSt_tryAgain_29 rfl (fun h29 => ?_) (fun h29 => ?_)
    · refine lv_aload_n hx hb dSt_tryAgain_40 rfl (lv_at hl 1 rfl) ?_
      refine kV (rV fx (c_St_sendUnconfirmed l D ca h ln pe ou cs lk sn ac ex (tr + 1) rj pea oua O P (cAgain sn ac ex O P) (by omega) (by omega) (by omega) (by omega) (by first | assumption | exact oOk.add (by assumption) (by first | omega | exact pk5_lt (by omega) (by omega) (by omega) (by omega) (by omega))) (by first | assumption | exact rAdd_le (by assumption) | exact cPump_le (by assumption) | exact cAgain_le (by assumption) | exact cPump_le (cAgain_le (by assumption)) | omega) (by assumption) rfl) ⟨callB_of 0 hts (tb_gi tw_282) rfl rfl rfl (ht _ tw_3) (ht _ tw_279) (by decide +kernel) ⟨(Nat.le_of_ble_eq_true rfl), (Nat.le_of_ble_eq_true rfl)⟩, ht _ tw_281, ht _ tw_832⟩ hE hP hD 0 rfl rfl rfl [0, 1, 2, 3, 4] rfl rfl rfl hl.1 rfl (Nat.le_of_ble_eq_true rfl) dSt_tryAgain_41 ⟨(Nat.le_of_ble_eq_true rfl), (Nat.le_of_ble_eq_true rfl)⟩) hP hD hS hA [0, 1, 2, 3, 4] [5, 6, 7, 8, 9, 10, 11, 12, 13, 14] rfl rfl rfl (by decide) (fun _ H locs _ hP hD hS => ?_)
      have hP : va_P D cls_ [(cs, .inl (ca 3, 3, .inr (.inr (.inr (.inr fc))))), (q0, .inr (1, [.int (nI y), .ref d0, .int (nI ((K 0).1)), .int (nI ((K 0).2.1)), .int (nI ((K 0).2.2.1)), .int (nI ((K 0).2.2.2.1)), .int (nI ((K 0).2.2.2.2.1))])), (d0, .inr (0, [.ref a0, .int (nI (((K 0).2.2.2.2.2).2))])), (a0, .inl (ca 0, 2, .inl (fun j => nI ((((K 0).2.2.2.2.2).1) j)))), (q1, .inr (1, [.int (nI y), .ref d1, .int (nI ((K 1).1)), .int (nI ((K 1).2.1)), .int (nI ((K 1).2.2.1)), .int (nI ((K 1).2.2.2.1)), .int (nI ((K 1).2.2.2.2.1))])), (d1, .inr (0, [.ref a1, .int (nI (((K 1).2.2.2.2.2).2))])), (a1, .inl (ca 0, 2, .inl (fun j => nI ((((K 1).2.2.2.2.2).1) j)))), (q2, .inr (1, [.int (nI y), .ref d2, .int (nI ((K 2).1)), .int (nI ((K 2).2.1)), .int (nI ((K 2).2.2.1)), .int (nI ((K 2).2.2.2.1)), .int (nI ((K 2).2.2.2.2.1))])), (d2, .inr (0, [.ref a2, .int (nI (((K 2).2.2.2.2.2).2))])), (a2, .inl (ca 0, 2, .inl (fun j => nI ((((K 2).2.2.2.2.2).1) j)))), (h, .inr (2, [.ref ln, .ref pe, .ref ou, .ref cs, .int (nI lk), .int (nI sn), .int (nI ac), .int (nI ex), .int (nI (tr + 1)), .int (nI rj)])), (pe, .inr (0, [.ref pea, .int (nI ((cAgain sn ac ex O P).2))])), (pea, .inl (ca 0, 12, .inl (fun j => nI (((cAgain sn ac ex O P).1) j)))), (ou, .inr (0, [.ref oua, .int (nI O.2)])), (oua, .inl (ca 0, 16, .inl (fun j => nI (O.1 j))))] H := hP
      have hD : va_D A [(cs, .inl (ca 3, 3, .inr (.inr (.inr (.inr fc))))), (q0, .inr (1, [.int (nI y), .ref d0, .int (nI ((K 0).1)), .int (nI ((K 0).2.1)), .int (nI ((K 0).2.2.1)), .int (nI ((K 0).2.2.2.1)), .int (nI ((K 0).2.2.2.2.1))])), (d0, .inr (0, [.ref a0, .int (nI (((K 0).2.2.2.2.2).2))])), (a0, .inl (ca 0, 2, .inl (fun j => nI ((((K 0).2.2.2.2.2).1) j)))), (q1, .inr (1, [.int (nI y), .ref d1, .int (nI ((K 1).1)), .int (nI ((K 1).2.1)), .int (nI ((K 1).2.2.1)), .int (nI ((K 1).2.2.2.1)), .int (nI ((K 1).2.2.2.2.1))])), (d1, .inr (0, [.ref a1, .int (nI (((K 1).2.2.2.2.2).2))])), (a1, .inl (ca 0, 2, .inl (fun j => nI ((((K 1).2.2.2.2.2).1) j)))), (q2, .inr (1, [.int (nI y), .ref d2, .int (nI ((K 2).1)), .int (nI ((K 2).2.1)), .int (nI ((K 2).2.2.1)), .int (nI ((K 2).2.2.2.1)), .int (nI ((K 2).2.2.2.2.1))])), (d2, .inr (0, [.ref a2, .int (nI (((K 2).2.2.2.2.2).2))])), (a2, .inl (ca 0, 2, .inl (fun j => nI ((((K 2).2.2.2.2.2).1) j)))), (h, .inr (2, [.ref ln, .ref pe, .ref ou, .ref cs, .int (nI lk), .int (nI sn), .int (nI ac), .int (nI ex), .int (nI (tr + 1)), .int (nI rj)])), (pe, .inr (0, [.ref pea, .int (nI ((cAgain sn ac ex O P).2))])), (pea, .inl (ca 0, 12, .inl (fun j => nI (((cAgain sn ac ex O P).1) j)))), (ou, .inr (0, [.ref oua, .int (nI O.2)])), (oua, .inl (ca 0, 16, .inl (fun j => nI (O.1 j))))] := hD
      refine lv_iload_n hx hb dSt_tryAgain_44 rfl (lv_at hl 0 rfl) ?_
      have hP : va_P D cls_ [(h, .inr (2, [.ref ln, .ref pe, .ref ou, .ref cs, .int (nI lk), .int (nI sn), .int (nI ac), .int (nI ex), .int (nI (tr + 1)), .int (nI rj)])), (pe, .inr (0, [.ref pea, .int (nI ((cAgain sn ac ex O P).2))])), (pea, .inl (ca 0, 12, .inl (fun j => nI (((cAgain sn ac ex O P).1) j)))), (ou, .inr (0, [.ref oua, .int (nI O.2)])), (oua, .inl (ca 0, 16, .inl (fun j => nI (O.1 j)))), (cs, .inl (ca 3, 3, .inr (.inr (.inr (.inr fc))))), (q0, .inr (1, [.int (nI y), .ref d0, .int (nI ((K 0).1)), .int (nI ((K 0).2.1)), .int (nI ((K 0).2.2.1)), .int (nI ((K 0).2.2.2.1)), .int (nI ((K 0).2.2.2.2.1))])), (d0, .inr (0, [.ref a0, .int (nI (((K 0).2.2.2.2.2).2))])), (a0, .inl (ca 0, 2, .inl (fun j => nI ((((K 0).2.2.2.2.2).1) j)))), (q1, .inr (1, [.int (nI y), .ref d1, .int (nI ((K 1).1)), .int (nI ((K 1).2.1)), .int (nI ((K 1).2.2.1)), .int (nI ((K 1).2.2.2.1)), .int (nI ((K 1).2.2.2.2.1))])), (d1, .inr (0, [.ref a1, .int (nI (((K 1).2.2.2.2.2).2))])), (a1, .inl (ca 0, 2, .inl (fun j => nI ((((K 1).2.2.2.2.2).1) j)))), (q2, .inr (1, [.int (nI y), .ref d2, .int (nI ((K 2).1)), .int (nI ((K 2).2.1)), .int (nI ((K 2).2.2.1)), .int (nI ((K 2).2.2.2.1)), .int (nI ((K 2).2.2.2.2.1))])), (d2, .inr (0, [.ref a2, .int (nI (((K 2).2.2.2.2.2).2))])), (a2, .inl (ca 0, 2, .inl (fun j => nI ((((K 2).2.2.2.2.2).1) j))))] H := hP.sub [10, 11, 12, 13, 14, 0, 1, 2, 3, 4, 5, 6, 7, 8, 9] rfl
      have hD : va_D A [(h, .inr (2, [.ref ln, .ref pe, .ref ou, .ref cs, .int (nI lk), .int (nI sn), .int (nI ac), .int (nI ex), .int (nI (tr + 1)), .int (nI rj)])), (pe, .inr (0, [.ref pea, .int (nI ((cAgain sn ac ex O P).2))])), (pea, .inl (ca 0, 12, .inl (fun j => nI (((cAgain sn ac ex O P).1) j)))), (ou, .inr (0, [.ref oua, .int (nI O.2)])), (oua, .inl (ca 0, 16, .inl (fun j => nI (O.1 j)))), (cs, .inl (ca 3, 3, .inr (.inr (.inr (.inr fc))))), (q0, .inr (1, [.int (nI y), .ref d0, .int (nI ((K 0).1)), .int (nI ((K 0).2.1)), .int (nI ((K 0).2.2.1)), .int (nI ((K 0).2.2.2.1)), .int (nI ((K 0).2.2.2.2.1))])), (d0, .inr (0, [.ref a0, .int (nI (((K 0).2.2.2.2.2).2))])), (a0, .inl (ca 0, 2, .inl (fun j => nI ((((K 0).2.2.2.2.2).1) j)))), (q1, .inr (1, [.int (nI y), .ref d1, .int (nI ((K 1).1)), .int (nI ((K 1).2.1)), .int (nI ((K 1).2.2.1)), .int (nI ((K 1).2.2.2.1)), .int (nI ((K 1).2.2.2.2.1))])), (d1, .inr (0, [.ref a1, .int (nI (((K 1).2.2.2.2.2).2))])), (a1, .inl (ca 0, 2, .inl (fun j => nI ((((K 1).2.2.2.2.2).1) j)))), (q2, .inr (1, [.int (nI y), .ref d2, .int (nI ((K 2).1)), .int (nI ((K 2).2.1)), .int (nI ((K 2).2.2.1)), .int (nI ((K 2).2.2.2.1)), .int (nI ((K 2).2.2.2.2.1))])), (d2, .inr (0, [.ref a2, .int (nI (((K 2).2.2.2.2.2).2))])), (a2, .inl (ca 0, 2, .inl (fun j => nI ((((K 2).2.2.2.2.2).1) j))))] := hD.sub [10, 11, 12, 13, 14, 0, 1, 2, 3, 4, 5, 6, 7, 8, 9] rfl rfl
      have e9 : sTry lk sn ac ex tr rj O K P = ((lk, sn, ac, ex, tr + 1, rj), O, K, cAgain sn ac ex O P) := (if_neg (by omega)).trans (if_neg (by omega))
      exact Co.reti hx hb hret hlk dSt_tryAgain_45 hS hP hD () rfl trivial (by rw [e9]; rfl) (Nat.le_of_ble_eq_true rfl) (Nat.le_of_ble_eq_true rfl)
    · refine lv_aload_n hx hb dSt_tryAgain_32 rfl (lv_at hl 1 rfl) ?_
      refine lv_iconst (v := nI 1) hx hb dSt_tryAgain_33 (by decide) ?_
      refine kV (rV fx (c_St_sendUnnumbered l D ca h ln pe ou cs lk sn ac ex (tr + 1) rj pea P 1 (by omega) (by first | assumption | exact rAdd_le (by assumption) | exact cPump_le (by assumption) | exact cAgain_le (by assumption) | exact cPump_le (cAgain_le (by assumption)) | omega)) ⟨callB_of 1 hts (tb_gi tw_227) rfl rfl rfl (ht _ tw_3) (ht _ tw_224) (by decide +kernel) ⟨(Nat.le_of_ble_eq_true rfl), (Nat.le_of_ble_eq_true rfl)⟩, ht _ tw_226, ht _ tw_829⟩ hE hP hD 0 rfl rfl rfl [0, 1, 2] rfl rfl rfl hl.1 rfl (Nat.le_of_ble_eq_true rfl) dSt_tryAgain_34 ⟨(Nat.le_of_ble_eq_true rfl), (Nat.le_of_ble_eq_true rfl)⟩) hP hD hS hA [0, 1, 2] [3, 4, 5, 6, 7, 8, 9, 10, 11, 12, 13, 14] rfl rfl rfl (by decide) (fun _ H locs _ hP hD hS => ?_)
      have hP : va_P D cls_ [(ou, .inr (0, [.ref oua, .int (nI O.2)])), (oua, .inl (ca 0, 16, .inl (fun j => nI (O.1 j)))), (cs, .inl (ca 3, 3, .inr (.inr (.inr (.inr fc))))), (q0, .inr (1, [.int (nI y), .ref d0, .int (nI ((K 0).1)), .int (nI ((K 0).2.1)), .int (nI ((K 0).2.2.1)), .int (nI ((K 0).2.2.2.1)), .int (nI ((K 0).2.2.2.2.1))])), (d0, .inr (0, [.ref a0, .int (nI (((K 0).2.2.2.2.2).2))])), (a0, .inl (ca 0, 2, .inl (fun j => nI ((((K 0).2.2.2.2.2).1) j)))), (q1, .inr (1, [.int (nI y), .ref d1, .int (nI ((K 1).1)), .int (nI ((K 1).2.1)), .int (nI ((K 1).2.2.1)), .int (nI ((K 1).2.2.2.1)), .int (nI ((K 1).2.2.2.2.1))])), (d1, .inr (0, [.ref a1, .int (nI (((K 1).2.2.2.2.2).2))])), (a1, .inl (ca 0, 2, .inl (fun j => nI ((((K 1).2.2.2.2.2).1) j)))), (q2, .inr (1, [.int (nI y), .ref d2, .int (nI ((K 2).1)), .int (nI ((K 2).2.1)), .int (nI ((K 2).2.2.1)), .int (nI ((K 2).2.2.2.1)), .int (nI ((K 2).2.2.2.2.1))])), (d2, .inr (0, [.ref a2, .int (nI (((K 2).2.2.2.2.2).2))])), (a2, .inl (ca 0, 2, .inl (fun j => nI ((((K 2).2.2.2.2.2).1) j)))), (h, .inr (2, [.ref ln, .ref pe, .ref ou, .ref cs, .int (nI lk), .int (nI sn), .int (nI ac), .int (nI ex), .int (nI (tr + 1)), .int (nI rj)])), (pe, .inr (0, [.ref pea, .int (nI ((rAdd 12 P (fr4 1 0 0 0)).2))])), (pea, .inl (ca 0, 12, .inl (fun j => nI (((rAdd 12 P (fr4 1 0 0 0)).1) j))))] H := hP
      have hD : va_D A [(ou, .inr (0, [.ref oua, .int (nI O.2)])), (oua, .inl (ca 0, 16, .inl (fun j => nI (O.1 j)))), (cs, .inl (ca 3, 3, .inr (.inr (.inr (.inr fc))))), (q0, .inr (1, [.int (nI y), .ref d0, .int (nI ((K 0).1)), .int (nI ((K 0).2.1)), .int (nI ((K 0).2.2.1)), .int (nI ((K 0).2.2.2.1)), .int (nI ((K 0).2.2.2.2.1))])), (d0, .inr (0, [.ref a0, .int (nI (((K 0).2.2.2.2.2).2))])), (a0, .inl (ca 0, 2, .inl (fun j => nI ((((K 0).2.2.2.2.2).1) j)))), (q1, .inr (1, [.int (nI y), .ref d1, .int (nI ((K 1).1)), .int (nI ((K 1).2.1)), .int (nI ((K 1).2.2.1)), .int (nI ((K 1).2.2.2.1)), .int (nI ((K 1).2.2.2.2.1))])), (d1, .inr (0, [.ref a1, .int (nI (((K 1).2.2.2.2.2).2))])), (a1, .inl (ca 0, 2, .inl (fun j => nI ((((K 1).2.2.2.2.2).1) j)))), (q2, .inr (1, [.int (nI y), .ref d2, .int (nI ((K 2).1)), .int (nI ((K 2).2.1)), .int (nI ((K 2).2.2.1)), .int (nI ((K 2).2.2.2.1)), .int (nI ((K 2).2.2.2.2.1))])), (d2, .inr (0, [.ref a2, .int (nI (((K 2).2.2.2.2.2).2))])), (a2, .inl (ca 0, 2, .inl (fun j => nI ((((K 2).2.2.2.2.2).1) j)))), (h, .inr (2, [.ref ln, .ref pe, .ref ou, .ref cs, .int (nI lk), .int (nI sn), .int (nI ac), .int (nI ex), .int (nI (tr + 1)), .int (nI rj)])), (pe, .inr (0, [.ref pea, .int (nI ((rAdd 12 P (fr4 1 0 0 0)).2))])), (pea, .inl (ca 0, 12, .inl (fun j => nI (((rAdd 12 P (fr4 1 0 0 0)).1) j))))] := hD
      refine lv_goto (tgt := 44) hx hb dSt_tryAgain_37 rfl ?_
      refine lv_iload_n hx hb dSt_tryAgain_44 rfl (lv_at hl 0 rfl) ?_
      have hP : va_P D cls_ [(h, .inr (2, [.ref ln, .ref pe, .ref ou, .ref cs, .int (nI lk), .int (nI sn), .int (nI ac), .int (nI ex), .int (nI (tr + 1)), .int (nI rj)])), (pe, .inr (0, [.ref pea, .int (nI ((rAdd 12 P (fr4 1 0 0 0)).2))])), (pea, .inl (ca 0, 12, .inl (fun j => nI (((rAdd 12 P (fr4 1 0 0 0)).1) j)))), (ou, .inr (0, [.ref oua, .int (nI O.2)])), (oua, .inl (ca 0, 16, .inl (fun j => nI (O.1 j)))), (cs, .inl (ca 3, 3, .inr (.inr (.inr (.inr fc))))), (q0, .inr (1, [.int (nI y), .ref d0, .int (nI ((K 0).1)), .int (nI ((K 0).2.1)), .int (nI ((K 0).2.2.1)), .int (nI ((K 0).2.2.2.1)), .int (nI ((K 0).2.2.2.2.1))])), (d0, .inr (0, [.ref a0, .int (nI (((K 0).2.2.2.2.2).2))])), (a0, .inl (ca 0, 2, .inl (fun j => nI ((((K 0).2.2.2.2.2).1) j)))), (q1, .inr (1, [.int (nI y), .ref d1, .int (nI ((K 1).1)), .int (nI ((K 1).2.1)), .int (nI ((K 1).2.2.1)), .int (nI ((K 1).2.2.2.1)), .int (nI ((K 1).2.2.2.2.1))])), (d1, .inr (0, [.ref a1, .int (nI (((K 1).2.2.2.2.2).2))])), (a1, .inl (ca 0, 2, .inl (fun j => nI ((((K 1).2.2.2.2.2).1) j)))), (q2, .inr (1, [.int (nI y), .ref d2, .int (nI ((K 2).1)), .int (nI ((K 2).2.1)), .int (nI ((K 2).2.2.1)), .int (nI ((K 2).2.2.2.1)), .int (nI ((K 2).2.2.2.2.1))])), (d2, .inr (0, [.ref a2, .int (nI (((K 2).2.2.2.2.2).2))])), (a2, .inl (ca 0, 2, .inl (fun j => nI ((((K 2).2.2.2.2.2).1) j))))] H := hP.sub [12, 13, 14, 0, 1, 2, 3, 4, 5, 6, 7, 8, 9, 10, 11] rfl
      have hD : va_D A [(h, .inr (2, [.ref ln, .ref pe, .ref ou, .ref cs, .int (nI lk), .int (nI sn), .int (nI ac), .int (nI ex), .int (nI (tr + 1)), .int (nI rj)])), (pe, .inr (0, [.ref pea, .int (nI ((rAdd 12 P (fr4 1 0 0 0)).2))])), (pea, .inl (ca 0, 12, .inl (fun j => nI (((rAdd 12 P (fr4 1 0 0 0)).1) j)))), (ou, .inr (0, [.ref oua, .int (nI O.2)])), (oua, .inl (ca 0, 16, .inl (fun j => nI (O.1 j)))), (cs, .inl (ca 3, 3, .inr (.inr (.inr (.inr fc))))), (q0, .inr (1, [.int (nI y), .ref d0, .int (nI ((K 0).1)), .int (nI ((K 0).2.1)), .int (nI ((K 0).2.2.1)), .int (nI ((K 0).2.2.2.1)), .int (nI ((K 0).2.2.2.2.1))])), (d0, .inr (0, [.ref a0, .int (nI (((K 0).2.2.2.2.2).2))])), (a0, .inl (ca 0, 2, .inl (fun j => nI ((((K 0).2.2.2.2.2).1) j)))), (q1, .inr (1, [.int (nI y), .ref d1, .int (nI ((K 1).1)), .int (nI ((K 1).2.1)), .int (nI ((K 1).2.2.1)), .int (nI ((K 1).2.2.2.1)), .int (nI ((K 1).2.2.2.2.1))])), (d1, .inr (0, [.ref a1, .int (nI (((K 1).2.2.2.2.2).2))])), (a1, .inl (ca 0, 2, .inl (fun j => nI ((((K 1).2.2.2.2.2).1) j)))), (q2, .inr (1, [.int (nI y), .ref d2, .int (nI ((K 2).1)), .int (nI ((K 2).2.1)), .int (nI ((K 2).2.2.1)), .int (nI ((K 2).2.2.2.1)), .int (nI ((K 2).2.2.2.2.1))])), (d2, .inr (0, [.ref a2, .int (nI (((K 2).2.2.2.2.2).2))])), (a2, .inl (ca 0, 2, .inl (fun j => nI ((((K 2).2.2.2.2.2).1) j))))] := hD.sub [12, 13, 14, 0, 1, 2, 3, 4, 5, 6, 7, 8, 9, 10, 11] rfl rfl
      have e9 : sTry lk sn ac ex tr rj O K P = ((lk, sn, ac, ex, tr + 1, rj), O, K, rAdd 12 P (fr4 1 0 0 0)) := (if_neg (by omega)).trans (if_pos (by omega))
      exact Co.reti hx hb hret hlk dSt_tryAgain_45 hS hP hD () rfl trivial (by rw [e9]; rfl) (Nat.le_of_ble_eq_true rfl) (Nat.le_of_ble_eq_true rfl)
  · refine lv_aload_n hx hb dSt_tryAgain_17 rfl (lv_at hl 1 rfl) ?_
    refine kV (rV fx (c_St_giveUp l D ca h ln pe ou cs lk sn ac ex (tr + 1) rj pea oua O P q0 d0 a0 q1 d1 a1 q2 d2 a2 y fc K hq0 hq1 hq2 (by omega) (by omega) (by omega) (by omega) (by first | assumption | exact oOk.add (by assumption) (by first | omega | exact pk5_lt (by omega) (by omega) (by omega) (by omega) (by omega))) (by first | assumption | exact rAdd_le (by assumption) | exact cPump_le (by assumption) | exact cAgain_le (by assumption) | exact cPump_le (cAgain_le (by assumption)) | omega)) ⟨callB_of 0 hts (tb_gi tw_277) rfl rfl rfl (ht _ tw_3) (ht _ tw_274) (by decide +kernel) ⟨(Nat.le_of_ble_eq_true rfl), (Nat.le_of_ble_eq_true rfl)⟩, ht _ tw_276, ht _ tw_831⟩ hE hP hD 0 rfl rfl rfl [0, 1, 2, 3, 4, 5, 6, 7, 8, 9, 10, 11, 12, 13, 14] rfl rfl rfl hl.1 rfl (Nat.le_of_ble_eq_true rfl) dSt_tryAgain_18 ⟨(Nat.le_of_ble_eq_true rfl), (Nat.le_of_ble_eq_true rfl)⟩) hP hD hS hA [0, 1, 2, 3, 4, 5, 6, 7, 8, 9, 10, 11, 12, 13, 14] [] rfl rfl rfl (by decide) (fun _ H locs _ hP hD hS => ?_)
    have hP : va_P D cls_ [(h, .inr (2, [.ref ln, .ref pe, .ref ou, .ref cs, .int (nI ((sGive lk sn ac ex rj O K P).1.1)), .int (nI ((sGive lk sn ac ex rj O K P).1.2.1)), .int (nI ((sGive lk sn ac ex rj O K P).1.2.2.1)), .int (nI ((sGive lk sn ac ex rj O K P).1.2.2.2.1)), .int (nI ((sGive lk sn ac ex rj O K P).1.2.2.2.2.1)), .int (nI ((sGive lk sn ac ex rj O K P).1.2.2.2.2.2))])), (pe, .inr (0, [.ref pea, .int (nI (((sGive lk sn ac ex rj O K P).2.2.2).2))])), (pea, .inl (ca 0, 12, .inl (fun j => nI ((((sGive lk sn ac ex rj O K P).2.2.2).1) j)))), (ou, .inr (0, [.ref oua, .int (nI (((sGive lk sn ac ex rj O K P).2.1).2))])), (oua, .inl (ca 0, 16, .inl (fun j => nI ((((sGive lk sn ac ex rj O K P).2.1).1) j)))), (cs, .inl (ca 3, 3, .inr (.inr (.inr (.inr fc))))), (q0, .inr (1, [.int (nI y), .ref d0, .int (nI ((((sGive lk sn ac ex rj O K P).2.2.1) 0).1)), .int (nI ((((sGive lk sn ac ex rj O K P).2.2.1) 0).2.1)), .int (nI ((((sGive lk sn ac ex rj O K P).2.2.1) 0).2.2.1)), .int (nI ((((sGive lk sn ac ex rj O K P).2.2.1) 0).2.2.2.1)), .int (nI ((((sGive lk sn ac ex rj O K P).2.2.1) 0).2.2.2.2.1))])), (d0, .inr (0, [.ref a0, .int (nI (((((sGive lk sn ac ex rj O K P).2.2.1) 0).2.2.2.2.2).2))])), (a0, .inl (ca 0, 2, .inl (fun j => nI ((((((sGive lk sn ac ex rj O K P).2.2.1) 0).2.2.2.2.2).1) j)))), (q1, .inr (1, [.int (nI y), .ref d1, .int (nI ((((sGive lk sn ac ex rj O K P).2.2.1) 1).1)), .int (nI ((((sGive lk sn ac ex rj O K P).2.2.1) 1).2.1)), .int (nI ((((sGive lk sn ac ex rj O K P).2.2.1) 1).2.2.1)), .int (nI ((((sGive lk sn ac ex rj O K P).2.2.1) 1).2.2.2.1)), .int (nI ((((sGive lk sn ac ex rj O K P).2.2.1) 1).2.2.2.2.1))])), (d1, .inr (0, [.ref a1, .int (nI (((((sGive lk sn ac ex rj O K P).2.2.1) 1).2.2.2.2.2).2))])), (a1, .inl (ca 0, 2, .inl (fun j => nI ((((((sGive lk sn ac ex rj O K P).2.2.1) 1).2.2.2.2.2).1) j)))), (q2, .inr (1, [.int (nI y), .ref d2, .int (nI ((((sGive lk sn ac ex rj O K P).2.2.1) 2).1)), .int (nI ((((sGive lk sn ac ex rj O K P).2.2.1) 2).2.1)), .int (nI ((((sGive lk sn ac ex rj O K P).2.2.1) 2).2.2.1)), .int (nI ((((sGive lk sn ac ex rj O K P).2.2.1) 2).2.2.2.1)), .int (nI ((((sGive lk sn ac ex rj O K P).2.2.1) 2).2.2.2.2.1))])), (d2, .inr (0, [.ref a2, .int (nI (((((sGive lk sn ac ex rj O K P).2.2.1) 2).2.2.2.2.2).2))])), (a2, .inl (ca 0, 2, .inl (fun j => nI ((((((sGive lk sn ac ex rj O K P).2.2.1) 2).2.2.2.2.2).1) j))))] H := hP
    have hD : va_D A [(h, .inr (2, [.ref ln, .ref pe, .ref ou, .ref cs, .int (nI ((sGive lk sn ac ex rj O K P).1.1)), .int (nI ((sGive lk sn ac ex rj O K P).1.2.1)), .int (nI ((sGive lk sn ac ex rj O K P).1.2.2.1)), .int (nI ((sGive lk sn ac ex rj O K P).1.2.2.2.1)), .int (nI ((sGive lk sn ac ex rj O K P).1.2.2.2.2.1)), .int (nI ((sGive lk sn ac ex rj O K P).1.2.2.2.2.2))])), (pe, .inr (0, [.ref pea, .int (nI (((sGive lk sn ac ex rj O K P).2.2.2).2))])), (pea, .inl (ca 0, 12, .inl (fun j => nI ((((sGive lk sn ac ex rj O K P).2.2.2).1) j)))), (ou, .inr (0, [.ref oua, .int (nI (((sGive lk sn ac ex rj O K P).2.1).2))])), (oua, .inl (ca 0, 16, .inl (fun j => nI ((((sGive lk sn ac ex rj O K P).2.1).1) j)))), (cs, .inl (ca 3, 3, .inr (.inr (.inr (.inr fc))))), (q0, .inr (1, [.int (nI y), .ref d0, .int (nI ((((sGive lk sn ac ex rj O K P).2.2.1) 0).1)), .int (nI ((((sGive lk sn ac ex rj O K P).2.2.1) 0).2.1)), .int (nI ((((sGive lk sn ac ex rj O K P).2.2.1) 0).2.2.1)), .int (nI ((((sGive lk sn ac ex rj O K P).2.2.1) 0).2.2.2.1)), .int (nI ((((sGive lk sn ac ex rj O K P).2.2.1) 0).2.2.2.2.1))])), (d0, .inr (0, [.ref a0, .int (nI (((((sGive lk sn ac ex rj O K P).2.2.1) 0).2.2.2.2.2).2))])), (a0, .inl (ca 0, 2, .inl (fun j => nI ((((((sGive lk sn ac ex rj O K P).2.2.1) 0).2.2.2.2.2).1) j)))), (q1, .inr (1, [.int (nI y), .ref d1, .int (nI ((((sGive lk sn ac ex rj O K P).2.2.1) 1).1)), .int (nI ((((sGive lk sn ac ex rj O K P).2.2.1) 1).2.1)), .int (nI ((((sGive lk sn ac ex rj O K P).2.2.1) 1).2.2.1)), .int (nI ((((sGive lk sn ac ex rj O K P).2.2.1) 1).2.2.2.1)), .int (nI ((((sGive lk sn ac ex rj O K P).2.2.1) 1).2.2.2.2.1))])), (d1, .inr (0, [.ref a1, .int (nI (((((sGive lk sn ac ex rj O K P).2.2.1) 1).2.2.2.2.2).2))])), (a1, .inl (ca 0, 2, .inl (fun j => nI ((((((sGive lk sn ac ex rj O K P).2.2.1) 1).2.2.2.2.2).1) j)))), (q2, .inr (1, [.int (nI y), .ref d2, .int (nI ((((sGive lk sn ac ex rj O K P).2.2.1) 2).1)), .int (nI ((((sGive lk sn ac ex rj O K P).2.2.1) 2).2.1)), .int (nI ((((sGive lk sn ac ex rj O K P).2.2.1) 2).2.2.1)), .int (nI ((((sGive lk sn ac ex rj O K P).2.2.1) 2).2.2.2.1)), .int (nI ((((sGive lk sn ac ex rj O K P).2.2.1) 2).2.2.2.2.1))])), (d2, .inr (0, [.ref a2, .int (nI (((((sGive lk sn ac ex rj O K P).2.2.1) 2).2.2.2.2.2).2))])), (a2, .inl (ca 0, 2, .inl (fun j => nI ((((((sGive lk sn ac ex rj O K P).2.2.1) 2).2.2.2.2.2).1) j))))] := hD
    refine lv_goto (tgt := 44) hx hb dSt_tryAgain_21 rfl ?_
    refine lv_iload_n hx hb dSt_tryAgain_44 rfl (lv_at hl 0 rfl) ?_
    have e9 : sTry lk sn ac ex tr rj O K P = sGive lk sn ac ex rj O K P := if_pos (by omega)
    exact Co.reti hx hb hret hlk dSt_tryAgain_45 hS hP hD () rfl trivial (by rw [e9]; rfl) (Nat.le_of_ble_eq_true rfl) (Nat.le_of_ble_eq_true rfl)
set_option maxHeartbeats 4000000 in
set_option maxRecDepth 100000 in
theorem c_St_hearSetup (l : Launch) (D : va_G) (ca : Nat → ClassId) (h ln pe ou cs lk sn ac ex tr rj : Nat) (pea oua : Nat) (O P : Rw_) (q0 d0 a0 q1 d1 a1 q2 d2 a2 y : Nat) (fc : Nat → Option Nat) (K : Nat → Cn_) (hq0 : fc 0 = some q0) (hq1 : fc 1 = some q1) (hq2 : fc 2 = some q2) (hlk2 : lk < 3) (hsn : sn < 8) (hac : ac < 8) (hex : ex < 8) (hO : oOk O) (hP1 : P.2 ≤ 12) : Co (S := Unit) l ySt_hearSetup (Cond.code ySt_hearSetup cSt_hearSetup 1 none :: tb_) { frames := 2, cells := 0, slots := 0, locals := 64 } D ca [.ref h] [(h, .inr (2, [.ref ln, .ref pe, .ref ou, .ref cs, .int (nI lk), .int (nI sn), .int (nI ac), .int (nI ex), .int (nI tr), .int (nI rj)])), (pe, .inr (0, [.ref pea, .int (nI P.2)])), (pea, .inl (ca 0, 12, .inl (fun j => nI (P.1 j)))), (ou, .inr (0, [.ref oua, .int (nI O.2)])), (oua, .inl (ca 0, 16, .inl (fun j => nI (O.1 j)))), (cs, .inl (ca 3, 3, .inr (.inr (.inr (.inr fc))))), (q0, .inr (1, [.int (nI y), .ref d0, .int (nI ((K 0).1)), .int (nI ((K 0).2.1)), .int (nI ((K 0).2.2.1)), .int (nI ((K 0).2.2.2.1)), .int (nI ((K 0).2.2.2.2.1))])), (d0, .inr (0, [.ref a0, .int (nI (((K 0).2.2.2.2.2).2))])), (a0, .inl (ca 0, 2, .inl (fun j => nI ((((K 0).2.2.2.2.2).1) j)))), (q1, .inr (1, [.int (nI y), .ref d1, .int (nI ((K 1).1)), .int (nI ((K 1).2.1)), .int (nI ((K 1).2.2.1)), .int (nI ((K 1).2.2.2.1)), .int (nI ((K 1).2.2.2.2.1))])), (d1, .inr (0, [.ref a1, .int (nI (((K 1).2.2.2.2.2).2))])), (a1, .inl (ca 0, 2, .inl (fun j => nI ((((K 1).2.2.2.2.2).1) j)))), (q2, .inr (1, [.int (nI y), .ref d2, .int (nI ((K 2).1)), .int (nI ((K 2).2.1)), .int (nI ((K 2).2.2.1)), .int (nI ((K 2).2.2.2.1)), .int (nI ((K 2).2.2.2.2.1))])), (d2, .inr (0, [.ref a2, .int (nI (((K 2).2.2.2.2.2).2))])), (a2, .inl (ca 0, 2, .inl (fun j => nI ((((K 2).2.2.2.2.2).1) j))))] (fun _ => none) (fun _ => True) (fun _ => [(h, .inr (2, [.ref ln, .ref pe, .ref ou, .ref cs, .int (nI ((sHSet lk sn ac ex tr rj O K P).1.1)), .int (nI ((sHSet lk sn ac ex tr rj O K P).1.2.1)), .int (nI ((sHSet lk sn ac ex tr rj O K P).1.2.2.1)), .int (nI ((sHSet lk sn ac ex tr rj O K P).1.2.2.2.1)), .int (nI ((sHSet lk sn ac ex tr rj O K P).1.2.2.2.2.1)), .int (nI ((sHSet lk sn ac ex tr rj O K P).1.2.2.2.2.2))])), (pe, .inr (0, [.ref pea, .int (nI (((sHSet lk sn ac ex tr rj O K P).2.2.2).2))])), (pea, .inl (ca 0, 12, .inl (fun j => nI ((((sHSet lk sn ac ex tr rj O K P).2.2.2).1) j)))), (ou, .inr (0, [.ref oua, .int (nI (((sHSet lk sn ac ex tr rj O K P).2.1).2))])), (oua, .inl (ca 0, 16, .inl (fun j => nI ((((sHSet lk sn ac ex tr rj O K P).2.1).1) j)))), (cs, .inl (ca 3, 3, .inr (.inr (.inr (.inr fc))))), (q0, .inr (1, [.int (nI y), .ref d0, .int (nI ((((sHSet lk sn ac ex tr rj O K P).2.2.1) 0).1)), .int (nI ((((sHSet lk sn ac ex tr rj O K P).2.2.1) 0).2.1)), .int (nI ((((sHSet lk sn ac ex tr rj O K P).2.2.1) 0).2.2.1)), .int (nI ((((sHSet lk sn ac ex tr rj O K P).2.2.1) 0).2.2.2.1)), .int (nI ((((sHSet lk sn ac ex tr rj O K P).2.2.1) 0).2.2.2.2.1))])), (d0, .inr (0, [.ref a0, .int (nI (((((sHSet lk sn ac ex tr rj O K P).2.2.1) 0).2.2.2.2.2).2))])), (a0, .inl (ca 0, 2, .inl (fun j => nI ((((((sHSet lk sn ac ex tr rj O K P).2.2.1) 0).2.2.2.2.2).1) j)))), (q1, .inr (1, [.int (nI y), .ref d1, .int (nI ((((sHSet lk sn ac ex tr rj O K P).2.2.1) 1).1)), .int (nI ((((sHSet lk sn ac ex tr rj O K P).2.2.1) 1).2.1)), .int (nI ((((sHSet lk sn ac ex tr rj O K P).2.2.1) 1).2.2.1)), .int (nI ((((sHSet lk sn ac ex tr rj O K P).2.2.1) 1).2.2.2.1)), .int (nI ((((sHSet lk sn ac ex tr rj O K P).2.2.1) 1).2.2.2.2.1))])), (d1, .inr (0, [.ref a1, .int (nI (((((sHSet lk sn ac ex tr rj O K P).2.2.1) 1).2.2.2.2.2).2))])), (a1, .inl (ca 0, 2, .inl (fun j => nI ((((((sHSet lk sn ac ex tr rj O K P).2.2.1) 1).2.2.2.2.2).1) j)))), (q2, .inr (1, [.int (nI y), .ref d2, .int (nI ((((sHSet lk sn ac ex tr rj O K P).2.2.1) 2).1)), .int (nI ((((sHSet lk sn ac ex tr rj O K P).2.2.1) 2).2.1)), .int (nI ((((sHSet lk sn ac ex tr rj O K P).2.2.1) 2).2.2.1)), .int (nI ((((sHSet lk sn ac ex tr rj O K P).2.2.1) 2).2.2.2.1)), .int (nI ((((sHSet lk sn ac ex tr rj O K P).2.2.1) 2).2.2.2.2.1))])), (d2, .inr (0, [.ref a2, .int (nI (((((sHSet lk sn ac ex tr rj O K P).2.2.1) 2).2.2.2.2.2).2))])), (a2, .inl (ca 0, 2, .inl (fun j => nI ((((((sHSet lk sn ac ex tr rj O K P).2.2.1) 2).2.2.2.2.2).1) j))))]) 0 0 := by
  refine Co.of cSt_hearSetup 1 none (by decide) (Nat.le_of_ble_eq_true rfl) ?_
  intro p e s m args below meth c A ls fx hret hlk hin hE hP hD hS hA hl
  have hx := fx.1
  have hb := fx.2.1
  have hown : s.vm.findClass RSt = some m.cls := fx.2.2.2.1
  have hts := fx.2.2.2.2
  have ht : ∀ w ∈ tb_, w.before args s = true := fun w h => hts w (List.mem_cons_of_mem _ h)
  have hl : lv_has ls 1 [(0, .ref h)] := hl
  refine lv_aload_n hx hb dSt_hearSetup_0 rfl (lv_at hl 0 rfl) ?_
  refine va_get (D := D) (ci := 2) (v := .int (nI lk)) (C := RSt) (T := TSt) (N := 10) hx hb ht inSt hown hE.1 hP 0 rfl rfl 4 (by decide) (ht _ tw_95) (fun _ h => h) rfl dSt_hearSetup_1 ?_
  refine lv_iconst (v := nI 1) hx hb dSt_hearSetup_4 (by decide) ?_
  refine k_icmp_eq (tgt := 13) hx hb (by omega) (by omega) dSt_hearSetup_5 rfl (fun h5 => ?_) (fun h5 => ?_)
  · refine lv_aload_n hx hb dSt_hearSetup_13 rfl (lv_at hl 0 rfl) ?_
    refine lv_iconst (v := nI 2) hx hb dSt_hearSetup_14 (by decide) ?_
    refine kV (rV fx (c_St_sendUnnumbered l D ca h ln pe ou cs lk sn ac ex tr rj pea P 2 (by omega) (by first | assumption | exact rAdd_le (by assumption) | exact cPump_le (by assumption) | exact cAgain_le (by assumption) | exact cPump_le (cAgain_le (by assumption)) | omega)) ⟨callB_of 1 hts (tb_gi tw_227) rfl rfl rfl (ht _ tw_3) (ht _ tw_224) (by decide +kernel) ⟨(Nat.le_of_ble_eq_true rfl), (Nat.le_of_ble_eq_true rfl)⟩, ht _ tw_226, ht _ tw_829⟩ hE hP hD 0 rfl rfl rfl [0, 1, 2] rfl rfl rfl hl.1 rfl (Nat.le_of_ble_eq_true rfl) dSt_hearSetup_15 ⟨(Nat.le_of_ble_eq_true rfl), (Nat.le_of_ble_eq_true rfl)⟩) hP hD hS hA [0, 1, 2] [3, 4, 5, 6, 7, 8, 9, 10, 11, 12, 13, 14] rfl rfl rfl (by decide) (fun _ H locs _ hP hD hS => ?_)
    have hP : va_P D cls_ [(ou, .inr (0, [.ref oua, .int (nI O.2)])), (oua, .inl (ca 0, 16, .inl (fun j => nI (O.1 j)))), (cs, .inl (ca 3, 3, .inr (.inr (.inr (.inr fc))))), (q0, .inr (1, [.int (nI y), .ref d0, .int (nI ((K 0).1)), .int (nI ((K 0).2.1)), .int (nI ((K 0).2.2.1)), .int (nI ((K 0).2.2.2.1)), .int (nI ((K 0).2.2.2.2.1))])), (d0, .inr (0, [.ref a0, .int (nI (((K 0).2.2.2.2.2).2))])), (a0, .inl (ca 0, 2, .inl (fun j => nI ((((K 0).2.2.2.2.2).1) j)))), (q1, .inr (1, [.int (nI y), .ref d1, .int (nI ((K 1).1)), .int (nI ((K 1).2.1)), .int (nI ((K 1).2.2.1)), .int (nI ((K 1).2.2.2.1)), .int (nI ((K 1).2.2.2.2.1))])), (d1, .inr (0, [.ref a1, .int (nI (((K 1).2.2.2.2.2).2))])), (a1, .inl (ca 0, 2, .inl (fun j => nI ((((K 1).2.2.2.2.2).1) j)))), (q2, .inr (1, [.int (nI y), .ref d2, .int (nI ((K 2).1)), .int (nI ((K 2).2.1)), .int (nI ((K 2).2.2.1)), .int (nI ((K 2).2.2.2.1)), .int (nI ((K 2).2.2.2.2.1))])), (d2, .inr (0, [.ref a2, .int (nI (((K 2).2.2.2.2.2).2))])), (a2, .inl (ca 0, 2, .inl (fun j => nI ((((K 2).2.2.2.2.2).1) j)))), (h, .inr (2, [.ref ln, .ref pe, .ref ou, .ref cs, .int (nI lk), .int (nI sn), .int (nI ac), .int (nI ex), .int (nI tr), .int (nI rj)])), (pe, .inr (0, [.ref pea, .int (nI ((rAdd 12 P (fr4 2 0 0 0)).2))])), (pea, .inl (ca 0, 12, .inl (fun j => nI (((rAdd 12 P (fr4 2 0 0 0)).1) j))))] H := hP
    have hD : va_D A [(ou, .inr (0, [.ref oua, .int (nI O.2)])), (oua, .inl (ca 0, 16, .inl (fun j => nI (O.1 j)))), (cs, .inl (ca 3, 3, .inr (.inr (.inr (.inr fc))))), (q0, .inr (1, [.int (nI y), .ref d0, .int (nI ((K 0).1)), .int (nI ((K 0).2.1)), .int (nI ((K 0).2.2.1)), .int (nI ((K 0).2.2.2.1)), .int (nI ((K 0).2.2.2.2.1))])), (d0, .inr (0, [.ref a0, .int (nI (((K 0).2.2.2.2.2).2))])), (a0, .inl (ca 0, 2, .inl (fun j => nI ((((K 0).2.2.2.2.2).1) j)))), (q1, .inr (1, [.int (nI y), .ref d1, .int (nI ((K 1).1)), .int (nI ((K 1).2.1)), .int (nI ((K 1).2.2.1)), .int (nI ((K 1).2.2.2.1)), .int (nI ((K 1).2.2.2.2.1))])), (d1, .inr (0, [.ref a1, .int (nI (((K 1).2.2.2.2.2).2))])), (a1, .inl (ca 0, 2, .inl (fun j => nI ((((K 1).2.2.2.2.2).1) j)))), (q2, .inr (1, [.int (nI y), .ref d2, .int (nI ((K 2).1)), .int (nI ((K 2).2.1)), .int (nI ((K 2).2.2.1)), .int (nI ((K 2).2.2.2.1)), .int (nI ((K 2).2.2.2.2.1))])), (d2, .inr (0, [.ref a2, .int (nI (((K 2).2.2.2.2.2).2))])), (a2, .inl (ca 0, 2, .inl (fun j => nI ((((K 2).2.2.2.2.2).1) j)))), (h, .inr (2, [.ref ln, .ref pe, .ref ou, .ref cs, .int (nI lk), .int (nI sn), .int (nI ac), .int (nI ex), .int (nI tr), .int (nI rj)])), (pe, .inr (0, [.ref pea, .int (nI ((rAdd 12 P (fr4 2 0 0 0)).2))])), (pea, .inl (ca 0, 12, .inl (fun j => nI (((rAdd 12 P (fr4 2 0 0 0)).1) j))))] := hD
    have hP : va_P D cls_ [(h, .inr (2, [.ref ln, .ref pe, .ref ou, .ref cs, .int (nI lk), .int (nI sn), .int (nI ac), .int (nI ex), .int (nI tr), .int (nI rj)])), (pe, .inr (0, [.ref pea, .int (nI ((rAdd 12 P (fr4 2 0 0 0)).2))])), (pea, .inl (ca 0, 12, .inl (fun j => nI (((rAdd 12 P (fr4 2 0 0 0)).1) j)))), (ou, .inr (0, [.ref oua, .int (nI O.2)])), (oua, .inl (ca 0, 16, .inl (fun j => nI (O.1 j)))), (cs, .inl (ca 3, 3, .inr (.inr (.inr (.inr fc))))), (q0, .inr (1, [.int (nI y), .ref d0, .int (nI ((K 0).1)), .int (nI ((K 0).2.1)), .int (nI ((K 0).2.2.1)), .int (nI ((K 0).2.2.2.1)), .int (nI ((K 0).2.2.2.2.1))])), (d0, .inr (0, [.ref a0, .int (nI (((K 0).2.2.2.2.2).2))])), (a0, .inl (ca 0, 2, .inl (fun j => nI ((((K 0).2.2.2.2.2).1) j)))), (q1, .inr (1, [.int (nI y), .ref d1, .int (nI ((K 1).1)), .int (nI ((K 1).2.1)), .int (nI ((K 1).2.2.1)), .int (nI ((K 1).2.2.2.1)), .int (nI ((K 1).2.2.2.2.1))])), (d1, .inr (0, [.ref a1, .int (nI (((K 1).2.2.2.2.2).2))])), (a1, .inl (ca 0, 2, .inl (fun j => nI ((((K 1).2.2.2.2.2).1) j)))), (q2, .inr (1, [.int (nI y), .ref d2, .int (nI ((K 2).1)), .int (nI ((K 2).2.1)), .int (nI ((K 2).2.2.1)), .int (nI ((K 2).2.2.2.1)), .int (nI ((K 2).2.2.2.2.1))])), (d2, .inr (0, [.ref a2, .int (nI (((K 2).2.2.2.2.2).2))])), (a2, .inl (ca 0, 2, .inl (fun j => nI ((((K 2).2.2.2.2.2).1) j))))] H := hP.sub [12, 13, 14, 0, 1, 2, 3, 4, 5, 6, 7, 8, 9, 10, 11] rfl
    have hD : va_D A [(h, .inr (2, [.ref ln, .ref pe, .ref ou, .ref cs, .int (nI lk), .int (nI sn), .int (nI ac), .int (nI ex), .int (nI tr), .int (nI rj)])), (pe, .inr (0, [.ref pea, .int (nI ((rAdd 12 P (fr4 2 0 0 0)).2))])), (pea, .inl (ca 0, 12, .inl (fun j => nI (((rAdd 12 P (fr4 2 0 0 0)).1) j)))), (ou, .inr (0, [.ref oua, .int (nI O.2)])), (oua, .inl (ca 0, 16, .inl (fun j => nI (O.1 j)))), (cs, .inl (ca 3, 3, .inr (.inr (.inr (.inr fc))))), (q0, .inr (1, [.int (nI y), .ref d0, .int (nI ((K 0).1)), .int (nI ((K 0).2.1)), .int (nI ((K 0).2.2.1)), .int (nI ((K 0).2.2.2.1)), .int (nI ((K 0).2.2.2.2.1))])), (d0, .inr (0, [.ref a0, .int (nI (((K 0).2.2.2.2.2).2))])), (a0, .inl (ca 0, 2, .inl (fun j => nI ((((K 0).2.2.2.2.2).1) j)))), (q1, .inr (1, [.int (nI y), .ref d1, .int (nI ((K 1).1)), .int (nI ((K 1).2.1)), .int (nI ((K 1).2.2.1)), .int (nI ((K 1).2.2.2.1)), .int (nI ((K 1).2.2.2.2.1))])), (d1, .inr (0, [.ref a1, .int (nI (((K 1).2.2.2.2.2).2))])), (a1, .inl (ca 0, 2, .inl (fun j => nI ((((K 1).2.2.2.2.2).1) j)))), (q2, .inr (1, [.int (nI y), .ref d2, .int (nI ((K 2).1)), .int (nI ((K 2).2.1)), .int (nI ((K 2).2.2.1)), .int (nI ((K 2).2.2.2.1)), .int (nI ((K 2).2.2.2.2.1))])), (d2, .inr (0, [.ref a2, .int (nI (((K 2).2.2.2.2.2).2))])), (a2, .inl (ca 0, 2, .inl (fun j => nI ((((K 2).2.2.2.2.2).1) j))))] := hD.sub [12, 13, 14, 0, 1, 2, 3, 4, 5, 6, 7, 8, 9, 10, 11] rfl rfl
    have e9 : sHSet lk sn ac ex tr rj O K P = ((lk, sn, ac, ex, tr, rj), O, K, rAdd 12 P (fr4 2 0 0 0)) := if_pos (by omega)
    exact Co.retv hx hb hret hlk dSt_hearSetup_18 hS hP hD () rfl trivial (by rw [e9]; rfl) (Nat.le_of_ble_eq_true rfl) (Nat.le_of_ble_eq_true rfl)
  · refine lv_aload_n hx hb dSt_hearSetup_8 rfl (lv_at hl 0 rfl) ?_
    refine lv_iconst (v := nI 2) hx hb dSt_hearSetup_9 (by decide) ?_
    refine kV (rV fx (c_St_cleanAs l D ca h ln pe ou cs lk sn ac ex tr rj oua O q0 d0 a0 q1 d1 a1 q2 d2 a2 y fc K hq0 hq1 hq2 2) ⟨callB_of 1 hts (tb_gi tw_219) rfl rfl rfl (ht _ tw_3) (ht _ tw_216) (by decide +kernel) ⟨(Nat.le_of_ble_eq_true rfl), (Nat.le_of_ble_eq_true rfl)⟩, ht _ tw_218, ht _ tw_828⟩ hE hP hD 0 rfl rfl rfl [0, 3, 4, 5, 6, 7, 8, 9, 10, 11, 12, 13, 14] rfl rfl rfl hl.1 rfl (Nat.le_of_ble_eq_true rfl) dSt_hearSetup_10 ⟨(Nat.le_of_ble_eq_true rfl), (Nat.le_of_ble_eq_true rfl)⟩) hP hD hS hA [0, 3, 4, 5, 6, 7, 8, 9, 10, 11, 12, 13, 14] [1, 2] rfl rfl rfl (by decide) (fun _ H locs _ hP hD hS => ?_)
    have hP : va_P D cls_ [(pe, .inr (0, [.ref pea, .int (nI P.2)])), (pea, .inl (ca 0, 12, .inl (fun j => nI (P.1 j)))), (h, .inr (2, [.ref ln, .ref pe, .ref ou, .ref cs, .int (nI 2), .int (nI 0), .int (nI 0), .int (nI 0), .int (nI 0), .int (nI 0)])), (ou, .inr (0, [.ref oua, .int (nI ((rNone O).2))])), (oua, .inl (ca 0, 16, .inl (fun j => nI (((rNone O).1) j)))), (cs, .inl (ca 3, 3, .inr (.inr (.inr (.inr fc))))), (q0, .inr (1, [.int (nI y), .ref d0, .int (nI (((kClean K) 0).1)), .int (nI (((kClean K) 0).2.1)), .int (nI (((kClean K) 0).2.2.1)), .int (nI (((kClean K) 0).2.2.2.1)), .int (nI (((kClean K) 0).2.2.2.2.1))])), (d0, .inr (0, [.ref a0, .int (nI ((((kClean K) 0).2.2.2.2.2).2))])), (a0, .inl (ca 0, 2, .inl (fun j => nI (((((kClean K) 0).2.2.2.2.2).1) j)))), (q1, .inr (1, [.int (nI y), .ref d1, .int (nI (((kClean K) 1).1)), .int (nI (((kClean K) 1).2.1)), .int (nI (((kClean K) 1).2.2.1)), .int (nI (((kClean K) 1).2.2.2.1)), .int (nI (((kClean K) 1).2.2.2.2.1))])), (d1, .inr (0, [.ref a1, .int (nI ((((kClean K) 1).2.2.2.2.2).2))])), (a1, .inl (ca 0, 2, .inl (fun j => nI (((((kClean K) 1).2.2.2.2.2).1) j)))), (q2, .inr (1, [.int (nI y), .ref d2, .int (nI (((kClean K) 2).1)), .int (nI (((kClean K) 2).2.1)), .int (nI (((kClean K) 2).2.2.1)), .int (nI (((kClean K) 2).2.2.2.1)), .int (nI (((kClean K) 2).2.2.2.2.1))])), (d2, .inr (0, [.ref a2, .int (nI ((((kClean K) 2).2.2.2.2.2).2))])), (a2, .inl (ca 0, 2, .inl (fun j => nI (((((kClean K) 2).2.2.2.2.2).1) j))))] H := hP
    have hD : va_D A [(pe, .inr (0, [.ref pea, .int (nI P.2)])), (pea, .inl (ca 0, 12, .inl (fun j => nI (P.1 j)))), (h, .inr (2, [.ref ln, .ref pe, .ref ou, .ref cs, .int (nI 2), .int (nI 0), .int (nI 0), .int (nI 0), .int (nI 0), .int (nI 0)])), (ou, .inr (0, [.ref oua, .int (nI ((rNone O).2))])), (oua, .inl (ca 0, 16, .inl (fun j => nI (((rNone O).1) j)))), (cs, .inl (ca 3, 3, .inr (.inr (.inr (.inr fc))))), (q0, .inr (1, [.int (nI y), .ref d0, .int (nI (((kClean K) 0).1)), .int (nI (((kClean K) 0).2.1)), .int (nI (((kClean K) 0).2.2.1)), .int (nI (((kClean K) 0).2.2.2.1)), .int (nI (((kClean K) 0).2.2.2.2.1))])), (d0, .inr (0, [.ref a0, .int (nI ((((kClean K) 0).2.2.2.2.2).2))])), (a0, .inl (ca 0, 2, .inl (fun j => nI (((((kClean K) 0).2.2.2.2.2).1) j)))), (q1, .inr (1, [.int (nI y), .ref d1, .int (nI (((kClean K) 1).1)), .int (nI (((kClean K) 1).2.1)), .int (nI (((kClean K) 1).2.2.1)), .int (nI (((kClean K) 1).2.2.2.1)), .int (nI (((kClean K) 1).2.2.2.2.1))])), (d1, .inr (0, [.ref a1, .int (nI ((((kClean K) 1).2.2.2.2.2).2))])), (a1, .inl (ca 0, 2, .inl (fun j => nI (((((kClean K) 1).2.2.2.2.2).1) j)))), (q2, .inr (1, [.int (nI y), .ref d2, .int (nI (((kClean K) 2).1)), .int (nI (((kClean K) 2).2.1)), .int (nI (((kClean K) 2).2.2.1)), .int (nI (((kClean K) 2).2.2.2.1)), .int (nI (((kClean K) 2).2.2.2.2.1))])), (d2, .inr (0, [.ref a2, .int (nI ((((kClean K) 2).2.2.2.2.2).2))])), (a2, .inl (ca 0, 2, .inl (fun j => nI (((((kClean K) 2).2.2.2.2.2).1) j))))] := hD
    refine lv_aload_n hx hb dSt_hearSetup_13 rfl (lv_at hl 0 rfl) ?_
    refine lv_iconst (v := nI 2) hx hb dSt_hearSetup_14 (by decide) ?_
    refine kV (rV fx (c_St_sendUnnumbered l D ca h ln pe ou cs 2 0 0 0 0 0 pea P 2 (by omega) (by first | assumption | exact rAdd_le (by assumption) | exact cPump_le (by assumption) | exact cAgain_le (by assumption) | exact cPump_le (cAgain_le (by assumption)) | omega)) ⟨callB_of 1 hts (tb_gi tw_227) rfl rfl rfl (ht _ tw_3) (ht _ tw_224) (by decide +kernel) ⟨(Nat.le_of_ble_eq_true rfl), (Nat.le_of_ble_eq_true rfl)⟩, ht _ tw_226, ht _ tw_829⟩ hE hP hD 2 rfl rfl rfl [2, 0, 1] rfl rfl rfl hl.1 rfl (Nat.le_of_ble_eq_true rfl) dSt_hearSetup_15 ⟨(Nat.le_of_ble_eq_true rfl), (Nat.le_of_ble_eq_true rfl)⟩) hP hD hS hA [2, 0, 1] [3, 4, 5, 6, 7, 8, 9, 10, 11, 12, 13, 14] rfl rfl rfl (by decide) (fun _ H locs _ hP hD hS => ?_)
    have hP : va_P D cls_ [(ou, .inr (0, [.ref oua, .int (nI ((rNone O).2))])), (oua, .inl (ca 0, 16, .inl (fun j => nI (((rNone O).1) j)))), (cs, .inl (ca 3, 3, .inr (.inr (.inr (.inr fc))))), (q0, .inr (1, [.int (nI y), .ref d0, .int (nI (((kClean K) 0).1)), .int (nI (((kClean K) 0).2.1)), .int (nI (((kClean K) 0).2.2.1)), .int (nI (((kClean K) 0).2.2.2.1)), .int (nI (((kClean K) 0).2.2.2.2.1))])), (d0, .inr (0, [.ref a0, .int (nI ((((kClean K) 0).2.2.2.2.2).2))])), (a0, .inl (ca 0, 2, .inl (fun j => nI (((((kClean K) 0).2.2.2.2.2).1) j)))), (q1, .inr (1, [.int (nI y), .ref d1, .int (nI (((kClean K) 1).1)), .int (nI (((kClean K) 1).2.1)), .int (nI (((kClean K) 1).2.2.1)), .int (nI (((kClean K) 1).2.2.2.1)), .int (nI (((kClean K) 1).2.2.2.2.1))])), (d1, .inr (0, [.ref a1, .int (nI ((((kClean K) 1).2.2.2.2.2).2))])), (a1, .inl (ca 0, 2, .inl (fun j => nI (((((kClean K) 1).2.2.2.2.2).1) j)))), (q2, .inr (1, [.int (nI y), .ref d2, .int (nI (((kClean K) 2).1)), .int (nI (((kClean K) 2).2.1)), .int (nI (((kClean K) 2).2.2.1)), .int (nI (((kClean K) 2).2.2.2.1)), .int (nI (((kClean K) 2).2.2.2.2.1))])), (d2, .inr (0, [.ref a2, .int (nI ((((kClean K) 2).2.2.2.2.2).2))])), (a2, .inl (ca 0, 2, .inl (fun j => nI (((((kClean K) 2).2.2.2.2.2).1) j)))), (h, .inr (2, [.ref ln, .ref pe, .ref ou, .ref cs, .int (nI 2), .int (nI 0), .int (nI 0), .int (nI 0), .int (nI 0), .int (nI 0)])), (pe, .inr (0, [.ref pea, .int (nI ((rAdd 12 P (fr4 2 0 0 0)).2))])), (pea, .inl (ca 0, 12, .inl (fun j => nI (((rAdd 12 P (fr4 2 0 0 0)).1) j))))] H := hP
    have hD : va_D A [(ou, .inr (0, [.ref oua, .int (nI ((rNone O).2))])), (oua, .inl (ca 0, 16, .inl (fun j => nI (((rNone O).1) j)))), (cs, .inl (ca 3, 3, .inr (.inr (.inr (.inr fc))))), (q0, .inr (1, [.int (nI y), .ref d0, .int (nI (((kClean K) 0).1)), .int (nI (((kClean K) 0).2.1)), .int (nI (((kClean K) 0).2.2.1)), .int (nI (((kClean K) 0).2.2.2.1)), .int (nI (((kClean K) 0).2.2.2.2.1))])), (d0, .inr (0, [.ref a0, .int (nI ((((kClean K) 0).2.2.2.2.2).2))])), (a0, .inl (ca 0, 2, .inl (fun j => nI (((((kClean K) 0).2.2.2.2.2).1) j)))), (q1, .inr (1, [.int (nI y), .ref d1, .int (nI (((kClean K) 1).1)), .int (nI (((kClean K) 1).2.1)), .int (nI (((kClean K) 1).2.2.1)), .int (nI (((kClean K) 1).2.2.2.1)), .int (nI (((kClean K) 1).2.2.2.2.1))])), (d1, .inr (0, [.ref a1, .int (nI ((((kClean K) 1).2.2.2.2.2).2))])), (a1, .inl (ca 0, 2, .inl (fun j => nI (((((kClean K) 1).2.2.2.2.2).1) j)))), (q2, .inr (1, [.int (nI y), .ref d2, .int (nI (((kClean K) 2).1)), .int (nI (((kClean K) 2).2.1)), .int (nI (((kClean K) 2).2.2.1)), .int (nI (((kClean K) 2).2.2.2.1)), .int (nI (((kClean K) 2).2.2.2.2.1))])), (d2, .inr (0, [.ref a2, .int (nI ((((kClean K) 2).2.2.2.2.2).2))])), (a2, .inl (ca 0, 2, .inl (fun j => nI (((((kClean K) 2).2.2.2.2.2).1) j)))), (h, .inr (2, [.ref ln, .ref pe, .ref ou, .ref cs, .int (nI 2), .int (nI 0), .int (nI 0), .int (nI 0), .int (nI 0), .int (nI 0)])), (pe, .inr (0, [.ref pea, .int (nI ((rAdd 12 P (fr4 2 0 0 0)).2))])), (pea, .inl (ca 0, 12, .inl (fun j => nI (((rAdd 12 P (fr4 2 0 0 0)).1) j))))] := hD
    have hP : va_P D cls_ [(h, .inr (2, [.ref ln, .ref pe, .ref ou, .ref cs, .int (nI 2), .int (nI 0), .int (nI 0), .int (nI 0), .int (nI 0), .int (nI 0)])), (pe, .inr (0, [.ref pea, .int (nI ((rAdd 12 P (fr4 2 0 0 0)).2))])), (pea, .inl (ca 0, 12, .inl (fun j => nI (((rAdd 12 P (fr4 2 0 0 0)).1) j)))), (ou, .inr (0, [.ref oua, .int (nI ((rNone O).2))])), (oua, .inl (ca 0, 16, .inl (fun j => nI (((rNone O).1) j)))), (cs, .inl (ca 3, 3, .inr (.inr (.inr (.inr fc))))), (q0, .inr (1, [.int (nI y), .ref d0, .int (nI (((kClean K) 0).1)), .int (nI (((kClean K) 0).2.1)), .int (nI (((kClean K) 0).2.2.1)), .int (nI (((kClean K) 0).2.2.2.1)), .int (nI (((kClean K) 0).2.2.2.2.1))])), (d0, .inr (0, [.ref a0, .int (nI ((((kClean K) 0).2.2.2.2.2).2))])), (a0, .inl (ca 0, 2, .inl (fun j => nI (((((kClean K) 0).2.2.2.2.2).1) j)))), (q1, .inr (1, [.int (nI y), .ref d1, .int (nI (((kClean K) 1).1)), .int (nI (((kClean K) 1).2.1)), .int (nI (((kClean K) 1).2.2.1)), .int (nI (((kClean K) 1).2.2.2.1)), .int (nI (((kClean K) 1).2.2.2.2.1))])), (d1, .inr (0, [.ref a1, .int (nI ((((kClean K) 1).2.2.2.2.2).2))])), (a1, .inl (ca 0, 2, .inl (fun j => nI (((((kClean K) 1).2.2.2.2.2).1) j)))), (q2, .inr (1, [.int (nI y), .ref d2, .int (nI (((kClean K) 2).1)), .int (nI (((kClean K) 2).2.1)), .int (nI (((kClean K) 2).2.2.1)), .int (nI (((kClean K) 2).2.2.2.1)), .int (nI (((kClean K) 2).2.2.2.2.1))])), (d2, .inr (0, [.ref a2, .int (nI ((((kClean K) 2).2.2.2.2.2).2))])), (a2, .inl (ca 0, 2, .inl (fun j => nI (((((kClean K) 2).2.2.2.2.2).1) j))))] H := hP.sub [12, 13, 14, 0, 1, 2, 3, 4, 5, 6, 7, 8, 9, 10, 11] rfl
    have hD : va_D A [(h, .inr (2, [.ref ln, .ref pe, .ref ou, .ref cs, .int (nI 2), .int (nI 0), .int (nI 0), .int (nI 0), .int (nI 0), .int (nI 0)])), (pe, .inr (0, [.ref pea, .int (nI ((rAdd 12 P (fr4 2 0 0 0)).2))])), (pea, .inl (ca 0, 12, .inl (fun j => nI (((rAdd 12 P (fr4 2 0 0 0)).1) j)))), (ou, .inr (0, [.ref oua, .int (nI ((rNone O).2))])), (oua, .inl (ca 0, 16, .inl (fun j => nI (((rNone O).1) j)))), (cs, .inl (ca 3, 3, .inr (.inr (.inr (.inr fc))))), (q0, .inr (1, [.int (nI y), .ref d0, .int (nI (((kClean K) 0).1)), .int (nI (((kClean K) 0).2.1)), .int (nI (((kClean K) 0).2.2.1)), .int (nI (((kClean K) 0).2.2.2.1)), .int (nI (((kClean K) 0).2.2.2.2.1))])), (d0, .inr (0, [.ref a0, .int (nI ((((kClean K) 0).2.2.2.2.2).2))])), (a0, .inl (ca 0, 2, .inl (fun j => nI (((((kClean K) 0).2.2.2.2.2).1) j)))), (q1, .inr (1, [.int (nI y), .ref d1, .int (nI (((kClean K) 1).1)), .int (nI (((kClean K) 1).2.1)), .int (nI (((kClean K) 1).2.2.1)), .int (nI (((kClean K) 1).2.2.2.1)), .int (nI (((kClean K) 1).2.2.2.2.1))])), (d1, .inr (0, [.ref a1, .int (nI ((((kClean K) 1).2.2.2.2.2).2))])), (a1, .inl (ca 0, 2, .inl (fun j => nI (((((kClean K) 1).2.2.2.2.2).1) j)))), (q2, .inr (1, [.int (nI y), .ref d2, .int (nI (((kClean K) 2).1)), .int (nI (((kClean K) 2).2.1)), .int (nI (((kClean K) 2).2.2.1)), .int (nI (((kClean K) 2).2.2.2.1)), .int (nI (((kClean K) 2).2.2.2.2.1))])), (d2, .inr (0, [.ref a2, .int (nI ((((kClean K) 2).2.2.2.2.2).2))])), (a2, .inl (ca 0, 2, .inl (fun j => nI (((((kClean K) 2).2.2.2.2.2).1) j))))] := hD.sub [12, 13, 14, 0, 1, 2, 3, 4, 5, 6, 7, 8, 9, 10, 11] rfl rfl
    have e9 : sHSet lk sn ac ex tr rj O K P = sClean 2 O K (rAdd 12 P (fr4 2 0 0 0)) := if_neg (by omega)
    exact Co.retv hx hb hret hlk dSt_hearSetup_18 hS hP hD () rfl trivial (by rw [e9]; rfl) (Nat.le_of_ble_eq_true rfl) (Nat.le_of_ble_eq_true rfl)
set_option maxHeartbeats 4000000 in
set_option maxRecDepth 100000 in
theorem c_St_hearAgreed (l : Launch) (D : va_G) (ca : Nat → ClassId) (h ln pe ou cs lk sn ac ex tr rj : Nat) (pea oua : Nat) (O P : Rw_) (q0 d0 a0 q1 d1 a1 q2 d2 a2 y : Nat) (fc : Nat → Option Nat) (K : Nat → Cn_) (hq0 : fc 0 = some q0) (hq1 : fc 1 = some q1) (hq2 : fc 2 = some q2) (hlk2 : lk < 3) (hsn : sn < 8) (hac : ac < 8) (hex : ex < 8) (hO : oOk O) (hP1 : P.2 ≤ 12) : Co (S := Unit) l ySt_hearAgreed (Cond.code ySt_hearAgreed cSt_hearAgreed 1 none :: tb_) { frames := 3, cells := 0, slots := 0, locals := 96 } D ca [.ref h] [(h, .inr (2, [.ref ln, .ref pe, .ref ou, .ref cs, .int (nI lk), .int (nI sn), .int (nI ac), .int (nI ex), .int (nI tr), .int (nI rj)])), (pe, .inr (0, [.ref pea, .int (nI P.2)])), (pea, .inl (ca 0, 12, .inl (fun j => nI (P.1 j)))), (ou, .inr (0, [.ref oua, .int (nI O.2)])), (oua, .inl (ca 0, 16, .inl (fun j => nI (O.1 j)))), (cs, .inl (ca 3, 3, .inr (.inr (.inr (.inr fc))))), (q0, .inr (1, [.int (nI y), .ref d0, .int (nI ((K 0).1)), .int (nI ((K 0).2.1)), .int (nI ((K 0).2.2.1)), .int (nI ((K 0).2.2.2.1)), .int (nI ((K 0).2.2.2.2.1))])), (d0, .inr (0, [.ref a0, .int (nI (((K 0).2.2.2.2.2).2))])), (a0, .inl (ca 0, 2, .inl (fun j => nI ((((K 0).2.2.2.2.2).1) j)))), (q1, .inr (1, [.int (nI y), .ref d1, .int (nI ((K 1).1)), .int (nI ((K 1).2.1)), .int (nI ((K 1).2.2.1)), .int (nI ((K 1).2.2.2.1)), .int (nI ((K 1).2.2.2.2.1))])), (d1, .inr (0, [.ref a1, .int (nI (((K 1).2.2.2.2.2).2))])), (a1, .inl (ca 0, 2, .inl (fun j => nI ((((K 1).2.2.2.2.2).1) j)))), (q2, .inr (1, [.int (nI y), .ref d2, .int (nI ((K 2).1)), .int (nI ((K 2).2.1)), .int (nI ((K 2).2.2.1)), .int (nI ((K 2).2.2.2.1)), .int (nI ((K 2).2.2.2.2.1))])), (d2, .inr (0, [.ref a2, .int (nI (((K 2).2.2.2.2.2).2))])), (a2, .inl (ca 0, 2, .inl (fun j => nI ((((K 2).2.2.2.2.2).1) j))))] (fun _ => none) (fun _ => True) (fun _ => [(h, .inr (2, [.ref ln, .ref pe, .ref ou, .ref cs, .int (nI ((sHAgr lk sn ac ex tr rj O K P).1.1)), .int (nI ((sHAgr lk sn ac ex tr rj O K P).1.2.1)), .int (nI ((sHAgr lk sn ac ex tr rj O K P).1.2.2.1)), .int (nI ((sHAgr lk sn ac ex tr rj O K P).1.2.2.2.1)), .int (nI ((sHAgr lk sn ac ex tr rj O K P).1.2.2.2.2.1)), .int (nI ((sHAgr lk sn ac ex tr rj O K P).1.2.2.2.2.2))])), (pe, .inr (0, [.ref pea, .int (nI (((sHAgr lk sn ac ex tr rj O K P).2.2.2).2))])), (pea, .inl (ca 0, 12, .inl (fun j => nI ((((sHAgr lk sn ac ex tr rj O K P).2.2.2).1) j)))), (ou, .inr (0, [.ref oua, .int (nI (((sHAgr lk sn ac ex tr rj O K P).2.1).2))])), (oua, .inl (ca 0, 16, .inl (fun j => nI ((((sHAgr lk sn ac ex tr rj O K P).2.1).1) j)))), (cs, .inl (ca 3, 3, .inr (.inr (.inr (.inr fc))))), (q0, .inr (1, [.int (nI y), .ref d0, .int (nI ((((sHAgr lk sn ac ex tr rj O K P).2.2.1) 0).1)), .int (nI ((((sHAgr lk sn ac ex tr rj O K P).2.2.1) 0).2.1)), .int (nI ((((sHAgr lk sn ac ex tr rj O K P).2.2.1) 0).2.2.1)), .int (nI ((((sHAgr lk sn ac ex tr rj O K P).2.2.1) 0).2.2.2.1)), .int (nI ((((sHAgr lk sn ac ex tr rj O K P).2.2.1) 0).2.2.2.2.1))])), (d0, .inr (0, [.ref a0, .int (nI (((((sHAgr lk sn ac ex tr rj O K P).2.2.1) 0).2.2.2.2.2).2))])), (a0, .inl (ca 0, 2, .inl (fun j => nI ((((((sHAgr lk sn ac ex tr rj O K P).2.2.1) 0).2.2.2.2.2).1) j)))), (q1, .inr (1, [.int (nI y), .ref d1, .int (nI ((((sHAgr lk sn ac ex tr rj O K P).2.2.1) 1).1)), .int (nI ((((sHAgr lk sn ac ex tr rj O K P).2.2.1) 1).2.1)), .int (nI ((((sHAgr lk sn ac ex tr rj O K P).2.2.1) 1).2.2.1)), .int (nI ((((sHAgr lk sn ac ex tr rj O K P).2.2.1) 1).2.2.2.1)), .int (nI ((((sHAgr lk sn ac ex tr rj O K P).2.2.1) 1).2.2.2.2.1))])), (d1, .inr (0, [.ref a1, .int (nI (((((sHAgr lk sn ac ex tr rj O K P).2.2.1) 1).2.2.2.2.2).2))])), (a1, .inl (ca 0, 2, .inl (fun j => nI ((((((sHAgr lk sn ac ex tr rj O K P).2.2.1) 1).2.2.2.2.2).1) j)))), (q2, .inr (1, [.int (nI y), .ref d2, .int (nI ((((sHAgr lk sn ac ex tr rj O K P).2.2.1) 2).1)), .int (nI ((((sHAgr lk sn ac ex tr rj O K P).2.2.1) 2).2.1)), .int (nI ((((sHAgr lk sn ac ex tr rj O K P).2.2.1) 2).2.2.1)), .int (nI ((((sHAgr lk sn ac ex tr rj O K P).2.2.1) 2).2.2.2.1)), .int (nI ((((sHAgr lk sn ac ex tr rj O K P).2.2.1) 2).2.2.2.2.1))])), (d2, .inr (0, [.ref a2, .int (nI (((((sHAgr lk sn ac ex tr rj O K P).2.2.1) 2).2.2.2.2.2).2))])), (a2, .inl (ca 0, 2, .inl (fun j => nI ((((((sHAgr lk sn ac ex tr rj O K P).2.2.1) 2).2.2.2.2.2).1) j))))]) 0 0 := by
  refine Co.of cSt_hearAgreed 1 none (by decide) (Nat.le_of_ble_eq_true rfl) ?_
  intro p e s m args below meth c A ls fx hret hlk hin hE hP hD hS hA hl
  have hx := fx.1
  have hb := fx.2.1
  have hown : s.vm.findClass RSt = some m.cls := fx.2.2.2.1
  have hts := fx.2.2.2.2
  have ht : ∀ w ∈ tb_, w.before args s = true := fun w h => hts w (List.mem_cons_of_mem _ h)
  have hl : lv_has ls 1 [(0, .ref h)] := hl
  refine lv_aload_n hx hb dSt_hearAgreed_0 rfl (lv_at hl 0 rfl) ?_
  refine va_get (D := D) (ci := 2) (v := .int (nI lk)) (C := RSt) (T := TSt) (N := 10) hx hb ht inSt hown hE.1 hP 0 rfl rfl 4 (by decide) (ht _ tw_95) (fun _ h => h) rfl dSt_hearAgreed_1 ?_
  refine lv_iconst (v := nI 1) hx hb dSt_hearAgreed_4 (by decide) ?_
  refine k_icmp_ne (tgt := 16) hx hb (by omega) (by omega) dSt_hearAgreed_5 rfl (fun h5 => ?_) (fun h5 => ?_)
  · refine lv_aload_n hx hb dSt_hearAgreed_16 rfl (lv_at hl 0 rfl) ?_
    refine va_get (D := D) (ci := 2) (v := .int (nI lk)) (C := RSt) (T := TSt) (N := 10) hx hb ht inSt hown hE.1 hP 0 rfl rfl 4 (by decide) (ht _ tw_95) (fun _ h => h) rfl dSt_hearAgreed_17 ?_
    refine lv_iconst (v := nI 2) hx hb dSt_hearAgreed_20 (by decide) ?_
    refine k_icmp_ne (tgt := 28) hx hb (by omega) (by omega) dSt_hearAgreed_21 rfl (fun h21 => ?_) (fun h21 => ?_)
    · have e9 : sHAgr lk sn ac ex tr rj O K P = ((lk, sn, ac, ex, tr, rj), O, K, P) := (if_neg (by omega)).trans (if_neg (by omega))
      exact Co.retv hx hb hret hlk dSt_hearAgreed_28 hS hP hD () rfl trivial (by rw [e9]; rfl) (Nat.le_of_ble_eq_true rfl) (Nat.le_of_ble_eq_true rfl)
    · refine lv_aload_n hx hb dSt_hearAgreed_24 rfl (lv_at hl 0 rfl) ?_
      refine kV (rV fx (c_St_setUp l D ca h ln pe ou cs lk sn ac ex tr rj pea oua O P q0 d0 a0 q1 d1 a1 q2 d2 a2 y fc K hq0 hq1 hq2 (by first | assumption | exact rAdd_le (by assumption) | exact cPump_le (by assumption) | exact cAgain_le (by assumption) | exact cPump_le (cAgain_le (by assumption)) | omega)) ⟨callB_of 0 hts (tb_gi tw_215) rfl rfl rfl (ht _ tw_3) (ht _ tw_278) (by decide +kernel) ⟨(Nat.le_of_ble_eq_true rfl), (Nat.le_of_ble_eq_true rfl)⟩, ht _ tw_213, ht _ tw_214⟩ hE hP hD 0 rfl rfl rfl [0, 1, 2, 3, 4, 5, 6, 7, 8, 9, 10, 11, 12, 13, 14] rfl rfl rfl hl.1 rfl (Nat.le_of_ble_eq_true rfl) dSt_hearAgreed_25 ⟨(Nat.le_of_ble_eq_true rfl), (Nat.le_of_ble_eq_true rfl)⟩) hP hD hS hA [0, 1, 2, 3, 4, 5, 6, 7, 8, 9, 10, 11, 12, 13, 14] [] rfl rfl rfl (by decide) (fun _ H locs _ hP hD hS => ?_)
      have hP : va_P D cls_ [(h, .inr (2, [.ref ln, .ref pe, .ref ou, .ref cs, .int (nI ((sSetUp O K P).1.1)), .int (nI ((sSetUp O K P).1.2.1)), .int (nI ((sSetUp O K P).1.2.2.1)), .int (nI ((sSetUp O K P).1.2.2.2.1)), .int (nI ((sSetUp O K P).1.2.2.2.2.1)), .int (nI ((sSetUp O K P).1.2.2.2.2.2))])), (pe, .inr (0, [.ref pea, .int (nI (((sSetUp O K P).2.2.2).2))])), (pea, .inl (ca 0, 12, .inl (fun j => nI ((((sSetUp O K P).2.2.2).1) j)))), (ou, .inr (0, [.ref oua, .int (nI (((sSetUp O K P).2.1).2))])), (oua, .inl (ca 0, 16, .inl (fun j => nI ((((sSetUp O K P).2.1).1) j)))), (cs, .inl (ca 3, 3, .inr (.inr (.inr (.inr fc))))), (q0, .inr (1, [.int (nI y), .ref d0, .int (nI ((((sSetUp O K P).2.2.1) 0).1)), .int (nI ((((sSetUp O K P).2.2.1) 0).2.1)), .int (nI ((((sSetUp O K P).2.2.1) 0).2.2.1)), .int (nI ((((sSetUp O K P).2.2.1) 0).2.2.2.1)), .int (nI ((((sSetUp O K P).2.2.1) 0).2.2.2.2.1))])), (d0, .inr (0, [.ref a0, .int (nI (((((sSetUp O K P).2.2.1) 0).2.2.2.2.2).2))])), (a0, .inl (ca 0, 2, .inl (fun j => nI ((((((sSetUp O K P).2.2.1) 0).2.2.2.2.2).1) j)))), (q1, .inr (1, [.int (nI y), .ref d1, .int (nI ((((sSetUp O K P).2.2.1) 1).1)), .int (nI ((((sSetUp O K P).2.2.1) 1).2.1)), .int (nI ((((sSetUp O K P).2.2.1) 1).2.2.1)), .int (nI ((((sSetUp O K P).2.2.1) 1).2.2.2.1)), .int (nI ((((sSetUp O K P).2.2.1) 1).2.2.2.2.1))])), (d1, .inr (0, [.ref a1, .int (nI (((((sSetUp O K P).2.2.1) 1).2.2.2.2.2).2))])), (a1, .inl (ca 0, 2, .inl (fun j => nI ((((((sSetUp O K P).2.2.1) 1).2.2.2.2.2).1) j)))), (q2, .inr (1, [.int (nI y), .ref d2, .int (nI ((((sSetUp O K P).2.2.1) 2).1)), .int (nI ((((sSetUp O K P).2.2.1) 2).2.1)), .int (nI ((((sSetUp O K P).2.2.1) 2).2.2.1)), .int (nI ((((sSetUp O K P).2.2.1) 2).2.2.2.1)), .int (nI ((((sSetUp O K P).2.2.1) 2).2.2.2.2.1))])), (d2, .inr (0, [.ref a2, .int (nI (((((sSetUp O K P).2.2.1) 2).2.2.2.2.2).2))])), (a2, .inl (ca 0, 2, .inl (fun j => nI ((((((sSetUp O K P).2.2.1) 2).2.2.2.2.2).1) j))))] H := hP
      have hD : va_D A [(h, .inr (2, [.ref ln, .ref pe, .ref ou, .ref cs, .int (nI ((sSetUp O K P).1.1)), .int (nI ((sSetUp O K P).1.2.1)), .int (nI ((sSetUp O K P).1.2.2.1)), .int (nI ((sSetUp O K P).1.2.2.2.1)), .int (nI ((sSetUp O K P).1.2.2.2.2.1)), .int (nI ((sSetUp O K P).1.2.2.2.2.2))])), (pe, .inr (0, [.ref pea, .int (nI (((sSetUp O K P).2.2.2).2))])), (pea, .inl (ca 0, 12, .inl (fun j => nI ((((sSetUp O K P).2.2.2).1) j)))), (ou, .inr (0, [.ref oua, .int (nI (((sSetUp O K P).2.1).2))])), (oua, .inl (ca 0, 16, .inl (fun j => nI ((((sSetUp O K P).2.1).1) j)))), (cs, .inl (ca 3, 3, .inr (.inr (.inr (.inr fc))))), (q0, .inr (1, [.int (nI y), .ref d0, .int (nI ((((sSetUp O K P).2.2.1) 0).1)), .int (nI ((((sSetUp O K P).2.2.1) 0).2.1)), .int (nI ((((sSetUp O K P).2.2.1) 0).2.2.1)), .int (nI ((((sSetUp O K P).2.2.1) 0).2.2.2.1)), .int (nI ((((sSetUp O K P).2.2.1) 0).2.2.2.2.1))])), (d0, .inr (0, [.ref a0, .int (nI (((((sSetUp O K P).2.2.1) 0).2.2.2.2.2).2))])), (a0, .inl (ca 0, 2, .inl (fun j => nI ((((((sSetUp O K P).2.2.1) 0).2.2.2.2.2).1) j)))), (q1, .inr (1, [.int (nI y), .ref d1, .int (nI ((((sSetUp O K P).2.2.1) 1).1)), .int (nI ((((sSetUp O K P).2.2.1) 1).2.1)), .int (nI ((((sSetUp O K P).2.2.1) 1).2.2.1)), .int (nI ((((sSetUp O K P).2.2.1) 1).2.2.2.1)), .int (nI ((((sSetUp O K P).2.2.1) 1).2.2.2.2.1))])), (d1, .inr (0, [.ref a1, .int (nI (((((sSetUp O K P).2.2.1) 1).2.2.2.2.2).2))])), (a1, .inl (ca 0, 2, .inl (fun j => nI ((((((sSetUp O K P).2.2.1) 1).2.2.2.2.2).1) j)))), (q2, .inr (1, [.int (nI y), .ref d2, .int (nI ((((sSetUp O K P).2.2.1) 2).1)), .int (nI ((((sSetUp O K P).2.2.1) 2).2.1)), .int (nI ((((sSetUp O K P).2.2.1) 2).2.2.1)), .int (nI ((((sSetUp O K P).2.2.1) 2).2.2.2.1)), .int (nI ((((sSetUp O K P).2.2.1) 2).2.2.2.2.1))])), (d2, .inr (0, [.ref a2, .int (nI (((((sSetUp O K P).2.2.1) 2).2.2.2.2.2).2))])), (a2, .inl (ca 0, 2, .inl (fun j => nI ((((((sSetUp O K P).2.2.1) 2).2.2.2.2.2).1) j))))] := hD
      have e9 : sHAgr lk sn ac ex tr rj O K P = sSetUp O K P := (if_neg (by omega)).trans (if_pos (by omega))
      exact Co.retv hx hb hret hlk dSt_hearAgreed_28 hS hP hD () rfl trivial (by rw [e9]; rfl) (Nat.le_of_ble_eq_true rfl) (Nat.le_of_ble_eq_true rfl)
  · refine lv_aload_n hx hb dSt_hearAgreed_8 rfl (lv_at hl 0 rfl) ?_
    refine lv_iconst (v := nI 2) hx hb dSt_hearAgreed_9 (by decide) ?_
    refine kV (rV fx (c_St_cleanAs l D ca h ln pe ou cs lk sn ac ex tr rj oua O q0 d0 a0 q1 d1 a1 q2 d2 a2 y fc K hq0 hq1 hq2 2) ⟨callB_of 1 hts (tb_gi tw_219) rfl rfl rfl (ht _ tw_3) (ht _ tw_216) (by decide +kernel) ⟨(Nat.le_of_ble_eq_true rfl), (Nat.le_of_ble_eq_true rfl)⟩, ht _ tw_218, ht _ tw_828⟩ hE hP hD 0 rfl rfl rfl [0, 3, 4, 5, 6, 7, 8, 9, 10, 11, 12, 13, 14] rfl rfl rfl hl.1 rfl (Nat.le_of_ble_eq_true rfl) dSt_hearAgreed_10 ⟨(Nat.le_of_ble_eq_true rfl), (Nat.le_of_ble_eq_true rfl)⟩) hP hD hS hA [0, 3, 4, 5, 6, 7, 8, 9, 10, 11, 12, 13, 14] [1, 2] rfl rfl rfl (by decide) (fun _ H locs _ hP hD hS => ?_)
    have hP : va_P D cls_ [(pe, .inr (0, [.ref pea, .int (nI P.2)])), (pea, .inl (ca 0, 12, .inl (fun j => nI (P.1 j)))), (h, .inr (2, [.ref ln, .ref pe, .ref ou, .ref cs, .int (nI 2), .int (nI 0), .int (nI 0), .int (nI 0), .int (nI 0), .int (nI 0)])), (ou, .inr (0, [.ref oua, .int (nI ((rNone O).2))])), (oua, .inl (ca 0, 16, .inl (fun j => nI (((rNone O).1) j)))), (cs, .inl (ca 3, 3, .inr (.inr (.inr (.inr fc))))), (q0, .inr (1, [.int (nI y), .ref d0, .int (nI (((kClean K) 0).1)), .int (nI (((kClean K) 0).2.1)), .int (nI (((kClean K) 0).2.2.1)), .int (nI (((kClean K) 0).2.2.2.1)), .int (nI (((kClean K) 0).2.2.2.2.1))])), (d0, .inr (0, [.ref a0, .int (nI ((((kClean K) 0).2.2.2.2.2).2))])), (a0, .inl (ca 0, 2, .inl (fun j => nI (((((kClean K) 0).2.2.2.2.2).1) j)))), (q1, .inr (1, [.int (nI y), .ref d1, .int (nI (((kClean K) 1).1)), .int (nI (((kClean K) 1).2.1)), .int (nI (((kClean K) 1).2.2.1)), .int (nI (((kClean K) 1).2.2.2.1)), .int (nI (((kClean K) 1).2.2.2.2.1))])), (d1, .inr (0, [.ref a1, .int (nI ((((kClean K) 1).2.2.2.2.2).2))])), (a1, .inl (ca 0, 2, .inl (fun j => nI (((((kClean K) 1).2.2.2.2.2).1) j)))), (q2, .inr (1, [.int (nI y), .ref d2, .int (nI (((kClean K) 2).1)), .int (nI (((kClean K) 2).2.1)), .int (nI (((kClean K) 2).2.2.1)), .int (nI (((kClean K) 2).2.2.2.1)), .int (nI (((kClean K) 2).2.2.2.2.1))])), (d2, .inr (0, [.ref a2, .int (nI ((((kClean K) 2).2.2.2.2.2).2))])), (a2, .inl (ca 0, 2, .inl (fun j => nI (((((kClean K) 2).2.2.2.2.2).1) j))))] H := hP
    have hD : va_D A [(pe, .inr (0, [.ref pea, .int (nI P.2)])), (pea, .inl (ca 0, 12, .inl (fun j => nI (P.1 j)))), (h, .inr (2, [.ref ln, .ref pe, .ref ou, .ref cs, .int (nI 2), .int (nI 0), .int (nI 0), .int (nI 0), .int (nI 0), .int (nI 0)])), (ou, .inr (0, [.ref oua, .int (nI ((rNone O).2))])), (oua, .inl (ca 0, 16, .inl (fun j => nI (((rNone O).1) j)))), (cs, .inl (ca 3, 3, .inr (.inr (.inr (.inr fc))))), (q0, .inr (1, [.int (nI y), .ref d0, .int (nI (((kClean K) 0).1)), .int (nI (((kClean K) 0).2.1)), .int (nI (((kClean K) 0).2.2.1)), .int (nI (((kClean K) 0).2.2.2.1)), .int (nI (((kClean K) 0).2.2.2.2.1))])), (d0, .inr (0, [.ref a0, .int (nI ((((kClean K) 0).2.2.2.2.2).2))])), (a0, .inl (ca 0, 2, .inl (fun j => nI (((((kClean K) 0).2.2.2.2.2).1) j)))), (q1, .inr (1, [.int (nI y), .ref d1, .int (nI (((kClean K) 1).1)), .int (nI (((kClean K) 1).2.1)), .int (nI (((kClean K) 1).2.2.1)), .int (nI (((kClean K) 1).2.2.2.1)), .int (nI (((kClean K) 1).2.2.2.2.1))])), (d1, .inr (0, [.ref a1, .int (nI ((((kClean K) 1).2.2.2.2.2).2))])), (a1, .inl (ca 0, 2, .inl (fun j => nI (((((kClean K) 1).2.2.2.2.2).1) j)))), (q2, .inr (1, [.int (nI y), .ref d2, .int (nI (((kClean K) 2).1)), .int (nI (((kClean K) 2).2.1)), .int (nI (((kClean K) 2).2.2.1)), .int (nI (((kClean K) 2).2.2.2.1)), .int (nI (((kClean K) 2).2.2.2.2.1))])), (d2, .inr (0, [.ref a2, .int (nI ((((kClean K) 2).2.2.2.2.2).2))])), (a2, .inl (ca 0, 2, .inl (fun j => nI (((((kClean K) 2).2.2.2.2.2).1) j))))] := hD
    refine lv_goto (tgt := 28) hx hb dSt_hearAgreed_13 rfl ?_
    have hP : va_P D cls_ [(h, .inr (2, [.ref ln, .ref pe, .ref ou, .ref cs, .int (nI 2), .int (nI 0), .int (nI 0), .int (nI 0), .int (nI 0), .int (nI 0)])), (pe, .inr (0, [.ref pea, .int (nI P.2)])), (pea, .inl (ca 0, 12, .inl (fun j => nI (P.1 j)))), (ou, .inr (0, [.ref oua, .int (nI ((rNone O).2))])), (oua, .inl (ca 0, 16, .inl (fun j => nI (((rNone O).1) j)))), (cs, .inl (ca 3, 3, .inr (.inr (.inr (.inr fc))))), (q0, .inr (1, [.int (nI y), .ref d0, .int (nI (((kClean K) 0).1)), .int (nI (((kClean K) 0).2.1)), .int (nI (((kClean K) 0).2.2.1)), .int (nI (((kClean K) 0).2.2.2.1)), .int (nI (((kClean K) 0).2.2.2.2.1))])), (d0, .inr (0, [.ref a0, .int (nI ((((kClean K) 0).2.2.2.2.2).2))])), (a0, .inl (ca 0, 2, .inl (fun j => nI (((((kClean K) 0).2.2.2.2.2).1) j)))), (q1, .inr (1, [.int (nI y), .ref d1, .int (nI (((kClean K) 1).1)), .int (nI (((kClean K) 1).2.1)), .int (nI (((kClean K) 1).2.2.1)), .int (nI (((kClean K) 1).2.2.2.1)), .int (nI (((kClean K) 1).2.2.2.2.1))])), (d1, .inr (0, [.ref a1, .int (nI ((((kClean K) 1).2.2.2.2.2).2))])), (a1, .inl (ca 0, 2, .inl (fun j => nI (((((kClean K) 1).2.2.2.2.2).1) j)))), (q2, .inr (1, [.int (nI y), .ref d2, .int (nI (((kClean K) 2).1)), .int (nI (((kClean K) 2).2.1)), .int (nI (((kClean K) 2).2.2.1)), .int (nI (((kClean K) 2).2.2.2.1)), .int (nI (((kClean K) 2).2.2.2.2.1))])), (d2, .inr (0, [.ref a2, .int (nI ((((kClean K) 2).2.2.2.2.2).2))])), (a2, .inl (ca 0, 2, .inl (fun j => nI (((((kClean K) 2).2.2.2.2.2).1) j))))] H := hP.sub [2, 0, 1, 3, 4, 5, 6, 7, 8, 9, 10, 11, 12, 13, 14] rfl
    have hD : va_D A [(h, .inr (2, [.ref ln, .ref pe, .ref ou, .ref cs, .int (nI 2), .int (nI 0), .int (nI 0), .int (nI 0), .int (nI 0), .int (nI 0)])), (pe, .inr (0, [.ref pea, .int (nI P.2)])), (pea, .inl (ca 0, 12, .inl (fun j => nI (P.1 j)))), (ou, .inr (0, [.ref oua, .int (nI ((rNone O).2))])), (oua, .inl (ca 0, 16, .inl (fun j => nI (((rNone O).1) j)))), (cs, .inl (ca 3, 3, .inr (.inr (.inr (.inr fc))))), (q0, .inr (1, [.int (nI y), .ref d0, .int (nI (((kClean K) 0).1)), .int (nI (((kClean K) 0).2.1)), .int (nI (((kClean K) 0).2.2.1)), .int (nI (((kClean K) 0).2.2.2.1)), .int (nI (((kClean K) 0).2.2.2.2.1))])), (d0, .inr (0, [.ref a0, .int (nI ((((kClean K) 0).2.2.2.2.2).2))])), (a0, .inl (ca 0, 2, .inl (fun j => nI (((((kClean K) 0).2.2.2.2.2).1) j)))), (q1, .inr (1, [.int (nI y), .ref d1, .int (nI (((kClean K) 1).1)), .int (nI (((kClean K) 1).2.1)), .int (nI (((kClean K) 1).2.2.1)), .int (nI (((kClean K) 1).2.2.2.1)), .int (nI (((kClean K) 1).2.2.2.2.1))])), (d1, .inr (0, [.ref a1, .int (nI ((((kClean K) 1).2.2.2.2.2).2))])), (a1, .inl (ca 0, 2, .inl (fun j => nI (((((kClean K) 1).2.2.2.2.2).1) j)))), (q2, .inr (1, [.int (nI y), .ref d2, .int (nI (((kClean K) 2).1)), .int (nI (((kClean K) 2).2.1)), .int (nI (((kClean K) 2).2.2.1)), .int (nI (((kClean K) 2).2.2.2.1)), .int (nI (((kClean K) 2).2.2.2.2.1))])), (d2, .inr (0, [.ref a2, .int (nI ((((kClean K) 2).2.2.2.2.2).2))])), (a2, .inl (ca 0, 2, .inl (fun j => nI (((((kClean K) 2).2.2.2.2.2).1) j))))] := hD.sub [2, 0, 1, 3, 4, 5, 6, 7, 8, 9, 10, 11, 12, 13, 14] rfl rfl
    have e9 : sHAgr lk sn ac ex tr rj O K P = sClean 2 O K P := if_pos (by omega)
    exact Co.retv hx hb hret hlk dSt_hearAgreed_28 hS hP hD () rfl trivial (by rw [e9]; rfl) (Nat.le_of_ble_eq_true rfl) (Nat.le_of_ble_eq_true rfl)
set_option maxHeartbeats 4000000 in
set_option maxRecDepth 100000 in
theorem c_St_hearPacket (l : Launch) (D : va_G) (ca : Nat → ClassId) (h ln pe ou cs lk sn ac ex tr rj : Nat) (pea oua : Nat) (O P : Rw_) (fc : Nat → Option Nat) (q d da y st nx pa du ta : Nat) (r : Rw_) (pk : Nat) (hlk2 : lk < 3) (hsn : sn < 8) (hac : ac < 8) (hex : ex < 8) (hO : oOk O) (hP1 : P.2 ≤ 12) (hpk : pk < 2097152) (hcn : pChan pk < 3) (hq : fc (pChan pk) = some q) (hy : y < 2) (hst : st < 6) (hnx : nx < 8) (hpa : pa < 8) (hdu : du < 8) (hta : ta < 8) (hr : r.2 ≤ 2) (rk st' nx' pa' du' ta' : Nat) (r' : Rw_) (hres : cAns y st nx pa du ta r pk = (rk, st', nx', pa', du', ta', r')) (sn' : Nat) (O' P' : Rw_) (hres2 : sHear lk sn ac ex O P rk (pChan pk) = (sn', O', P')) : Co (S := Unit) l ySt_hearPacket (Cond.code ySt_hearPacket cSt_hearPacket 4 none :: tb_) { frames := 3, cells := 0, slots := 0, locals := 96 } D ca [.ref h, .int (nI pk)] [(h, .inr (2, [.ref ln, .ref pe, .ref ou, .ref cs, .int (nI lk), .int (nI sn), .int (nI ac), .int (nI ex), .int (nI tr), .int (nI rj)])), (pe, .inr (0, [.ref pea, .int (nI P.2)])), (pea, .inl (ca 0, 12, .inl (fun j => nI (P.1 j)))), (ou, .inr (0, [.ref oua, .int (nI O.2)])), (oua, .inl (ca 0, 16, .inl (fun j => nI (O.1 j)))), (cs, .inl (ca 3, 3, .inr (.inr (.inr (.inr fc))))), (q, .inr (1, [.int (nI y), .ref d, .int (nI st), .int (nI nx), .int (nI pa), .int (nI du), .int (nI ta)])), (d, .inr (0, [.ref da, .int (nI r.2)])), (da, .inl (ca 0, 2, .inl (fun j => nI (r.1 j))))] (fun _ => none) (fun _ => True) (fun _ => [(h, .inr (2, [.ref ln, .ref pe, .ref ou, .ref cs, .int (nI lk), .int (nI sn'), .int (nI ac), .int (nI ex), .int (nI tr), .int (nI rj)])), (pe, .inr (0, [.ref pea, .int (nI P'.2)])), (pea, .inl (ca 0, 12, .inl (fun j => nI (P'.1 j)))), (ou, .inr (0, [.ref oua, .int (nI O'.2)])), (oua, .inl (ca 0, 16, .inl (fun j => nI (O'.1 j)))), (cs, .inl (ca 3, 3, .inr (.inr (.inr (.inr fc))))), (q, .inr (1, [.int (nI y), .ref d, .int (nI st'), .int (nI nx'), .int (nI pa'), .int (nI du'), .int (nI ta')])), (d, .inr (0, [.ref da, .int (nI r'.2)])), (da, .inl (ca 0, 2, .inl (fun j => nI (r'.1 j))))]) 0 0 := by
  refine Co.of cSt_hearPacket 4 none (by decide) (Nat.le_of_ble_eq_true rfl) ?_
  intro p e s m args below meth c A ls fx hret hlk hin hE hP hD hS hA hl
  have hx := fx.1
  have hb := fx.2.1
  have hown : s.vm.findClass RSt = some m.cls := fx.2.2.2.1
  have hts := fx.2.2.2.2
  have ht : ∀ w ∈ tb_, w.before args s = true := fun w h => hts w (List.mem_cons_of_mem _ h)
  have hrk : rk < 16 := by have h9 := cAns_rk y st nx pa du ta r pk; rw [hres] at h9; exact h9
  have e3 : (if pChan pk < 3 then 1 else 0) = 1 := if_pos hcn
  have hl : lv_has ls 4 [(0, .ref h), (1, .int (nI pk))] := hl
  refine lv_iload_n hx hb dSt_hearPacket_0 rfl (lv_at hl 1 rfl) ?_
  refine kI (rSN fx (c_Pk_channelOf l D ca pk (by omega)) ⟨va_cnB 1 hts (tb_gi tw_379) rfl rfl rfl (hE.nest tw_377 rfl) (ht _ tw_14) (by decide +kernel) ⟨(Nat.le_of_ble_eq_true rfl), (Nat.le_of_ble_eq_true rfl)⟩, ht _ tw_378, trivial⟩ hE hP hD [] rfl rfl rfl hl.1 rfl (Nat.le_of_ble_eq_true rfl) dSt_hearPacket_1 ⟨(Nat.le_of_ble_eq_true rfl), (Nat.le_of_ble_eq_true rfl)⟩) hP hD hS hA [] [0, 1, 2, 3, 4, 5, 6, 7, 8] rfl rfl rfl (by decide) (fun _ H locs _ hP hD hS => ?_)
  have hP : va_P D cls_ [(h, .inr (2, [.ref ln, .ref pe, .ref ou, .ref cs, .int (nI lk), .int (nI sn), .int (nI ac), .int (nI ex), .int (nI tr), .int (nI rj)])), (pe, .inr (0, [.ref pea, .int (nI P.2)])), (pea, .inl (ca 0, 12, .inl (fun j => nI (P.1 j)))), (ou, .inr (0, [.ref oua, .int (nI O.2)])), (oua, .inl (ca 0, 16, .inl (fun j => nI (O.1 j)))), (cs, .inl (ca 3, 3, .inr (.inr (.inr (.inr fc))))), (q, .inr (1, [.int (nI y), .ref d, .int (nI st), .int (nI nx), .int (nI pa), .int (nI du), .int (nI ta)])), (d, .inr (0, [.ref da, .int (nI r.2)])), (da, .inl (ca 0, 2, .inl (fun j => nI (r.1 j))))] H := hP
  have hD : va_D A [(h, .inr (2, [.ref ln, .ref pe, .ref ou, .ref cs, .int (nI lk), .int (nI sn), .int (nI ac), .int (nI ex), .int (nI tr), .int (nI rj)])), (pe, .inr (0, [.ref pea, .int (nI P.2)])), (pea, .inl (ca 0, 12, .inl (fun j => nI (P.1 j)))), (ou, .inr (0, [.ref oua, .int (nI O.2)])), (oua, .inl (ca 0, 16, .inl (fun j => nI (O.1 j)))), (cs, .inl (ca 3, 3, .inr (.inr (.inr (.inr fc))))), (q, .inr (1, [.int (nI y), .ref d, .int (nI st), .int (nI nx), .int (nI pa), .int (nI du), .int (nI ta)])), (d, .inr (0, [.ref da, .int (nI r.2)])), (da, .inl (ca 0, 2, .inl (fun j => nI (r.1 j))))] := hD
  refine lv_istore_n hx hb dSt_hearPacket_4 rfl hl (by decide) rfl (fun ls hl => ?_)
  have hl : lv_has ls 4 [(2, .int (nI (pChan pk))), (0, .ref h), (1, .int (nI pk))] := hl
  refine lv_iload_n hx hb dSt_hearPacket_5 rfl (lv_at hl 0 rfl) ?_
  refine kI (rSN fx (c_Cl_isChannel l D ca (pChan pk) (by omega)) ⟨va_cnB 1 hts (tb_gi tw_382) rfl rfl rfl (hE.nest tw_380 rfl) (ht _ tw_1) (by decide +kernel) ⟨(Nat.le_of_ble_eq_true rfl), (Nat.le_of_ble_eq_true rfl)⟩, ht _ tw_381, trivial⟩ hE hP hD [] rfl rfl rfl hl.1 rfl (Nat.le_of_ble_eq_true rfl) dSt_hearPacket_6 ⟨(Nat.le_of_ble_eq_true rfl), (Nat.le_of_ble_eq_true rfl)⟩) hP hD hS hA [] [0, 1, 2, 3, 4, 5, 6, 7, 8] rfl rfl rfl (by decide) (fun _ H locs _ hP hD hS => ?_)
  have hP : va_P D cls_ [(h, .inr (2, [.ref ln, .ref pe, .ref ou, .ref cs, .int (nI lk), .int (nI sn), .int (nI ac), .int (nI ex), .int (nI tr), .int (nI rj)])), (pe, .inr (0, [.ref pea, .int (nI P.2)])), (pea, .inl (ca 0, 12, .inl (fun j => nI (P.1 j)))), (ou, .inr (0, [.ref oua, .int (nI O.2)])), (oua, .inl (ca 0, 16, .inl (fun j => nI (O.1 j)))), (cs, .inl (ca 3, 3, .inr (.inr (.inr (.inr fc))))), (q, .inr (1, [.int (nI y), .ref d, .int (nI st), .int (nI nx), .int (nI pa), .int (nI du), .int (nI ta)])), (d, .inr (0, [.ref da, .int (nI r.2)])), (da, .inl (ca 0, 2, .inl (fun j => nI (r.1 j))))] H := hP
  have hD : va_D A [(h, .inr (2, [.ref ln, .ref pe, .ref ou, .ref cs, .int (nI lk), .int (nI sn), .int (nI ac), .int (nI ex), .int (nI tr), .int (nI rj)])), (pe, .inr (0, [.ref pea, .int (nI P.2)])), (pea, .inl (ca 0, 12, .inl (fun j => nI (P.1 j)))), (ou, .inr (0, [.ref oua, .int (nI O.2)])), (oua, .inl (ca 0, 16, .inl (fun j => nI (O.1 j)))), (cs, .inl (ca 3, 3, .inr (.inr (.inr (.inr fc))))), (q, .inr (1, [.int (nI y), .ref d, .int (nI st), .int (nI nx), .int (nI pa), .int (nI du), .int (nI ta)])), (d, .inr (0, [.ref da, .int (nI r.2)])), (da, .inl (ca 0, 2, .inl (fun j => nI (r.1 j))))] := hD
  refine k_if_ne (tgt := 13) hx hb (by omega) dSt_hearPacket_9 rfl (fun h9 => ?_) (fun hz => absurd hz (by omega))
  refine lv_aload_n hx hb dSt_hearPacket_13 rfl (lv_at hl 1 rfl) ?_
  refine va_get (D := D) (ci := 2) (v := .ref cs) (C := RSt) (T := TSt) (N := 10) hx hb ht inSt hown hE.1 hP 0 rfl rfl 3 (by decide) (ht _ tw_93) (fun _ h => h) rfl dSt_hearPacket_14 ?_
  refine lv_iload_n hx hb dSt_hearPacket_17 rfl (lv_at hl 0 rfl) ?_
  refine k_aald hx hb hE.1 hP 5 3 (n := 3) (f := fc) rfl rfl (i := (pChan pk)) (by omega) (by omega) (q := q) hq dSt_hearPacket_18 ?_
  refine lv_iload_n hx hb dSt_hearPacket_19 rfl (lv_at hl 2 rfl) ?_
  refine kI (rV fx (c_Ch_answerTo l D ca q d da y st nx pa du ta r pk (by omega) (by omega) (by omega) (by omega) (by omega) (by omega) (by omega) (by omega) _ _ _ _ _ _ _ hres) ⟨callB_of 1 hts (tb_gi tw_386) rfl rfl rfl (ht _ tw_4) (ht _ tw_383) (by decide +kernel) ⟨(Nat.le_of_ble_eq_true rfl), (Nat.le_of_ble_eq_true rfl)⟩, ht _ tw_384, ht _ tw_385⟩ hE hP hD 6 rfl rfl rfl [6, 7, 8] rfl rfl rfl hl.1 rfl (Nat.le_of_ble_eq_true rfl) dSt_hearPacket_20 ⟨(Nat.le_of_ble_eq_true rfl), (Nat.le_of_ble_eq_true rfl)⟩) hP hD hS hA [6, 7, 8] [0, 1, 2, 3, 4, 5] rfl rfl rfl (by decide) (fun _ H locs _ hP hD hS => ?_)
  have hP : va_P D cls_ [(h, .inr (2, [.ref ln, .ref pe, .ref ou, .ref cs, .int (nI lk), .int (nI sn), .int (nI ac), .int (nI ex), .int (nI tr), .int (nI rj)])), (pe, .inr (0, [.ref pea, .int (nI P.2)])), (pea, .inl (ca 0, 12, .inl (fun j => nI (P.1 j)))), (ou, .inr (0, [.ref oua, .int (nI O.2)])), (oua, .inl (ca 0, 16, .inl (fun j => nI (O.1 j)))), (cs, .inl (ca 3, 3, .inr (.inr (.inr (.inr fc))))), (q, .inr (1, [.int (nI y), .ref d, .int (nI st'), .int (nI nx'), .int (nI pa'), .int (nI du'), .int (nI ta')])), (d, .inr (0, [.ref da, .int (nI r'.2)])), (da, .inl (ca 0, 2, .inl (fun j => nI (r'.1 j))))] H := hP
  have hD : va_D A [(h, .inr (2, [.ref ln, .ref pe, .ref ou, .ref cs, .int (nI lk), .int (nI sn), .int (nI ac), .int (nI ex), .int (nI tr), .int (nI rj)])), (pe, .inr (0, [.ref pea, .int (nI P.2)])), (pea, .inl (ca 0, 12, .inl (fun j => nI (P.1 j)))), (ou, .inr (0, [.ref oua, .int (nI O.2)])), (oua, .inl (ca 0, 16, .inl (fun j => nI (O.1 j)))), (cs, .inl (ca 3, 3, .inr (.inr (.inr (.inr fc))))), (q, .inr (1, [.int (nI y), .ref d, .int (nI st'), .int (nI nx'), .int (nI pa'), .int (nI du'), .int (nI ta')])), (d, .inr (0, [.ref da, .int (nI r'.2)])), (da, .inl (ca 0, 2, .inl (fun j => nI (r'.1 j))))] := hD
  refine lv_istore_n hx hb dSt_hearPacket_23 rfl hl (by decide) rfl (fun ls hl => ?_)
  have hl : lv_has ls 4 [(3, .int (nI rk)), (2, .int (nI (pChan pk))), (0, .ref h), (1, .int (nI pk))] := hl
  refine lv_iload_n hx hb dSt_hearPacket_24 rfl (lv_at hl 0 rfl) ?_
  refine k_if_eq (tgt := 37) hx hb (by omega) dSt_hearPacket_25 rfl (fun h25 => ?_) (fun h25 => ?_)
  · rw [sHear, if_pos (by omega)] at hres2
    simp only [sSend, Prod.mk.injEq] at hres2
    obtain ⟨rfl, rfl, rfl⟩ := hres2
    exact Co.retv hx hb hret hlk dSt_hearPacket_37 hS hP hD () rfl trivial rfl (Nat.le_of_ble_eq_true rfl) (Nat.le_of_ble_eq_true rfl)
  · refine lv_aload_n hx hb dSt_hearPacket_28 rfl (lv_at hl 2 rfl) ?_
    refine lv_iload_n hx hb dSt_hearPacket_29 rfl (lv_at hl 0 rfl) ?_
    refine lv_iload_n hx hb dSt_hearPacket_30 rfl (lv_at hl 1 rfl) ?_
    refine kI (rSN fx (c_Pk_bare l D ca rk (pChan pk) (by omega) (by omega)) ⟨va_cnB 2 hts (tb_gi tw_425) rfl rfl rfl (hE.nest tw_423 rfl) (ht _ tw_14) (by decide +kernel) ⟨(Nat.le_of_ble_eq_true rfl), (Nat.le_of_ble_eq_true rfl)⟩, ht _ tw_424, trivial⟩ hE hP hD [] rfl rfl rfl hl.1 rfl (Nat.le_of_ble_eq_true rfl) dSt_hearPacket_31 ⟨(Nat.le_of_ble_eq_true rfl), (Nat.le_of_ble_eq_true rfl)⟩) hP hD hS hA [] [0, 1, 2, 3, 4, 5, 6, 7, 8] rfl rfl rfl (by decide) (fun _ H locs _ hP hD hS => ?_)
    have hP : va_P D cls_ [(h, .inr (2, [.ref ln, .ref pe, .ref ou, .ref cs, .int (nI lk), .int (nI sn), .int (nI ac), .int (nI ex), .int (nI tr), .int (nI rj)])), (pe, .inr (0, [.ref pea, .int (nI P.2)])), (pea, .inl (ca 0, 12, .inl (fun j => nI (P.1 j)))), (ou, .inr (0, [.ref oua, .int (nI O.2)])), (oua, .inl (ca 0, 16, .inl (fun j => nI (O.1 j)))), (cs, .inl (ca 3, 3, .inr (.inr (.inr (.inr fc))))), (q, .inr (1, [.int (nI y), .ref d, .int (nI st'), .int (nI nx'), .int (nI pa'), .int (nI du'), .int (nI ta')])), (d, .inr (0, [.ref da, .int (nI r'.2)])), (da, .inl (ca 0, 2, .inl (fun j => nI (r'.1 j))))] H := hP
    have hD : va_D A [(h, .inr (2, [.ref ln, .ref pe, .ref ou, .ref cs, .int (nI lk), .int (nI sn), .int (nI ac), .int (nI ex), .int (nI tr), .int (nI rj)])), (pe, .inr (0, [.ref pea, .int (nI P.2)])), (pea, .inl (ca 0, 12, .inl (fun j => nI (P.1 j)))), (ou, .inr (0, [.ref oua, .int (nI O.2)])), (oua, .inl (ca 0, 16, .inl (fun j => nI (O.1 j)))), (cs, .inl (ca 3, 3, .inr (.inr (.inr (.inr fc))))), (q, .inr (1, [.int (nI y), .ref d, .int (nI st'), .int (nI nx'), .int (nI pa'), .int (nI du'), .int (nI ta')])), (d, .inr (0, [.ref da, .int (nI r'.2)])), (da, .inl (ca 0, 2, .inl (fun j => nI (r'.1 j))))] := hD
    refine kV (rV fx (c_St_sendPacket l D ca h ln pe ou cs lk sn ac ex tr rj pea oua O P (pk5 rk (pChan pk) 0 0 0) (by omega) (by omega) (by omega) (by omega) (by first | assumption | exact oOk.add (by assumption) (by first | omega | exact pk5_lt (by omega) (by omega) (by omega) (by omega) (by omega))) (by first | assumption | exact rAdd_le (by assumption) | exact cPump_le (by assumption) | exact cAgain_le (by assumption) | exact cPump_le (cAgain_le (by assumption)) | omega) (by first | omega | exact pk5_lt (by omega) (by omega) (by omega) (by omega) (by omega))) ⟨callB_of 1 hts (tb_gi tw_432) rfl rfl rfl (ht _ tw_3) (ht _ tw_429) (by decide +kernel) ⟨(Nat.le_of_ble_eq_true rfl), (Nat.le_of_ble_eq_true rfl)⟩, ht _ tw_430, ht _ tw_431⟩ hE hP hD 0 rfl rfl rfl [0, 1, 2, 3, 4] rfl rfl rfl hl.1 rfl (Nat.le_of_ble_eq_true rfl) dSt_hearPacket_34 ⟨(Nat.le_of_ble_eq_true rfl), (Nat.le_of_ble_eq_true rfl)⟩) hP hD hS hA [0, 1, 2, 3, 4] [5, 6, 7, 8] rfl rfl rfl (by decide) (fun _ H locs _ hP hD hS => ?_)
    have hP : va_P D cls_ [(cs, .inl (ca 3, 3, .inr (.inr (.inr (.inr fc))))), (q, .inr (1, [.int (nI y), .ref d, .int (nI st'), .int (nI nx'), .int (nI pa'), .int (nI du'), .int (nI ta')])), (d, .inr (0, [.ref da, .int (nI r'.2)])), (da, .inl (ca 0, 2, .inl (fun j => nI (r'.1 j)))), (h, .inr (2, [.ref ln, .ref pe, .ref ou, .ref cs, .int (nI lk), .int (nI ((sSend lk sn ac ex O P (pk5 rk (pChan pk) 0 0 0)).1)), .int (nI ac), .int (nI ex), .int (nI tr), .int (nI rj)])), (pe, .inr (0, [.ref pea, .int (nI (((sSend lk sn ac ex O P (pk5 rk (pChan pk) 0 0 0)).2.2).2))])), (pea, .inl (ca 0, 12, .inl (fun j => nI ((((sSend lk sn ac ex O P (pk5 rk (pChan pk) 0 0 0)).2.2).1) j)))), (ou, .inr (0, [.ref oua, .int (nI (((sSend lk sn ac ex O P (pk5 rk (pChan pk) 0 0 0)).2.1).2))])), (oua, .inl (ca 0, 16, .inl (fun j => nI ((((sSend lk sn ac ex O P (pk5 rk (pChan pk) 0 0 0)).2.1).1) j))))] H := hP
    have hD : va_D A [(cs, .inl (ca 3, 3, .inr (.inr (.inr (.inr fc))))), (q, .inr (1, [.int (nI y), .ref d, .int (nI st'), .int (nI nx'), .int (nI pa'), .int (nI du'), .int (nI ta')])), (d, .inr (0, [.ref da, .int (nI r'.2)])), (da, .inl (ca 0, 2, .inl (fun j => nI (r'.1 j)))), (h, .inr (2, [.ref ln, .ref pe, .ref ou, .ref cs, .int (nI lk), .int (nI ((sSend lk sn ac ex O P (pk5 rk (pChan pk) 0 0 0)).1)), .int (nI ac), .int (nI ex), .int (nI tr), .int (nI rj)])), (pe, .inr (0, [.ref pea, .int (nI (((sSend lk sn ac ex O P (pk5 rk (pChan pk) 0 0 0)).2.2).2))])), (pea, .inl (ca 0, 12, .inl (fun j => nI ((((sSend lk sn ac ex O P (pk5 rk (pChan pk) 0 0 0)).2.2).1) j)))), (ou, .inr (0, [.ref oua, .int (nI (((sSend lk sn ac ex O P (pk5 rk (pChan pk) 0 0 0)).2.1).2))])), (oua, .inl (ca 0, 16, .inl (fun j => nI ((((sSend lk sn ac ex O P (pk5 rk (pChan pk) 0 0 0)).2.1).1) j))))] := hD
    have hP : va_P D cls_ [(h, .inr (2, [.ref ln, .ref pe, .ref ou, .ref cs, .int (nI lk), .int (nI ((sSend lk sn ac ex O P (pk5 rk (pChan pk) 0 0 0)).1)), .int (nI ac), .int (nI ex), .int (nI tr), .int (nI rj)])), (pe, .inr (0, [.ref pea, .int (nI (((sSend lk sn ac ex O P (pk5 rk (pChan pk) 0 0 0)).2.2).2))])), (pea, .inl (ca 0, 12, .inl (fun j => nI ((((sSend lk sn ac ex O P (pk5 rk (pChan pk) 0 0 0)).2.2).1) j)))), (ou, .inr (0, [.ref oua, .int (nI (((sSend lk sn ac ex O P (pk5 rk (pChan pk) 0 0 0)).2.1).2))])), (oua, .inl (ca 0, 16, .inl (fun j => nI ((((sSend lk sn ac ex O P (pk5 rk (pChan pk) 0 0 0)).2.1).1) j)))), (cs, .inl (ca 3, 3, .inr (.inr (.inr (.inr fc))))), (q, .inr (1, [.int (nI y), .ref d, .int (nI st'), .int (nI nx'), .int (nI pa'), .int (nI du'), .int (nI ta')])), (d, .inr (0, [.ref da, .int (nI r'.2)])), (da, .inl (ca 0, 2, .inl (fun j => nI (r'.1 j))))] H := hP.sub [4, 5, 6, 7, 8, 0, 1, 2, 3] rfl
    have hD : va_D A [(h, .inr (2, [.ref ln, .ref pe, .ref ou, .ref cs, .int (nI lk), .int (nI ((sSend lk sn ac ex O P (pk5 rk (pChan pk) 0 0 0)).1)), .int (nI ac), .int (nI ex), .int (nI tr), .int (nI rj)])), (pe, .inr (0, [.ref pea, .int (nI (((sSend lk sn ac ex O P (pk5 rk (pChan pk) 0 0 0)).2.2).2))])), (pea, .inl (ca 0, 12, .inl (fun j => nI ((((sSend lk sn ac ex O P (pk5 rk (pChan pk) 0 0 0)).2.2).1) j)))), (ou, .inr (0, [.ref oua, .int (nI (((sSend lk sn ac ex O P (pk5 rk (pChan pk) 0 0 0)).2.1).2))])), (oua, .inl (ca 0, 16, .inl (fun j => nI ((((sSend lk sn ac ex O P (pk5 rk (pChan pk) 0 0 0)).2.1).1) j)))), (cs, .inl (ca 3, 3, .inr (.inr (.inr (.inr fc))))), (q, .inr (1, [.int (nI y), .ref d, .int (nI st'), .int (nI nx'), .int (nI pa'), .int (nI du'), .int (nI ta')])), (d, .inr (0, [.ref da, .int (nI r'.2)])), (da, .inl (ca 0, 2, .inl (fun j => nI (r'.1 j))))] := hD.sub [4, 5, 6, 7, 8, 0, 1, 2, 3] rfl rfl
    rw [sHear, if_neg (by omega)] at hres2
    simp only [sSend, Prod.mk.injEq] at hres2
    obtain ⟨rfl, rfl, rfl⟩ := hres2
    exact Co.retv hx hb hret hlk dSt_hearPacket_37 hS hP hD () rfl trivial rfl (Nat.le_of_ble_eq_true rfl) (Nat.le_of_ble_eq_true rfl)
set_option maxHeartbeats 4000000 in
set_option maxRecDepth 100000 in
theorem c_St_hearCarrier (l : Launch) (D : va_G) (ca : Nat → ClassId) (h ln pe ou cs lk sn ac ex tr rj : Nat) (pea oua : Nat) (O P : Rw_) (fc : Nat → Option Nat) (q d da y : Nat) (k : Cn_) (f : Nat) (hlk2 : lk < 3) (hsn : sn < 8) (hac : ac < 8) (hex : ex < 8) (hrj : rj < 2) (hO : oOk O) (hP1 : P.2 ≤ 12) (hf : f < 2 ^ 31) (hcn : pChan (fPack f) < 3) (hq : fc (pChan (fPack f)) = some q) (hy : y < 2) (hk : kOk k) (sn1 ex1 rj1 : Nat) (O1 : Rw_) (k1 : Cn_) (P1 : Rw_) (hres0 : sCarr lk sn ac ex rj O P y k f = ((sn1, ex1, rj1), O1, k1, P1)) : Co (S := Unit) l ySt_hearCarrier (Cond.code ySt_hearCarrier cSt_hearCarrier 3 none :: tb_) { frames := 4, cells := 0, slots := 0, locals := 128 } D ca [.ref h, .int (nI f)] [(h, .inr (2, [.ref ln, .ref pe, .ref ou, .ref cs, .int (nI lk), .int (nI sn), .int (nI ac), .int (nI ex), .int (nI tr), .int (nI rj)])), (pe, .inr (0, [.ref pea, .int (nI P.2)])), (pea, .inl (ca 0, 12, .inl (fun j => nI (P.1 j)))), (ou, .inr (0, [.ref oua, .int (nI O.2)])), (oua, .inl (ca 0, 16, .inl (fun j => nI (O.1 j)))), (cs, .inl (ca 3, 3, .inr (.inr (.inr (.inr fc))))), (q, .inr (1, [.int (nI y), .ref d, .int (nI k.1), .int (nI k.2.1), .int (nI k.2.2.1), .int (nI k.2.2.2.1), .int (nI k.2.2.2.2.1)])), (d, .inr (0, [.ref da, .int (nI ((k.2.2.2.2.2).2))])), (da, .inl (ca 0, 2, .inl (fun j => nI (((k.2.2.2.2.2).1) j))))] (fun _ => none) (fun _ => True) (fun _ => [(h, .inr (2, [.ref ln, .ref pe, .ref ou, .ref cs, .int (nI lk), .int (nI sn1), .int (nI ac), .int (nI ex1), .int (nI tr), .int (nI rj1)])), (pe, .inr (0, [.ref pea, .int (nI P1.2)])), (pea, .inl (ca 0, 12, .inl (fun j => nI (P1.1 j)))), (ou, .inr (0, [.ref oua, .int (nI O1.2)])), (oua, .inl (ca 0, 16, .inl (fun j => nI (O1.1 j)))), (cs, .inl (ca 3, 3, .inr (.inr (.inr (.inr fc))))), (q, .inr (1, [.int (nI y), .ref d, .int (nI k1.1), .int (nI k1.2.1), .int (nI k1.2.2.1), .int (nI k1.2.2.2.1), .int (nI k1.2.2.2.2.1)])), (d, .inr (0, [.ref da, .int (nI ((k1.2.2.2.2.2).2))])), (da, .inl (ca 0, 2, .inl (fun j => nI (((k1.2.2.2.2.2).1) j))))]) 0 0 := by
  refine Co.of cSt_hearCarrier 3 none (by decide) (Nat.le_of_ble_eq_true rfl) ?_
  intro p e s m args below meth c A ls fx hret hlk hin hE hP hD hS hA hl
  have hx := fx.1
  have hb := fx.2.1
  have hown : s.vm.findClass RSt = some m.cls := fx.2.2.2.1
  have hts := fx.2.2.2.2
  have ht : ∀ w ∈ tb_, w.before args s = true := fun w h => hts w (List.mem_cons_of_mem _ h)
  have hf2 : fPack f < 2097152 := Nat.mod_lt _ (by decide)
  have hf3 : fNumb f < 8 := Nat.mod_lt _ (by decide)
  have b3 := af_lt ex
  obtain ⟨rk, st', nx', pa', du', ta', r', hres⟩ : ∃ rk st' nx' pa' du' ta' r', cAns y k.1 k.2.1 k.2.2.1 k.2.2.2.1 k.2.2.2.2.1 k.2.2.2.2.2 (fPack f) = (rk, st', nx', pa', du', ta', r') := ⟨_, _, _, _, _, _, _, rfl⟩
  have hrk : rk < 16 := by have h9 := cAns_rk y k.1 k.2.1 k.2.2.1 k.2.2.2.1 k.2.2.2.2.1 k.2.2.2.2.2 (fPack f); rw [hres] at h9; exact h9
  obtain ⟨sn', O', P', hres2⟩ : ∃ sn' O' P', sHear lk sn ac (af ex) O P rk (pChan (fPack f)) = (sn', O', P') := ⟨_, _, _, rfl⟩
  obtain ⟨hs', hO', hP'⟩ := sHear_keep hO hP1 hsn hrk (by omega) hres2
  obtain ⟨P2, s2, hpm⟩ : ∃ P2 s2, cPump lk sn' ac (af ex) O' P' = (P2, s2) := ⟨_, _, rfl⟩
  have hs2 : s2 < 8 := by have h9 := cPump_snd (lk := lk) (ac := ac) (ex := af ex) (O := O') (P := P') hs'; rw [hpm] at h9; exact h9
  have hP2 : P2.2 ≤ 12 := by have h9 := cPump_le (lk := lk) (sn := sn') (ac := ac) (ex := af ex) (O := O') hP'; rw [hpm] at h9; exact h9
  have hl : lv_has ls 3 [(0, .ref h), (1, .int (nI f))] := hl
  refine lv_iload_n hx hb dSt_hearCarrier_0 rfl (lv_at hl 1 rfl) ?_
  refine kI (rSN fx (c_Fr_numberOf l D ca f (by omega)) ⟨va_cnB 1 hts (tb_gi tw_360) rfl rfl rfl (hE.nest tw_358 rfl) (ht _ tw_10) (by decide +kernel) ⟨(Nat.le_of_ble_eq_true rfl), (Nat.le_of_ble_eq_true rfl)⟩, ht _ tw_359, trivial⟩ hE hP hD [] rfl rfl rfl hl.1 rfl (Nat.le_of_ble_eq_true rfl) dSt_hearCarrier_1 ⟨(Nat.le_of_ble_eq_true rfl), (Nat.le_of_ble_eq_true rfl)⟩) hP hD hS hA [] [0, 1, 2, 3, 4, 5, 6, 7, 8] rfl rfl rfl (by decide) (fun _ H locs _ hP hD hS => ?_)
  have hP : va_P D cls_ [(h, .inr (2, [.ref ln, .ref pe, .ref ou, .ref cs, .int (nI lk), .int (nI sn), .int (nI ac), .int (nI ex), .int (nI tr), .int (nI rj)])), (pe, .inr (0, [.ref pea, .int (nI P.2)])), (pea, .inl (ca 0, 12, .inl (fun j => nI (P.1 j)))), (ou, .inr (0, [.ref oua, .int (nI O.2)])), (oua, .inl (ca 0, 16, .inl (fun j => nI (O.1 j)))), (cs, .inl (ca 3, 3, .inr (.inr (.inr (.inr fc))))), (q, .inr (1, [.int (nI y), .ref d, .int (nI k.1), .int (nI k.2.1), .int (nI k.2.2.1), .int (nI k.2.2.2.1), .int (nI k.2.2.2.2.1)])), (d, .inr (0, [.ref da, .int (nI ((k.2.2.2.2.2).2))])), (da, .inl (ca 0, 2, .inl (fun j => nI (((k.2.2.2.2.2).1) j))))] H := hP
  have hD : va_D A [(h, .inr (2, [.ref ln, .ref pe, .ref ou, .ref cs, .int (nI lk), .int (nI sn), .int (nI ac), .int (nI ex), .int (nI tr), .int (nI rj)])), (pe, .inr (0, [.ref pea, .int (nI P.2)])), (pea, .inl (ca 0, 12, .inl (fun j => nI (P.1 j)))), (ou, .inr (0, [.ref oua, .int (nI O.2)])), (oua, .inl (ca 0, 16, .inl (fun j => nI (O.1 j)))), (cs, .inl (ca 3, 3, .inr (.inr (.inr (.inr fc))))), (q, .inr (1, [.int (nI y), .ref d, .int (nI k.1), .int (nI k.2.1), .int (nI k.2.2.1), .int (nI k.2.2.2.1), .int (nI k.2.2.2.2.1)])), (d, .inr (0, [.ref da, .int (nI ((k.2.2.2.2.2).2))])), (da, .inl (ca 0, 2, .inl (fun j => nI (((k.2.2.2.2.2).1) j))))] := hD
  refine lv_aload_n hx hb dSt_hearCarrier_4 rfl (lv_at hl 0 rfl) ?_
  refine va_get (D := D) (ci := 2) (v := .int (nI ex)) (C := RSt) (T := TSt) (N := 10) hx hb ht inSt hown hE.1 hP 0 rfl rfl 7 (by decide) (ht _ tw_101) (fun _ h => h) rfl dSt_hearCarrier_5 ?_
  refine k_icmp_eq (tgt := 16) hx hb (by omega) (by omega) dSt_hearCarrier_8 rfl (fun h8 => ?_) (fun h8 => ?_)
  · refine lv_aload_n hx hb dSt_hearCarrier_16 rfl (lv_at hl 0 rfl) ?_
    refine lv_aload_n hx hb dSt_hearCarrier_17 rfl (lv_at hl 0 rfl) ?_
    refine va_get (D := D) (ci := 2) (v := .int (nI ex)) (C := RSt) (T := TSt) (N := 10) hx hb ht inSt hown hE.1 hP 0 rfl rfl 7 (by decide) (ht _ tw_101) (fun _ h => h) rfl dSt_hearCarrier_18 ?_
    refine kI (rSN fx (c_Cl_after l D ca ex (by omega)) ⟨va_cnB 1 hts (tb_gi tw_289) rfl rfl rfl (hE.nest tw_287 rfl) (ht _ tw_1) (by decide +kernel) ⟨(Nat.le_of_ble_eq_true rfl), (Nat.le_of_ble_eq_true rfl)⟩, ht _ tw_288, trivial⟩ hE hP hD [] rfl rfl rfl hl.1 rfl (Nat.le_of_ble_eq_true rfl) dSt_hearCarrier_21 ⟨(Nat.le_of_ble_eq_true rfl), (Nat.le_of_ble_eq_true rfl)⟩) hP hD hS hA [] [0, 1, 2, 3, 4, 5, 6, 7, 8] rfl rfl rfl (by decide) (fun _ H locs _ hP hD hS => ?_)
    have hP : va_P D cls_ [(h, .inr (2, [.ref ln, .ref pe, .ref ou, .ref cs, .int (nI lk), .int (nI sn), .int (nI ac), .int (nI ex), .int (nI tr), .int (nI rj)])), (pe, .inr (0, [.ref pea, .int (nI P.2)])), (pea, .inl (ca 0, 12, .inl (fun j => nI (P.1 j)))), (ou, .inr (0, [.ref oua, .int (nI O.2)])), (oua, .inl (ca 0, 16, .inl (fun j => nI (O.1 j)))), (cs, .inl (ca 3, 3, .inr (.inr (.inr (.inr fc))))), (q, .inr (1, [.int (nI y), .ref d, .int (nI k.1), .int (nI k.2.1), .int (nI k.2.2.1), .int (nI k.2.2.2.1), .int (nI k.2.2.2.2.1)])), (d, .inr (0, [.ref da, .int (nI ((k.2.2.2.2.2).2))])), (da, .inl (ca 0, 2, .inl (fun j => nI (((k.2.2.2.2.2).1) j))))] H := hP
    have hD : va_D A [(h, .inr (2, [.ref ln, .ref pe, .ref ou, .ref cs, .int (nI lk), .int (nI sn), .int (nI ac), .int (nI ex), .int (nI tr), .int (nI rj)])), (pe, .inr (0, [.ref pea, .int (nI P.2)])), (pea, .inl (ca 0, 12, .inl (fun j => nI (P.1 j)))), (ou, .inr (0, [.ref oua, .int (nI O.2)])), (oua, .inl (ca 0, 16, .inl (fun j => nI (O.1 j)))), (cs, .inl (ca 3, 3, .inr (.inr (.inr (.inr fc))))), (q, .inr (1, [.int (nI y), .ref d, .int (nI k.1), .int (nI k.2.1), .int (nI k.2.2.1), .int (nI k.2.2.2.1), .int (nI k.2.2.2.2.1)])), (d, .inr (0, [.ref da, .int (nI ((k.2.2.2.2.2).2))])), (da, .inl (ca 0, 2, .inl (fun j => nI (((k.2.2.2.2.2).1) j))))] := hD
    refine va_put (D := D) (ci := 2) (v := .int (nI (af ex))) (ty := .int) (C := RSt) (T := TSt) (N := 10) hx hb ht inSt tySt tySt_ok nmSt hown hE.1 hP hD hS 0 rfl rfl 7 (by decide) (ht _ tw_101) (fun _ h => h) rfl (by decide +kernel) rfl rfl (Nat.le_of_ble_eq_true rfl) dSt_hearCarrier_24 (fun H locs hP hD hS => ?_)
    have hP : va_P D cls_ [(h, .inr (2, [.ref ln, .ref pe, .ref ou, .ref cs, .int (nI lk), .int (nI sn), .int (nI ac), .int (nI (af ex)), .int (nI tr), .int (nI rj)])), (pe, .inr (0, [.ref pea, .int (nI P.2)])), (pea, .inl (ca 0, 12, .inl (fun j => nI (P.1 j)))), (ou, .inr (0, [.ref oua, .int (nI O.2)])), (oua, .inl (ca 0, 16, .inl (fun j => nI (O.1 j)))), (cs, .inl (ca 3, 3, .inr (.inr (.inr (.inr fc))))), (q, .inr (1, [.int (nI y), .ref d, .int (nI k.1), .int (nI k.2.1), .int (nI k.2.2.1), .int (nI k.2.2.2.1), .int (nI k.2.2.2.2.1)])), (d, .inr (0, [.ref da, .int (nI ((k.2.2.2.2.2).2))])), (da, .inl (ca 0, 2, .inl (fun j => nI (((k.2.2.2.2.2).1) j))))] H := hP
    have hD : va_D A [(h, .inr (2, [.ref ln, .ref pe, .ref ou, .ref cs, .int (nI lk), .int (nI sn), .int (nI ac), .int (nI (af ex)), .int (nI tr), .int (nI rj)])), (pe, .inr (0, [.ref pea, .int (nI P.2)])), (pea, .inl (ca 0, 12, .inl (fun j => nI (P.1 j)))), (ou, .inr (0, [.ref oua, .int (nI O.2)])), (oua, .inl (ca 0, 16, .inl (fun j => nI (O.1 j)))), (cs, .inl (ca 3, 3, .inr (.inr (.inr (.inr fc))))), (q, .inr (1, [.int (nI y), .ref d, .int (nI k.1), .int (nI k.2.1), .int (nI k.2.2.1), .int (nI k.2.2.2.1), .int (nI k.2.2.2.2.1)])), (d, .inr (0, [.ref da, .int (nI ((k.2.2.2.2.2).2))])), (da, .inl (ca 0, 2, .inl (fun j => nI (((k.2.2.2.2.2).1) j))))] := hD
    refine lv_aload_n hx hb dSt_hearCarrier_27 rfl (lv_at hl 0 rfl) ?_
    refine lv_iconst (v := nI 0) hx hb dSt_hearCarrier_28 (by decide) ?_
    refine va_put (D := D) (ci := 2) (v := .int (nI 0)) (ty := .boolean) (C := RSt) (T := TSt) (N := 10) hx hb ht inSt tySt tySt_ok nmSt hown hE.1 hP hD hS 0 rfl rfl 9 (by decide) (ht _ tw_105) (fun _ h => h) rfl (by decide +kernel) rfl rfl (Nat.le_of_ble_eq_true rfl) dSt_hearCarrier_29 (fun H locs hP hD hS => ?_)
    have hP : va_P D cls_ [(h, .inr (2, [.ref ln, .ref pe, .ref ou, .ref cs, .int (nI lk), .int (nI sn), .int (nI ac), .int (nI (af ex)), .int (nI tr), .int (nI 0)])), (pe, .inr (0, [.ref pea, .int (nI P.2)])), (pea, .inl (ca 0, 12, .inl (fun j => nI (P.1 j)))), (ou, .inr (0, [.ref oua, .int (nI O.2)])), (oua, .inl (ca 0, 16, .inl (fun j => nI (O.1 j)))), (cs, .inl (ca 3, 3, .inr (.inr (.inr (.inr fc))))), (q, .inr (1, [.int (nI y), .ref d, .int (nI k.1), .int (nI k.2.1), .int (nI k.2.2.1), .int (nI k.2.2.2.1), .int (nI k.2.2.2.2.1)])), (d, .inr (0, [.ref da, .int (nI ((k.2.2.2.2.2).2))])), (da, .inl (ca 0, 2, .inl (fun j => nI (((k.2.2.2.2.2).1) j))))] H := hP
    have hD : va_D A [(h, .inr (2, [.ref ln, .ref pe, .ref ou, .ref cs, .int (nI lk), .int (nI sn), .int (nI ac), .int (nI (af ex)), .int (nI tr), .int (nI 0)])), (pe, .inr (0, [.ref pea, .int (nI P.2)])), (pea, .inl (ca 0, 12, .inl (fun j => nI (P.1 j)))), (ou, .inr (0, [.ref oua, .int (nI O.2)])), (oua, .inl (ca 0, 16, .inl (fun j => nI (O.1 j)))), (cs, .inl (ca 3, 3, .inr (.inr (.inr (.inr fc))))), (q, .inr (1, [.int (nI y), .ref d, .int (nI k.1), .int (nI k.2.1), .int (nI k.2.2.1), .int (nI k.2.2.2.1), .int (nI k.2.2.2.2.1)])), (d, .inr (0, [.ref da, .int (nI ((k.2.2.2.2.2).2))])), (da, .inl (ca 0, 2, .inl (fun j => nI (((k.2.2.2.2.2).1) j))))] := hD
    refine lv_aload_n hx hb dSt_hearCarrier_32 rfl (lv_at hl 0 rfl) ?_
    refine va_get (D := D) (ci := 2) (v := .int (nI sn)) (C := RSt) (T := TSt) (N := 10) hx hb ht inSt hown hE.1 hP 0 rfl rfl 5 (by decide) (ht _ tw_97) (fun _ h => h) rfl dSt_hearCarrier_33 ?_
    refine lv_istore_n hx hb dSt_hearCarrier_36 rfl hl (by decide) rfl (fun ls hl => ?_)
    have hl : lv_has ls 3 [(2, .int (nI sn)), (0, .ref h), (1, .int (nI f))] := hl
    refine lv_aload_n hx hb dSt_hearCarrier_37 rfl (lv_at hl 1 rfl) ?_
    refine lv_iload_n hx hb dSt_hearCarrier_38 rfl (lv_at hl 2 rfl) ?_
    refine kI (rSN fx (c_Fr_packetOf l D ca f (by omega)) ⟨va_cnB 1 hts (tb_gi tw_371) rfl rfl rfl (hE.nest tw_369 rfl) (ht _ tw_10) (by decide +kernel) ⟨(Nat.le_of_ble_eq_true rfl), (Nat.le_of_ble_eq_true rfl)⟩, ht _ tw_370, trivial⟩ hE hP hD [] rfl rfl rfl hl.1 rfl (Nat.le_of_ble_eq_true rfl) dSt_hearCarrier_39 ⟨(Nat.le_of_ble_eq_true rfl), (Nat.le_of_ble_eq_true rfl)⟩) hP hD hS hA [] [0, 1, 2, 3, 4, 5, 6, 7, 8] rfl rfl rfl (by decide) (fun _ H locs _ hP hD hS => ?_)
    have hP : va_P D cls_ [(h, .inr (2, [.ref ln, .ref pe, .ref ou, .ref cs, .int (nI lk), .int (nI sn), .int (nI ac), .int (nI (af ex)), .int (nI tr), .int (nI 0)])), (pe, .inr (0, [.ref pea, .int (nI P.2)])), (pea, .inl (ca 0, 12, .inl (fun j => nI (P.1 j)))), (ou, .inr (0, [.ref oua, .int (nI O.2)])), (oua, .inl (ca 0, 16, .inl (fun j => nI (O.1 j)))), (cs, .inl (ca 3, 3, .inr (.inr (.inr (.inr fc))))), (q, .inr (1, [.int (nI y), .ref d, .int (nI k.1), .int (nI k.2.1), .int (nI k.2.2.1), .int (nI k.2.2.2.1), .int (nI k.2.2.2.2.1)])), (d, .inr (0, [.ref da, .int (nI ((k.2.2.2.2.2).2))])), (da, .inl (ca 0, 2, .inl (fun j => nI (((k.2.2.2.2.2).1) j))))] H := hP
    have hD : va_D A [(h, .inr (2, [.ref ln, .ref pe, .ref ou, .ref cs, .int (nI lk), .int (nI sn), .int (nI ac), .int (nI (af ex)), .int (nI tr), .int (nI 0)])), (pe, .inr (0, [.ref pea, .int (nI P.2)])), (pea, .inl (ca 0, 12, .inl (fun j => nI (P.1 j)))), (ou, .inr (0, [.ref oua, .int (nI O.2)])), (oua, .inl (ca 0, 16, .inl (fun j => nI (O.1 j)))), (cs, .inl (ca 3, 3, .inr (.inr (.inr (.inr fc))))), (q, .inr (1, [.int (nI y), .ref d, .int (nI k.1), .int (nI k.2.1), .int (nI k.2.2.1), .int (nI k.2.2.2.1), .int (nI k.2.2.2.2.1)])), (d, .inr (0, [.ref da, .int (nI ((k.2.2.2.2.2).2))])), (da, .inl (ca 0, 2, .inl (fun j => nI (((k.2.2.2.2.2).1) j))))] := hD
    refine kV (rV fx (c_St_hearPacket l D ca h ln pe ou cs lk sn ac (af ex) tr 0 pea oua O P fc q d da y k.1 k.2.1 k.2.2.1 k.2.2.2.1 k.2.2.2.2.1 (k.2.2.2.2.2) (fPack f) (by omega) (by omega) (by omega) (by omega) hO hP1 (by omega) hcn hq hy hk.1 hk.2.1 hk.2.2.1 hk.2.2.2.1 hk.2.2.2.2.1 hk.2.2.2.2.2 _ _ _ _ _ _ _ hres _ _ _ hres2) ⟨callB_of 1 hts (tb_gi tw_376) rfl rfl rfl (ht _ tw_3) (ht _ tw_373) (by decide +kernel) ⟨(Nat.le_of_ble_eq_true rfl), (Nat.le_of_ble_eq_true rfl)⟩, ht _ tw_374, ht _ tw_375⟩ hE hP hD 0 rfl rfl rfl [0, 1, 2, 3, 4, 5, 6, 7, 8] rfl rfl rfl hl.1 rfl (Nat.le_of_ble_eq_true rfl) dSt_hearCarrier_42 ⟨(Nat.le_of_ble_eq_true rfl), (Nat.le_of_ble_eq_true rfl)⟩) hP hD hS hA [0, 1, 2, 3, 4, 5, 6, 7, 8] [] rfl rfl rfl (by decide) (fun _ H locs _ hP hD hS => ?_)
    have hP : va_P D cls_ [(h, .inr (2, [.ref ln, .ref pe, .ref ou, .ref cs, .int (nI lk), .int (nI sn'), .int (nI ac), .int (nI (af ex)), .int (nI tr), .int (nI 0)])), (pe, .inr (0, [.ref pea, .int (nI P'.2)])), (pea, .inl (ca 0, 12, .inl (fun j => nI (P'.1 j)))), (ou, .inr (0, [.ref oua, .int (nI O'.2)])), (oua, .inl (ca 0, 16, .inl (fun j => nI (O'.1 j)))), (cs, .inl (ca 3, 3, .inr (.inr (.inr (.inr fc))))), (q, .inr (1, [.int (nI y), .ref d, .int (nI st'), .int (nI nx'), .int (nI pa'), .int (nI du'), .int (nI ta')])), (d, .inr (0, [.ref da, .int (nI r'.2)])), (da, .inl (ca 0, 2, .inl (fun j => nI (r'.1 j))))] H := hP
    have hD : va_D A [(h, .inr (2, [.ref ln, .ref pe, .ref ou, .ref cs, .int (nI lk), .int (nI sn'), .int (nI ac), .int (nI (af ex)), .int (nI tr), .int (nI 0)])), (pe, .inr (0, [.ref pea, .int (nI P'.2)])), (pea, .inl (ca 0, 12, .inl (fun j => nI (P'.1 j)))), (ou, .inr (0, [.ref oua, .int (nI O'.2)])), (oua, .inl (ca 0, 16, .inl (fun j => nI (O'.1 j)))), (cs, .inl (ca 3, 3, .inr (.inr (.inr (.inr fc))))), (q, .inr (1, [.int (nI y), .ref d, .int (nI st'), .int (nI nx'), .int (nI pa'), .int (nI du'), .int (nI ta')])), (d, .inr (0, [.ref da, .int (nI r'.2)])), (da, .inl (ca 0, 2, .inl (fun j => nI (r'.1 j))))] := hD
    refine lv_aload_n hx hb dSt_hearCarrier_45 rfl (lv_at hl 1 rfl) ?_
    refine va_get (D := D) (ci := 2) (v := .int (nI sn')) (C := RSt) (T := TSt) (N := 10) hx hb ht inSt hown hE.1 hP 0 rfl rfl 5 (by decide) (ht _ tw_97) (fun _ h => h) rfl dSt_hearCarrier_46 ?_
    refine lv_iload_n hx hb dSt_hearCarrier_49 rfl (lv_at hl 0 rfl) ?_
    refine k_icmp_ne (tgt := 57) hx hb (by omega) (by omega) dSt_hearCarrier_50 rfl (fun h50 => ?_) (fun h50 => ?_)
    · refine lv_aload_n hx hb dSt_hearCarrier_57 rfl (lv_at hl 1 rfl) ?_
      refine va_get (D := D) (ci := 2) (v := .int (nI sn')) (C := RSt) (T := TSt) (N := 10) hx hb ht inSt hown hE.1 hP 0 rfl rfl 5 (by decide) (ht _ tw_97) (fun _ h => h) rfl dSt_hearCarrier_58 ?_
      refine lv_iload_n hx hb dSt_hearCarrier_61 rfl (lv_at hl 0 rfl) ?_
      refine k_icmp_ne (tgt := 70) hx hb (by omega) (by omega) dSt_hearCarrier_62 rfl (fun h62 => ?_) (fun h62 => ?_)
      · have e8 : sReady lk sn sn' ac (af ex) O' P' = (sn', P') := by rw [sReady, if_neg (by omega)]
        have e9 : sCarr lk sn ac ex rj O P y k f = ((sn', af ex, 0), O', (st', nx', pa', du', ta', r'), P') := by
          rw [sCarr, if_pos (by omega), kAns, hres]
          show sCarr2 lk sn ac ex _ (sHear lk sn ac (af ex) O P rk (pChan (fPack f))) = _
          rw [hres2]
          show (((sReady lk sn sn' ac (af ex) O' P').1, af ex, 0), O', (st', nx', pa', du', ta', r'), (sReady lk sn sn' ac (af ex) O' P').2) = _
          rw [e8]
        rw [e9] at hres0
        simp only [Prod.mk.injEq] at hres0
        obtain ⟨⟨rfl, rfl, rfl⟩, rfl, rfl, rfl⟩ := hres0
        exact Co.retv hx hb hret hlk dSt_hearCarrier_70 hS hP hD () rfl trivial rfl (Nat.le_of_ble_eq_true rfl) (Nat.le_of_ble_eq_true rfl)
      · refine lv_aload_n hx hb dSt_hearCarrier_65 rfl (lv_at hl 1 rfl) ?_
        refine lv_iconst (v := nI 4) hx hb dSt_hearCarrier_66 (by decide) ?_
        refine kV (rV fx (c_St_sendAcknowledging l D ca h ln pe ou cs lk sn' ac (af ex) tr 0 pea P' 4 (by omega) (by omega) (by first | assumption | exact rAdd_le (by assumption) | exact cPump_le (by assumption) | exact cAgain_le (by assumption) | exact cPump_le (cAgain_le (by assumption)) | omega)) ⟨callB_of 1 hts (tb_gi tw_368) rfl rfl rfl (ht _ tw_3) (ht _ tw_365) (by decide +kernel) ⟨(Nat.le_of_ble_eq_true rfl), (Nat.le_of_ble_eq_true rfl)⟩, ht _ tw_367, ht _ tw_838⟩ hE hP hD 0 rfl rfl rfl [0, 1, 2] rfl rfl rfl hl.1 rfl (Nat.le_of_ble_eq_true rfl) dSt_hearCarrier_67 ⟨(Nat.le_of_ble_eq_true rfl), (Nat.le_of_ble_eq_true rfl)⟩) hP hD hS hA [0, 1, 2] [3, 4, 5, 6, 7, 8] rfl rfl rfl (by decide) (fun _ H locs _ hP hD hS => ?_)
        have hP : va_P D cls_ [(ou, .inr (0, [.ref oua, .int (nI O'.2)])), (oua, .inl (ca 0, 16, .inl (fun j => nI (O'.1 j)))), (cs, .inl (ca 3, 3, .inr (.inr (.inr (.inr fc))))), (q, .inr (1, [.int (nI y), .ref d, .int (nI st'), .int (nI nx'), .int (nI pa'), .int (nI du'), .int (nI ta')])), (d, .inr (0, [.ref da, .int (nI r'.2)])), (da, .inl (ca 0, 2, .inl (fun j => nI (r'.1 j)))), (h, .inr (2, [.ref ln, .ref pe, .ref ou, .ref cs, .int (nI lk), .int (nI sn'), .int (nI ac), .int (nI (af ex)), .int (nI tr), .int (nI 0)])), (pe, .inr (0, [.ref pea, .int (nI ((rAdd 12 P' (fr4 4 0 (af ex) 0)).2))])), (pea, .inl (ca 0, 12, .inl (fun j => nI (((rAdd 12 P' (fr4 4 0 (af ex) 0)).1) j))))] H := hP
        have hD : va_D A [(ou, .inr (0, [.ref oua, .int (nI O'.2)])), (oua, .inl (ca 0, 16, .inl (fun j => nI (O'.1 j)))), (cs, .inl (ca 3, 3, .inr (.inr (.inr (.inr fc))))), (q, .inr (1, [.int (nI y), .ref d, .int (nI st'), .int (nI nx'), .int (nI pa'), .int (nI du'), .int (nI ta')])), (d, .inr (0, [.ref da, .int (nI r'.2)])), (da, .inl (ca 0, 2, .inl (fun j => nI (r'.1 j)))), (h, .inr (2, [.ref ln, .ref pe, .ref ou, .ref cs, .int (nI lk), .int (nI sn'), .int (nI ac), .int (nI (af ex)), .int (nI tr), .int (nI 0)])), (pe, .inr (0, [.ref pea, .int (nI ((rAdd 12 P' (fr4 4 0 (af ex) 0)).2))])), (pea, .inl (ca 0, 12, .inl (fun j => nI (((rAdd 12 P' (fr4 4 0 (af ex) 0)).1) j))))] := hD
        have hP : va_P D cls_ [(h, .inr (2, [.ref ln, .ref pe, .ref ou, .ref cs, .int (nI lk), .int (nI sn'), .int (nI ac), .int (nI (af ex)), .int (nI tr), .int (nI 0)])), (pe, .inr (0, [.ref pea, .int (nI ((rAdd 12 P' (fr4 4 0 (af ex) 0)).2))])), (pea, .inl (ca 0, 12, .inl (fun j => nI (((rAdd 12 P' (fr4 4 0 (af ex) 0)).1) j)))), (ou, .inr (0, [.ref oua, .int (nI O'.2)])), (oua, .inl (ca 0, 16, .inl (fun j => nI (O'.1 j)))), (cs, .inl (ca 3, 3, .inr (.inr (.inr (.inr fc))))), (q, .inr (1, [.int (nI y), .ref d, .int (nI st'), .int (nI nx'), .int (nI pa'), .int (nI du'), .int (nI ta')])), (d, .inr (0, [.ref da, .int (nI r'.2)])), (da, .inl (ca 0, 2, .inl (fun j => nI (r'.1 j))))] H := hP.sub [6, 7, 8, 0, 1, 2, 3, 4, 5] rfl
        have hD : va_D A [(h, .inr (2, [.ref ln, .ref pe, .ref ou, .ref cs, .int (nI lk), .int (nI sn'), .int (nI ac), .int (nI (af ex)), .int (nI tr), .int (nI 0)])), (pe, .inr (0, [.ref pea, .int (nI ((rAdd 12 P' (fr4 4 0 (af ex) 0)).2))])), (pea, .inl (ca 0, 12, .inl (fun j => nI (((rAdd 12 P' (fr4 4 0 (af ex) 0)).1) j)))), (ou, .inr (0, [.ref oua, .int (nI O'.2)])), (oua, .inl (ca 0, 16, .inl (fun j => nI (O'.1 j)))), (cs, .inl (ca 3, 3, .inr (.inr (.inr (.inr fc))))), (q, .inr (1, [.int (nI y), .ref d, .int (nI st'), .int (nI nx'), .int (nI pa'), .int (nI du'), .int (nI ta')])), (d, .inr (0, [.ref da, .int (nI r'.2)])), (da, .inl (ca 0, 2, .inl (fun j => nI (r'.1 j))))] := hD.sub [6, 7, 8, 0, 1, 2, 3, 4, 5] rfl rfl
        have e8 : sReady lk sn sn' ac (af ex) O' P' = (sn', P') := by rw [sReady, if_neg (by omega)]
        have e9 : sCarr lk sn ac ex rj O P y k f = ((sn', af ex, 0), O', (st', nx', pa', du', ta', r'), P') := by
          rw [sCarr, if_pos (by omega), kAns, hres]
          show sCarr2 lk sn ac ex _ (sHear lk sn ac (af ex) O P rk (pChan (fPack f))) = _
          rw [hres2]
          show (((sReady lk sn sn' ac (af ex) O' P').1, af ex, 0), O', (st', nx', pa', du', ta', r'), (sReady lk sn sn' ac (af ex) O' P').2) = _
          rw [e8]
        rw [e9] at hres0
        simp only [Prod.mk.injEq] at hres0
        obtain ⟨⟨rfl, rfl, rfl⟩, rfl, rfl, rfl⟩ := hres0
        exact Co.retv hx hb hret hlk dSt_hearCarrier_70 hS hP hD () rfl trivial rfl (Nat.le_of_ble_eq_true rfl) (Nat.le_of_ble_eq_true rfl)
    · refine lv_aload_n hx hb dSt_hearCarrier_53 rfl (lv_at hl 1 rfl) ?_
      refine kV (rV fx (c_St_pump l D ca h ln pe ou cs lk sn' ac (af ex) tr 0 pea oua O' P' P2 s2 (by omega) (by omega) (by omega) (by omega) (by first | assumption | exact oOk.add (by assumption) (by first | omega | exact pk5_lt (by omega) (by omega) (by omega) (by omega) (by omega))) (by first | assumption | exact rAdd_le (by assumption) | exact cPump_le (by assumption) | exact cAgain_le (by assumption) | exact cPump_le (cAgain_le (by assumption)) | omega) hpm) ⟨callB_of 0 hts (tb_gi tw_436) rfl rfl rfl (ht _ tw_3) (ht _ tw_433) (by decide +kernel) ⟨(Nat.le_of_ble_eq_true rfl), (Nat.le_of_ble_eq_true rfl)⟩, ht _ tw_435, ht _ tw_844⟩ hE hP hD 0 rfl rfl rfl [0, 1, 2, 3, 4] rfl rfl rfl hl.1 rfl (Nat.le_of_ble_eq_true rfl) dSt_hearCarrier_54 ⟨(Nat.le_of_ble_eq_true rfl), (Nat.le_of_ble_eq_true rfl)⟩) hP hD hS hA [0, 1, 2, 3, 4] [5, 6, 7, 8] rfl rfl rfl (by decide) (fun _ H locs _ hP hD hS => ?_)
      have hP : va_P D cls_ [(cs, .inl (ca 3, 3, .inr (.inr (.inr (.inr fc))))), (q, .inr (1, [.int (nI y), .ref d, .int (nI st'), .int (nI nx'), .int (nI pa'), .int (nI du'), .int (nI ta')])), (d, .inr (0, [.ref da, .int (nI r'.2)])), (da, .inl (ca 0, 2, .inl (fun j => nI (r'.1 j)))), (h, .inr (2, [.ref ln, .ref pe, .ref ou, .ref cs, .int (nI lk), .int (nI s2), .int (nI ac), .int (nI (af ex)), .int (nI tr), .int (nI 0)])), (pe, .inr (0, [.ref pea, .int (nI P2.2)])), (pea, .inl (ca 0, 12, .inl (fun j => nI (P2.1 j)))), (ou, .inr (0, [.ref oua, .int (nI O'.2)])), (oua, .inl (ca 0, 16, .inl (fun j => nI (O'.1 j))))] H := hP
      have hD : va_D A [(cs, .inl (ca 3, 3, .inr (.inr (.inr (.inr fc))))), (q, .inr (1, [.int (nI y), .ref d, .int (nI st'), .int (nI nx'), .int (nI pa'), .int (nI du'), .int (nI ta')])), (d, .inr (0, [.ref da, .int (nI r'.2)])), (da, .inl (ca 0, 2, .inl (fun j => nI (r'.1 j)))), (h, .inr (2, [.ref ln, .ref pe, .ref ou, .ref cs, .int (nI lk), .int (nI s2), .int (nI ac), .int (nI (af ex)), .int (nI tr), .int (nI 0)])), (pe, .inr (0, [.ref pea, .int (nI P2.2)])), (pea, .inl (ca 0, 12, .inl (fun j => nI (P2.1 j)))), (ou, .inr (0, [.ref oua, .int (nI O'.2)])), (oua, .inl (ca 0, 16, .inl (fun j => nI (O'.1 j))))] := hD
      refine lv_aload_n hx hb dSt_hearCarrier_57 rfl (lv_at hl 1 rfl) ?_
      refine va_get (D := D) (ci := 2) (v := .int (nI s2)) (C := RSt) (T := TSt) (N := 10) hx hb ht inSt hown hE.1 hP 4 rfl rfl 5 (by decide) (ht _ tw_97) (fun _ h => h) rfl dSt_hearCarrier_58 ?_
      refine lv_iload_n hx hb dSt_hearCarrier_61 rfl (lv_at hl 0 rfl) ?_
      refine k_icmp_ne (tgt := 70) hx hb (by omega) (by omega) dSt_hearCarrier_62 rfl (fun h62 => ?_) (fun h62 => ?_)
      · have hP : va_P D cls_ [(h, .inr (2, [.ref ln, .ref pe, .ref ou, .ref cs, .int (nI lk), .int (nI s2), .int (nI ac), .int (nI (af ex)), .int (nI tr), .int (nI 0)])), (pe, .inr (0, [.ref pea, .int (nI P2.2)])), (pea, .inl (ca 0, 12, .inl (fun j => nI (P2.1 j)))), (ou, .inr (0, [.ref oua, .int (nI O'.2)])), (oua, .inl (ca 0, 16, .inl (fun j => nI (O'.1 j)))), (cs, .inl (ca 3, 3, .inr (.inr (.inr (.inr fc))))), (q, .inr (1, [.int (nI y), .ref d, .int (nI st'), .int (nI nx'), .int (nI pa'), .int (nI du'), .int (nI ta')])), (d, .inr (0, [.ref da, .int (nI r'.2)])), (da, .inl (ca 0, 2, .inl (fun j => nI (r'.1 j))))] H := hP.sub [4, 5, 6, 7, 8, 0, 1, 2, 3] rfl
        have hD : va_D A [(h, .inr (2, [.ref ln, .ref pe, .ref ou, .ref cs, .int (nI lk), .int (nI s2), .int (nI ac), .int (nI (af ex)), .int (nI tr), .int (nI 0)])), (pe, .inr (0, [.ref pea, .int (nI P2.2)])), (pea, .inl (ca 0, 12, .inl (fun j => nI (P2.1 j)))), (ou, .inr (0, [.ref oua, .int (nI O'.2)])), (oua, .inl (ca 0, 16, .inl (fun j => nI (O'.1 j)))), (cs, .inl (ca 3, 3, .inr (.inr (.inr (.inr fc))))), (q, .inr (1, [.int (nI y), .ref d, .int (nI st'), .int (nI nx'), .int (nI pa'), .int (nI du'), .int (nI ta')])), (d, .inr (0, [.ref da, .int (nI r'.2)])), (da, .inl (ca 0, 2, .inl (fun j => nI (r'.1 j))))] := hD.sub [4, 5, 6, 7, 8, 0, 1, 2, 3] rfl rfl
        have e8 : sReady lk sn sn' ac (af ex) O' P' = (s2, P2) := by rw [sReady, if_pos (by omega), hpm, if_neg (by show ¬ s2 = sn; omega)]
        have e9 : sCarr lk sn ac ex rj O P y k f = ((s2, af ex, 0), O', (st', nx', pa', du', ta', r'), P2) := by
          rw [sCarr, if_pos (by omega), kAns, hres]
          show sCarr2 lk sn ac ex _ (sHear lk sn ac (af ex) O P rk (pChan (fPack f))) = _
          rw [hres2]
          show (((sReady lk sn sn' ac (af ex) O' P').1, af ex, 0), O', (st', nx', pa', du', ta', r'), (sReady lk sn sn' ac (af ex) O' P').2) = _
          rw [e8]
        rw [e9] at hres0
        simp only [Prod.mk.injEq] at hres0
        obtain ⟨⟨rfl, rfl, rfl⟩, rfl, rfl, rfl⟩ := hres0
        exact Co.retv hx hb hret hlk dSt_hearCarrier_70 hS hP hD () rfl trivial rfl (Nat.le_of_ble_eq_true rfl) (Nat.le_of_ble_eq_true rfl)
      · refine lv_aload_n hx hb dSt_hearCarrier_65 rfl (lv_at hl 1 rfl) ?_
        refine lv_iconst (v := nI 4) hx hb dSt_hearCarrier_66 (by decide) ?_
        refine kV (rV fx (c_St_sendAcknowledging l D ca h ln pe ou cs lk s2 ac (af ex) tr 0 pea P2 4 (by omega) (by omega) (by first | assumption | exact rAdd_le (by assumption) | exact cPump_le (by assumption) | exact cAgain_le (by assumption) | exact cPump_le (cAgain_le (by assumption)) | omega)) ⟨callB_of 1 hts (tb_gi tw_368) rfl rfl rfl (ht _ tw_3) (ht _ tw_365) (by decide +kernel) ⟨(Nat.le_of_ble_eq_true rfl), (Nat.le_of_ble_eq_true rfl)⟩, ht _ tw_367, ht _ tw_838⟩ hE hP hD 4 rfl rfl rfl [4, 5, 6] rfl rfl rfl hl.1 rfl (Nat.le_of_ble_eq_true rfl) dSt_hearCarrier_67 ⟨(Nat.le_of_ble_eq_true rfl), (Nat.le_of_ble_eq_true rfl)⟩) hP hD hS hA [4, 5, 6] [0, 1, 2, 3, 7, 8] rfl rfl rfl (by decide) (fun _ H locs _ hP hD hS => ?_)
        have hP : va_P D cls_ [(cs, .inl (ca 3, 3, .inr (.inr (.inr (.inr fc))))), (q, .inr (1, [.int (nI y), .ref d, .int (nI st'), .int (nI nx'), .int (nI pa'), .int (nI du'), .int (nI ta')])), (d, .inr (0, [.ref da, .int (nI r'.2)])), (da, .inl (ca 0, 2, .inl (fun j => nI (r'.1 j)))), (ou, .inr (0, [.ref oua, .int (nI O'.2)])), (oua, .inl (ca 0, 16, .inl (fun j => nI (O'.1 j)))), (h, .inr (2, [.ref ln, .ref pe, .ref ou, .ref cs, .int (nI lk), .int (nI s2), .int (nI ac), .int (nI (af ex)), .int (nI tr), .int (nI 0)])), (pe, .inr (0, [.ref pea, .int (nI ((rAdd 12 P2 (fr4 4 0 (af ex) 0)).2))])), (pea, .inl (ca 0, 12, .inl (fun j => nI (((rAdd 12 P2 (fr4 4 0 (af ex) 0)).1) j))))] H := hP
        have hD : va_D A [(cs, .inl (ca 3, 3, .inr (.inr (.inr (.inr fc))))), (q, .inr (1, [.int (nI y), .ref d, .int (nI st'), .int (nI nx'), .int (nI pa'), .int (nI du'), .int (nI ta')])), (d, .inr (0, [.ref da, .int (nI r'.2)])), (da, .inl (ca 0, 2, .inl (fun j => nI (r'.1 j)))), (ou, .inr (0, [.ref oua, .int (nI O'.2)])), (oua, .inl (ca 0, 16, .inl (fun j => nI (O'.1 j)))), (h, .inr (2, [.ref ln, .ref pe, .ref ou, .ref cs, .int (nI lk), .int (nI s2), .int (nI ac), .int (nI (af ex)), .int (nI tr), .int (nI 0)])), (pe, .inr (0, [.ref pea, .int (nI ((rAdd 12 P2 (fr4 4 0 (af ex) 0)).2))])), (pea, .inl (ca 0, 12, .inl (fun j => nI (((rAdd 12 P2 (fr4 4 0 (af ex) 0)).1) j))))] := hD
        have hP : va_P D cls_ [(h, .inr (2, [.ref ln, .ref pe, .ref ou, .ref cs, .int (nI lk), .int (nI s2), .int (nI ac), .int (nI (af ex)), .int (nI tr), .int (nI 0)])), (pe, .inr (0, [.ref pea, .int (nI ((rAdd 12 P2 (fr4 4 0 (af ex) 0)).2))])), (pea, .inl (ca 0, 12, .inl (fun j => nI (((rAdd 12 P2 (fr4 4 0 (af ex) 0)).1) j)))), (ou, .inr (0, [.ref oua, .int (nI O'.2)])), (oua, .inl (ca 0, 16, .inl (fun j => nI (O'.1 j)))), (cs, .inl (ca 3, 3, .inr (.inr (.inr (.inr fc))))), (q, .inr (1, [.int (nI y), .ref d, .int (nI st'), .int (nI nx'), .int (nI pa'), .int (nI du'), .int (nI ta')])), (d, .inr (0, [.ref da, .int (nI r'.2)])), (da, .inl (ca 0, 2, .inl (fun j => nI (r'.1 j))))] H := hP.sub [6, 7, 8, 4, 5, 0, 1, 2, 3] rfl
        have hD : va_D A [(h, .inr (2, [.ref ln, .ref pe, .ref ou, .ref cs, .int (nI lk), .int (nI s2), .int (nI ac), .int (nI (af ex)), .int (nI tr), .int (nI 0)])), (pe, .inr (0, [.ref pea, .int (nI ((rAdd 12 P2 (fr4 4 0 (af ex) 0)).2))])), (pea, .inl (ca 0, 12, .inl (fun j => nI (((rAdd 12 P2 (fr4 4 0 (af ex) 0)).1) j)))), (ou, .inr (0, [.ref oua, .int (nI O'.2)])), (oua, .inl (ca 0, 16, .inl (fun j => nI (O'.1 j)))), (cs, .inl (ca 3, 3, .inr (.inr (.inr (.inr fc))))), (q, .inr (1, [.int (nI y), .ref d, .int (nI st'), .int (nI nx'), .int (nI pa'), .int (nI du'), .int (nI ta')])), (d, .inr (0, [.ref da, .int (nI r'.2)])), (da, .inl (ca 0, 2, .inl (fun j => nI (r'.1 j))))] := hD.sub [6, 7, 8, 4, 5, 0, 1, 2, 3] rfl rfl
        have e8 : sReady lk sn sn' ac (af ex) O' P' = (s2, rAdd 12 P2 (fr4 4 0 (af ex) 0)) := by rw [sReady, if_pos (by omega), hpm, if_pos (by show s2 = sn; omega)]
        have e9 : sCarr lk sn ac ex rj O P y k f = ((s2, af ex, 0), O', (st', nx', pa', du', ta', r'), rAdd 12 P2 (fr4 4 0 (af ex) 0)) := by
          rw [sCarr, if_pos (by omega), kAns, hres]
          show sCarr2 lk sn ac ex _ (sHear lk sn ac (af ex) O P rk (pChan (fPack f))) = _
          rw [hres2]
          show (((sReady lk sn sn' ac (af ex) O' P').1, af ex, 0), O', (st', nx', pa', du', ta', r'), (sReady lk sn sn' ac (af ex) O' P').2) = _
          rw [e8]
        rw [e9] at hres0
        simp only [Prod.mk.injEq] at hres0
        obtain ⟨⟨rfl, rfl, rfl⟩, rfl, rfl, rfl⟩ := hres0
        exact Co.retv hx hb hret hlk dSt_hearCarrier_70 hS hP hD () rfl trivial rfl (Nat.le_of_ble_eq_true rfl) (Nat.le_of_ble_eq_true rfl)
  · refine lv_aload_n hx hb dSt_hearCarrier_11 rfl (lv_at hl 0 rfl) ?_
    refine kV (rV fx (c_St_rejectOnce l D ca h ln pe ou cs lk sn ac ex tr rj pea P (sRej rj ex P).1 (sRej rj ex P).2 (by omega) (by omega) (by first | assumption | exact rAdd_le (by assumption) | exact cPump_le (by assumption) | exact cAgain_le (by assumption) | exact cPump_le (cAgain_le (by assumption)) | omega) rfl) ⟨callB_of 0 hts (tb_gi tw_364) rfl rfl rfl (ht _ tw_3) (ht _ tw_361) (by decide +kernel) ⟨(Nat.le_of_ble_eq_true rfl), (Nat.le_of_ble_eq_true rfl)⟩, ht _ tw_363, ht _ tw_837⟩ hE hP hD 0 rfl rfl rfl [0, 1, 2] rfl rfl rfl hl.1 rfl (Nat.le_of_ble_eq_true rfl) dSt_hearCarrier_12 ⟨(Nat.le_of_ble_eq_true rfl), (Nat.le_of_ble_eq_true rfl)⟩) hP hD hS hA [0, 1, 2] [3, 4, 5, 6, 7, 8] rfl rfl rfl (by decide) (fun _ H locs _ hP hD hS => ?_)
    have hP : va_P D cls_ [(ou, .inr (0, [.ref oua, .int (nI O.2)])), (oua, .inl (ca 0, 16, .inl (fun j => nI (O.1 j)))), (cs, .inl (ca 3, 3, .inr (.inr (.inr (.inr fc))))), (q, .inr (1, [.int (nI y), .ref d, .int (nI k.1), .int (nI k.2.1), .int (nI k.2.2.1), .int (nI k.2.2.2.1), .int (nI k.2.2.2.2.1)])), (d, .inr (0, [.ref da, .int (nI ((k.2.2.2.2.2).2))])), (da, .inl (ca 0, 2, .inl (fun j => nI (((k.2.2.2.2.2).1) j)))), (h, .inr (2, [.ref ln, .ref pe, .ref ou, .ref cs, .int (nI lk), .int (nI sn), .int (nI ac), .int (nI ex), .int (nI tr), .int (nI ((sRej rj ex P).1))])), (pe, .inr (0, [.ref pea, .int (nI (((sRej rj ex P).2).2))])), (pea, .inl (ca 0, 12, .inl (fun j => nI ((((sRej rj ex P).2).1) j))))] H := hP
    have hD : va_D A [(ou, .inr (0, [.ref oua, .int (nI O.2)])), (oua, .inl (ca 0, 16, .inl (fun j => nI (O.1 j)))), (cs, .inl (ca 3, 3, .inr (.inr (.inr (.inr fc))))), (q, .inr (1, [.int (nI y), .ref d, .int (nI k.1), .int (nI k.2.1), .int (nI k.2.2.1), .int (nI k.2.2.2.1), .int (nI k.2.2.2.2.1)])), (d, .inr (0, [.ref da, .int (nI ((k.2.2.2.2.2).2))])), (da, .inl (ca 0, 2, .inl (fun j => nI (((k.2.2.2.2.2).1) j)))), (h, .inr (2, [.ref ln, .ref pe, .ref ou, .ref cs, .int (nI lk), .int (nI sn), .int (nI ac), .int (nI ex), .int (nI tr), .int (nI ((sRej rj ex P).1))])), (pe, .inr (0, [.ref pea, .int (nI (((sRej rj ex P).2).2))])), (pea, .inl (ca 0, 12, .inl (fun j => nI ((((sRej rj ex P).2).1) j))))] := hD
    have hP : va_P D cls_ [(h, .inr (2, [.ref ln, .ref pe, .ref ou, .ref cs, .int (nI lk), .int (nI sn), .int (nI ac), .int (nI ex), .int (nI tr), .int (nI ((sRej rj ex P).1))])), (pe, .inr (0, [.ref pea, .int (nI (((sRej rj ex P).2).2))])), (pea, .inl (ca 0, 12, .inl (fun j => nI ((((sRej rj ex P).2).1) j)))), (ou, .inr (0, [.ref oua, .int (nI O.2)])), (oua, .inl (ca 0, 16, .inl (fun j => nI (O.1 j)))), (cs, .inl (ca 3, 3, .inr (.inr (.inr (.inr fc))))), (q, .inr (1, [.int (nI y), .ref d, .int (nI k.1), .int (nI k.2.1), .int (nI k.2.2.1), .int (nI k.2.2.2.1), .int (nI k.2.2.2.2.1)])), (d, .inr (0, [.ref da, .int (nI ((k.2.2.2.2.2).2))])), (da, .inl (ca 0, 2, .inl (fun j => nI (((k.2.2.2.2.2).1) j))))] H := hP.sub [6, 7, 8, 0, 1, 2, 3, 4, 5] rfl
    have hD : va_D A [(h, .inr (2, [.ref ln, .ref pe, .ref ou, .ref cs, .int (nI lk), .int (nI sn), .int (nI ac), .int (nI ex), .int (nI tr), .int (nI ((sRej rj ex P).1))])), (pe, .inr (0, [.ref pea, .int (nI (((sRej rj ex P).2).2))])), (pea, .inl (ca 0, 12, .inl (fun j => nI ((((sRej rj ex P).2).1) j)))), (ou, .inr (0, [.ref oua, .int (nI O.2)])), (oua, .inl (ca 0, 16, .inl (fun j => nI (O.1 j)))), (cs, .inl (ca 3, 3, .inr (.inr (.inr (.inr fc))))), (q, .inr (1, [.int (nI y), .ref d, .int (nI k.1), .int (nI k.2.1), .int (nI k.2.2.1), .int (nI k.2.2.2.1), .int (nI k.2.2.2.2.1)])), (d, .inr (0, [.ref da, .int (nI ((k.2.2.2.2.2).2))])), (da, .inl (ca 0, 2, .inl (fun j => nI (((k.2.2.2.2.2).1) j))))] := hD.sub [6, 7, 8, 0, 1, 2, 3, 4, 5] rfl rfl
    have e9 : sCarr lk sn ac ex rj O P y k f = ((sn, ex, (sRej rj ex P).1), O, k, (sRej rj ex P).2) := if_neg (by omega)
    rw [e9] at hres0
    simp only [Prod.mk.injEq] at hres0
    obtain ⟨⟨rfl, rfl, rfl⟩, rfl, rfl, rfl⟩ := hres0
    exact Co.retv hx hb hret hlk dSt_hearCarrier_15 hS hP hD () rfl trivial rfl (Nat.le_of_ble_eq_true rfl) (Nat.le_of_ble_eq_true rfl)
set_option maxHeartbeats 4000000 in
set_option maxRecDepth 100000 in
theorem c_St_hearFrame (l : Launch) (D : va_G) (ca : Nat → ClassId) (h ln pe ou cs lk sn ac ex tr rj : Nat) (pea oua : Nat) (O P : Rw_) (q0 d0 a0 q1 d1 a1 q2 d2 a2 y : Nat) (fc : Nat → Option Nat) (K : Nat → Cn_) (hq0 : fc 0 = some q0) (hq1 : fc 1 = some q1) (hq2 : fc 2 = some q2) (f : Nat) (hlk2 : lk < 3) (hsn : sn < 8) (hac : ac < 8) (hex : ex < 8) (hO : oOk O) (hP1 : P.2 ≤ 12) (hrj : rj < 2) (hf : f < 2 ^ 31) (hy : y < 2) (hK : ∀ c, c < 3 → kOk (K c)) (hun : ds ac sn ≤ O.2) (hcn : fKind f = 3 → pChan (fPack f) < 3) : Co (S := Unit) l ySt_hearFrame (Cond.code ySt_hearFrame cSt_hearFrame 3 none :: tb_) { frames := 5, cells := 0, slots := 0, locals := 160 } D ca [.ref h, .int (nI f)] [(h, .inr (2, [.ref ln, .ref pe, .ref ou, .ref cs, .int (nI lk), .int (nI sn), .int (nI ac), .int (nI ex), .int (nI tr), .int (nI rj)])), (pe, .inr (0, [.ref pea, .int (nI P.2)])), (pea, .inl (ca 0, 12, .inl (fun j => nI (P.1 j)))), (ou, .inr (0, [.ref oua, .int (nI O.2)])), (oua, .inl (ca 0, 16, .inl (fun j => nI (O.1 j)))), (cs, .inl (ca 3, 3, .inr (.inr (.inr (.inr fc))))), (q0, .inr (1, [.int (nI y), .ref d0, .int (nI ((K 0).1)), .int (nI ((K 0).2.1)), .int (nI ((K 0).2.2.1)), .int (nI ((K 0).2.2.2.1)), .int (nI ((K 0).2.2.2.2.1))])), (d0, .inr (0, [.ref a0, .int (nI (((K 0).2.2.2.2.2).2))])), (a0, .inl (ca 0, 2, .inl (fun j => nI ((((K 0).2.2.2.2.2).1) j)))), (q1, .inr (1, [.int (nI y), .ref d1, .int (nI ((K 1).1)), .int (nI ((K 1).2.1)), .int (nI ((K 1).2.2.1)), .int (nI ((K 1).2.2.2.1)), .int (nI ((K 1).2.2.2.2.1))])), (d1, .inr (0, [.ref a1, .int (nI (((K 1).2.2.2.2.2).2))])), (a1, .inl (ca 0, 2, .inl (fun j => nI ((((K 1).2.2.2.2.2).1) j)))), (q2, .inr (1, [.int (nI y), .ref d2, .int (nI ((K 2).1)), .int (nI ((K 2).2.1)), .int (nI ((K 2).2.2.1)), .int (nI ((K 2).2.2.2.1)), .int (nI ((K 2).2.2.2.2.1))])), (d2, .inr (0, [.ref a2, .int (nI (((K 2).2.2.2.2.2).2))])), (a2, .inl (ca 0, 2, .inl (fun j => nI ((((K 2).2.2.2.2.2).1) j))))] (fun _ => none) (fun _ => True) (fun _ => [(h, .inr (2, [.ref ln, .ref pe, .ref ou, .ref cs, .int (nI ((sFrame y lk sn ac ex tr rj O K P f).1.1)), .int (nI ((sFrame y lk sn ac ex tr rj O K P f).1.2.1)), .int (nI ((sFrame y lk sn ac ex tr rj O K P f).1.2.2.1)), .int (nI ((sFrame y lk sn ac ex tr rj O K P f).1.2.2.2.1)), .int (nI ((sFrame y lk sn ac ex tr rj O K P f).1.2.2.2.2.1)), .int (nI ((sFrame y lk sn ac ex tr rj O K P f).1.2.2.2.2.2))])), (pe, .inr (0, [.ref pea, .int (nI (((sFrame y lk sn ac ex tr rj O K P f).2.2.2).2))])), (pea, .inl (ca 0, 12, .inl (fun j => nI ((((sFrame y lk sn ac ex tr rj O K P f).2.2.2).1) j)))), (ou, .inr (0, [.ref oua, .int (nI (((sFrame y lk sn ac ex tr rj O K P f).2.1).2))])), (oua, .inl (ca 0, 16, .inl (fun j => nI ((((sFrame y lk sn ac ex tr rj O K P f).2.1).1) j)))), (cs, .inl (ca 3, 3, .inr (.inr (.inr (.inr fc))))), (q0, .inr (1, [.int (nI y), .ref d0, .int (nI ((((sFrame y lk sn ac ex tr rj O K P f).2.2.1) 0).1)), .int (nI ((((sFrame y lk sn ac ex tr rj O K P f).2.2.1) 0).2.1)), .int (nI ((((sFrame y lk sn ac ex tr rj O K P f).2.2.1) 0).2.2.1)), .int (nI ((((sFrame y lk sn ac ex tr rj O K P f).2.2.1) 0).2.2.2.1)), .int (nI ((((sFrame y lk sn ac ex tr rj O K P f).2.2.1) 0).2.2.2.2.1))])), (d0, .inr (0, [.ref a0, .int (nI (((((sFrame y lk sn ac ex tr rj O K P f).2.2.1) 0).2.2.2.2.2).2))])), (a0, .inl (ca 0, 2, .inl (fun j => nI ((((((sFrame y lk sn ac ex tr rj O K P f).2.2.1) 0).2.2.2.2.2).1) j)))), (q1, .inr (1, [.int (nI y), .ref d1, .int (nI ((((sFrame y lk sn ac ex tr rj O K P f).2.2.1) 1).1)), .int (nI ((((sFrame y lk sn ac ex tr rj O K P f).2.2.1) 1).2.1)), .int (nI ((((sFrame y lk sn ac ex tr rj O K P f).2.2.1) 1).2.2.1)), .int (nI ((((sFrame y lk sn ac ex tr rj O K P f).2.2.1) 1).2.2.2.1)), .int (nI ((((sFrame y lk sn ac ex tr rj O K P f).2.2.1) 1).2.2.2.2.1))])), (d1, .inr (0, [.ref a1, .int (nI (((((sFrame y lk sn ac ex tr rj O K P f).2.2.1) 1).2.2.2.2.2).2))])), (a1, .inl (ca 0, 2, .inl (fun j => nI ((((((sFrame y lk sn ac ex tr rj O K P f).2.2.1) 1).2.2.2.2.2).1) j)))), (q2, .inr (1, [.int (nI y), .ref d2, .int (nI ((((sFrame y lk sn ac ex tr rj O K P f).2.2.1) 2).1)), .int (nI ((((sFrame y lk sn ac ex tr rj O K P f).2.2.1) 2).2.1)), .int (nI ((((sFrame y lk sn ac ex tr rj O K P f).2.2.1) 2).2.2.1)), .int (nI ((((sFrame y lk sn ac ex tr rj O K P f).2.2.1) 2).2.2.2.1)), .int (nI ((((sFrame y lk sn ac ex tr rj O K P f).2.2.1) 2).2.2.2.2.1))])), (d2, .inr (0, [.ref a2, .int (nI (((((sFrame y lk sn ac ex tr rj O K P f).2.2.1) 2).2.2.2.2.2).2))])), (a2, .inl (ca 0, 2, .inl (fun j => nI ((((((sFrame y lk sn ac ex tr rj O K P f).2.2.1) 2).2.2.2.2.2).1) j))))]) 0 0 := by
  refine Co.of cSt_hearFrame 3 none (by decide) (Nat.le_of_ble_eq_true rfl) ?_
  intro p e s m args below meth c A ls fx hret hlk hin hE hP hD hS hA hl
  have hx := fx.1
  have hb := fx.2.1
  have hown : s.vm.findClass RSt = some m.cls := fx.2.2.2.1
  have hts := fx.2.2.2.2
  have ht : ∀ w ∈ tb_, w.before args s = true := fun w h => hts w (List.mem_cons_of_mem _ h)
  have hf1 : fKind f < 8 := Nat.mod_lt _ (by decide)
  have hf2 : fAckn f < 8 := Nat.mod_lt _ (by decide)
  have hO1 := hO.1
  have b1 := ds_lt ac sn
  obtain ⟨ac', tr', O', hcf⟩ : ∃ ac' tr' O', sConf sn ac (fAckn f) tr O = (ac', tr', O') := ⟨_, _, _, rfl⟩
  obtain ⟨hac', hO', hun'⟩ := sConf_keep hO hsn hac hf2 hun hcf
  have hl : lv_has ls 3 [(0, .ref h), (1, .int (nI f))] := hl
  refine lv_iload_n hx hb dSt_hearFrame_0 rfl (lv_at hl 1 rfl) ?_
  refine kI (rSN fx (c_Fr_kindOf l D ca f (by omega)) ⟨va_cnB 1 hts (tb_gi tw_334) rfl rfl rfl (hE.nest tw_332 rfl) (ht _ tw_10) (by decide +kernel) ⟨(Nat.le_of_ble_eq_true rfl), (Nat.le_of_ble_eq_true rfl)⟩, ht _ tw_333, trivial⟩ hE hP hD [] rfl rfl rfl hl.1 rfl (Nat.le_of_ble_eq_true rfl) dSt_hearFrame_1 ⟨(Nat.le_of_ble_eq_true rfl), (Nat.le_of_ble_eq_true rfl)⟩) hP hD hS hA [] [0, 1, 2, 3, 4, 5, 6, 7, 8, 9, 10, 11, 12, 13, 14] rfl rfl rfl (by decide) (fun _ H locs _ hP hD hS => ?_)
  have hP : va_P D cls_ [(h, .inr (2, [.ref ln, .ref pe, .ref ou, .ref cs, .int (nI lk), .int (nI sn), .int (nI ac), .int (nI ex), .int (nI tr), .int (nI rj)])), (pe, .inr (0, [.ref pea, .int (nI P.2)])), (pea, .inl (ca 0, 12, .inl (fun j => nI (P.1 j)))), (ou, .inr (0, [.ref oua, .int (nI O.2)])), (oua, .inl (ca 0, 16, .inl (fun j => nI (O.1 j)))), (cs, .inl (ca 3, 3, .inr (.inr (.inr (.inr fc))))), (q0, .inr (1, [.int (nI y), .ref d0, .int (nI ((K 0).1)), .int (nI ((K 0).2.1)), .int (nI ((K 0).2.2.1)), .int (nI ((K 0).2.2.2.1)), .int (nI ((K 0).2.2.2.2.1))])), (d0, .inr (0, [.ref a0, .int (nI (((K 0).2.2.2.2.2).2))])), (a0, .inl (ca 0, 2, .inl (fun j => nI ((((K 0).2.2.2.2.2).1) j)))), (q1, .inr (1, [.int (nI y), .ref d1, .int (nI ((K 1).1)), .int (nI ((K 1).2.1)), .int (nI ((K 1).2.2.1)), .int (nI ((K 1).2.2.2.1)), .int (nI ((K 1).2.2.2.2.1))])), (d1, .inr (0, [.ref a1, .int (nI (((K 1).2.2.2.2.2).2))])), (a1, .inl (ca 0, 2, .inl (fun j => nI ((((K 1).2.2.2.2.2).1) j)))), (q2, .inr (1, [.int (nI y), .ref d2, .int (nI ((K 2).1)), .int (nI ((K 2).2.1)), .int (nI ((K 2).2.2.1)), .int (nI ((K 2).2.2.2.1)), .int (nI ((K 2).2.2.2.2.1))])), (d2, .inr (0, [.ref a2, .int (nI (((K 2).2.2.2.2.2).2))])), (a2, .inl (ca 0, 2, .inl (fun j => nI ((((K 2).2.2.2.2.2).1) j))))] H := hP
  have hD : va_D A [(h, .inr (2, [.ref ln, .ref pe, .ref ou, .ref cs, .int (nI lk), .int (nI sn), .int (nI ac), .int (nI ex), .int (nI tr), .int (nI rj)])), (pe, .inr (0, [.ref pea, .int (nI P.2)])), (pea, .inl (ca 0, 12, .inl (fun j => nI (P.1 j)))), (ou, .inr (0, [.ref oua, .int (nI O.2)])), (oua, .inl (ca 0, 16, .inl (fun j => nI (O.1 j)))), (cs, .inl (ca 3, 3, .inr (.inr (.inr (.inr fc))))), (q0, .inr (1, [.int (nI y), .ref d0, .int (nI ((K 0).1)), .int (nI ((K 0).2.1)), .int (nI ((K 0).2.2.1)), .int (nI ((K 0).2.2.2.1)), .int (nI ((K 0).2.2.2.2.1))])), (d0, .inr (0, [.ref a0, .int (nI (((K 0).2.2.2.2.2).2))])), (a0, .inl (ca 0, 2, .inl (fun j => nI ((((K 0).2.2.2.2.2).1) j)))), (q1, .inr (1, [.int (nI y), .ref d1, .int (nI ((K 1).1)), .int (nI ((K 1).2.1)), .int (nI ((K 1).2.2.1)), .int (nI ((K 1).2.2.2.1)), .int (nI ((K 1).2.2.2.2.1))])), (d1, .inr (0, [.ref a1, .int (nI (((K 1).2.2.2.2.2).2))])), (a1, .inl (ca 0, 2, .inl (fun j => nI ((((K 1).2.2.2.2.2).1) j)))), (q2, .inr (1, [.int (nI y), .ref d2, .int (nI ((K 2).1)), .int (nI ((K 2).2.1)), .int (nI ((K 2).2.2.1)), .int (nI ((K 2).2.2.2.1)), .int (nI ((K 2).2.2.2.2.1))])), (d2, .inr (0, [.ref a2, .int (nI (((K 2).2.2.2.2.2).2))])), (a2, .inl (ca 0, 2, .inl (fun j => nI ((((K 2).2.2.2.2.2).1) j))))] := hD
  refine lv_istore_n hx hb dSt_hearFrame_4 rfl hl (by decide) rfl (fun ls hl => ?_)
  have hl : lv_has ls 3 [(2, .int (nI (fKind f))), (0, .ref h), (1, .int (nI f))] := hl
  refine lv_iload_n hx hb dSt_hearFrame_5 rfl (lv_at hl 0 rfl) ?_
  refine lv_iconst (v := nI 1) hx hb dSt_hearFrame_6 (by decide) ?_
  refine k_icmp_ne (tgt := 17) hx hb (by omega) (by omega) dSt_hearFrame_7 rfl (fun h7 => ?_) (fun h7 => ?_)
  · refine lv_iload_n hx hb dSt_hearFrame_17 rfl (lv_at hl 0 rfl) ?_
    refine lv_iconst (v := nI 2) hx hb dSt_hearFrame_18 (by decide) ?_
    refine k_icmp_ne (tgt := 29) hx hb (by omega) (by omega) dSt_hearFrame_19 rfl (fun h19 => ?_) (fun h19 => ?_)
    · refine lv_aload_n hx hb dSt_hearFrame_29 rfl (lv_at hl 1 rfl) ?_
      refine va_get (D := D) (ci := 2) (v := .int (nI lk)) (C := RSt) (T := TSt) (N := 10) hx hb ht inSt hown hE.1 hP 0 rfl rfl 4 (by decide) (ht _ tw_95) (fun _ h => h) rfl dSt_hearFrame_30 ?_
      refine lv_iconst (v := nI 2) hx hb dSt_hearFrame_33 (by decide) ?_
      refine k_icmp_ne (tgt := 78) hx hb (by omega) (by omega) dSt_hearFrame_34 rfl (fun h34 => ?_) (fun h34 => ?_)
      · have e9 : sFrame y lk sn ac ex tr rj O K P f = ((lk, sn, ac, ex, tr, rj), O, K, P) := (if_neg (by omega)).trans ((if_neg (by omega)).trans (if_neg (by omega)))
        exact Co.retv hx hb hret hlk dSt_hearFrame_78 hS hP hD () rfl trivial (by rw [e9]; rfl) (Nat.le_of_ble_eq_true rfl) (Nat.le_of_ble_eq_true rfl)
      · refine lv_aload_n hx hb dSt_hearFrame_37 rfl (lv_at hl 1 rfl) ?_
        refine lv_iload_n hx hb dSt_hearFrame_38 rfl (lv_at hl 2 rfl) ?_
        refine kI (rSN fx (c_Fr_acknowledgementOf l D ca f (by omega)) ⟨va_cnB 1 hts (tb_gi tw_345) rfl rfl rfl (hE.nest tw_343 rfl) (ht _ tw_10) (by decide +kernel) ⟨(Nat.le_of_ble_eq_true rfl), (Nat.le_of_ble_eq_true rfl)⟩, ht _ tw_344, trivial⟩ hE hP hD [] rfl rfl rfl hl.1 rfl (Nat.le_of_ble_eq_true rfl) dSt_hearFrame_39 ⟨(Nat.le_of_ble_eq_true rfl), (Nat.le_of_ble_eq_true rfl)⟩) hP hD hS hA [] [0, 1, 2, 3, 4, 5, 6, 7, 8, 9, 10, 11, 12, 13, 14] rfl rfl rfl (by decide) (fun _ H locs _ hP hD hS => ?_)
        have hP : va_P D cls_ [(h, .inr (2, [.ref ln, .ref pe, .ref ou, .ref cs, .int (nI lk), .int (nI sn), .int (nI ac), .int (nI ex), .int (nI tr), .int (nI rj)])), (pe, .inr (0, [.ref pea, .int (nI P.2)])), (pea, .inl (ca 0, 12, .inl (fun j => nI (P.1 j)))), (ou, .inr (0, [.ref oua, .int (nI O.2)])), (oua, .inl (ca 0, 16, .inl (fun j => nI (O.1 j)))), (cs, .inl (ca 3, 3, .inr (.inr (.inr (.inr fc))))), (q0, .inr (1, [.int (nI y), .ref d0, .int (nI ((K 0).1)), .int (nI ((K 0).2.1)), .int (nI ((K 0).2.2.1)), .int (nI ((K 0).2.2.2.1)), .int (nI ((K 0).2.2.2.2.1))])), (d0, .inr (0, [.ref a0, .int (nI (((K 0).2.2.2.2.2).2))])), (a0, .inl (ca 0, 2, .inl (fun j => nI ((((K 0).2.2.2.2.2).1) j)))), (q1, .inr (1, [.int (nI y), .ref d1, .int (nI ((K 1).1)), .int (nI ((K 1).2.1)), .int (nI ((K 1).2.2.1)), .int (nI ((K 1).2.2.2.1)), .int (nI ((K 1).2.2.2.2.1))])), (d1, .inr (0, [.ref a1, .int (nI (((K 1).2.2.2.2.2).2))])), (a1, .inl (ca 0, 2, .inl (fun j => nI ((((K 1).2.2.2.2.2).1) j)))), (q2, .inr (1, [.int (nI y), .ref d2, .int (nI ((K 2).1)), .int (nI ((K 2).2.1)), .int (nI ((K 2).2.2.1)), .int (nI ((K 2).2.2.2.1)), .int (nI ((K 2).2.2.2.2.1))])), (d2, .inr (0, [.ref a2, .int (nI (((K 2).2.2.2.2.2).2))])), (a2, .inl (ca 0, 2, .inl (fun j => nI ((((K 2).2.2.2.2.2).1) j))))] H := hP
        have hD : va_D A [(h, .inr (2, [.ref ln, .ref pe, .ref ou, .ref cs, .int (nI lk), .int (nI sn), .int (nI ac), .int (nI ex), .int (nI tr), .int (nI rj)])), (pe, .inr (0, [.ref pea, .int (nI P.2)])), (pea, .inl (ca 0, 12, .inl (fun j => nI (P.1 j)))), (ou, .inr (0, [.ref oua, .int (nI O.2)])), (oua, .inl (ca 0, 16, .inl (fun j => nI (O.1 j)))), (cs, .inl (ca 3, 3, .inr (.inr (.inr (.inr fc))))), (q0, .inr (1, [.int (nI y), .ref d0, .int (nI ((K 0).1)), .int (nI ((K 0).2.1)), .int (nI ((K 0).2.2.1)), .int (nI ((K 0).2.2.2.1)), .int (nI ((K 0).2.2.2.2.1))])), (d0, .inr (0, [.ref a0, .int (nI (((K 0).2.2.2.2.2).2))])), (a0, .inl (ca 0, 2, .inl (fun j => nI ((((K 0).2.2.2.2.2).1) j)))), (q1, .inr (1, [.int (nI y), .ref d1, .int (nI ((K 1).1)), .int (nI ((K 1).2.1)), .int (nI ((K 1).2.2.1)), .int (nI ((K 1).2.2.2.1)), .int (nI ((K 1).2.2.2.2.1))])), (d1, .inr (0, [.ref a1, .int (nI (((K 1).2.2.2.2.2).2))])), (a1, .inl (ca 0, 2, .inl (fun j => nI ((((K 1).2.2.2.2.2).1) j)))), (q2, .inr (1, [.int (nI y), .ref d2, .int (nI ((K 2).1)), .int (nI ((K 2).2.1)), .int (nI ((K 2).2.2.1)), .int (nI ((K 2).2.2.2.1)), .int (nI ((K 2).2.2.2.2.1))])), (d2, .inr (0, [.ref a2, .int (nI (((K 2).2.2.2.2.2).2))])), (a2, .inl (ca 0, 2, .inl (fun j => nI ((((K 2).2.2.2.2.2).1) j))))] := hD
        refine kV (rV fx (c_St_confirm l D ca h ln pe ou cs lk sn ac ex tr rj oua O (fAckn f) ac' tr' O' (by omega) (by omega) (by omega) (by omega) (by omega) hcf) ⟨callB_of 1 hts (tb_gi tw_349) rfl rfl rfl (ht _ tw_3) (ht _ tw_346) (by decide +kernel) ⟨(Nat.le_of_ble_eq_true rfl), (Nat.le_of_ble_eq_true rfl)⟩, ht _ tw_348, ht _ tw_835⟩ hE hP hD 0 rfl rfl rfl [0, 3, 4] rfl rfl rfl hl.1 rfl (Nat.le_of_ble_eq_true rfl) dSt_hearFrame_42 ⟨(Nat.le_of_ble_eq_true rfl), (Nat.le_of_ble_eq_true rfl)⟩) hP hD hS hA [0, 3, 4] [1, 2, 5, 6, 7, 8, 9, 10, 11, 12, 13, 14] rfl rfl rfl (by decide) (fun _ H locs _ hP hD hS => ?_)
        have hP : va_P D cls_ [(pe, .inr (0, [.ref pea, .int (nI P.2)])), (pea, .inl (ca 0, 12, .inl (fun j => nI (P.1 j)))), (cs, .inl (ca 3, 3, .inr (.inr (.inr (.inr fc))))), (q0, .inr (1, [.int (nI y), .ref d0, .int (nI ((K 0).1)), .int (nI ((K 0).2.1)), .int (nI ((K 0).2.2.1)), .int (nI ((K 0).2.2.2.1)), .int (nI ((K 0).2.2.2.2.1))])), (d0, .inr (0, [.ref a0, .int (nI (((K 0).2.2.2.2.2).2))])), (a0, .inl (ca 0, 2, .inl (fun j => nI ((((K 0).2.2.2.2.2).1) j)))), (q1, .inr (1, [.int (nI y), .ref d1, .int (nI ((K 1).1)), .int (nI ((K 1).2.1)), .int (nI ((K 1).2.2.1)), .int (nI ((K 1).2.2.2.1)), .int (nI ((K 1).2.2.2.2.1))])), (d1, .inr (0, [.ref a1, .int (nI (((K 1).2.2.2.2.2).2))])), (a1, .inl (ca 0, 2, .inl (fun j => nI ((((K 1).2.2.2.2.2).1) j)))), (q2, .inr (1, [.int (nI y), .ref d2, .int (nI ((K 2).1)), .int (nI ((K 2).2.1)), .int (nI ((K 2).2.2.1)), .int (nI ((K 2).2.2.2.1)), .int (nI ((K 2).2.2.2.2.1))])), (d2, .inr (0, [.ref a2, .int (nI (((K 2).2.2.2.2.2).2))])), (a2, .inl (ca 0, 2, .inl (fun j => nI ((((K 2).2.2.2.2.2).1) j)))), (h, .inr (2, [.ref ln, .ref pe, .ref ou, .ref cs, .int (nI lk), .int (nI sn), .int (nI ac'), .int (nI ex), .int (nI tr'), .int (nI rj)])), (ou, .inr (0, [.ref oua, .int (nI O'.2)])), (oua, .inl (ca 0, 16, .inl (fun j => nI (O'.1 j))))] H := hP
        have hD : va_D A [(pe, .inr (0, [.ref pea, .int (nI P.2)])), (pea, .inl (ca 0, 12, .inl (fun j => nI (P.1 j)))), (cs, .inl (ca 3, 3, .inr (.inr (.inr (.inr fc))))), (q0, .inr (1, [.int (nI y), .ref d0, .int (nI ((K 0).1)), .int (nI ((K 0).2.1)), .int (nI ((K 0).2.2.1)), .int (nI ((K 0).2.2.2.1)), .int (nI ((K 0).2.2.2.2.1))])), (d0, .inr (0, [.ref a0, .int (nI (((K 0).2.2.2.2.2).2))])), (a0, .inl (ca 0, 2, .inl (fun j => nI ((((K 0).2.2.2.2.2).1) j)))), (q1, .inr (1, [.int (nI y), .ref d1, .int (nI ((K 1).1)), .int (nI ((K 1).2.1)), .int (nI ((K 1).2.2.1)), .int (nI ((K 1).2.2.2.1)), .int (nI ((K 1).2.2.2.2.1))])), (d1, .inr (0, [.ref a1, .int (nI (((K 1).2.2.2.2.2).2))])), (a1, .inl (ca 0, 2, .inl (fun j => nI ((((K 1).2.2.2.2.2).1) j)))), (q2, .inr (1, [.int (nI y), .ref d2, .int (nI ((K 2).1)), .int (nI ((K 2).2.1)), .int (nI ((K 2).2.2.1)), .int (nI ((K 2).2.2.2.1)), .int (nI ((K 2).2.2.2.2.1))])), (d2, .inr (0, [.ref a2, .int (nI (((K 2).2.2.2.2.2).2))])), (a2, .inl (ca 0, 2, .inl (fun j => nI ((((K 2).2.2.2.2.2).1) j)))), (h, .inr (2, [.ref ln, .ref pe, .ref ou, .ref cs, .int (nI lk), .int (nI sn), .int (nI ac'), .int (nI ex), .int (nI tr'), .int (nI rj)])), (ou, .inr (0, [.ref oua, .int (nI O'.2)])), (oua, .inl (ca 0, 16, .inl (fun j => nI (O'.1 j))))] := hD
        refine lv_iload_n hx hb dSt_hearFrame_45 rfl (lv_at hl 0 rfl) ?_
        refine lv_iconst (v := nI 3) hx hb dSt_hearFrame_46 (by decide) ?_
        refine k_icmp_ne (tgt := 58) hx hb (by omega) (by omega) dSt_hearFrame_47 rfl (fun h47 => ?_) (fun h47 => ?_)
        · refine lv_iload_n hx hb dSt_hearFrame_58 rfl (lv_at hl 0 rfl) ?_
          refine lv_iconst (v := nI 5) hx hb dSt_hearFrame_59 (by decide) ?_
          refine k_icmp_ne (tgt := 74) hx hb (by omega) (by omega) dSt_hearFrame_60 rfl (fun h60 => ?_) (fun h60 => ?_)
          · refine lv_aload_n hx hb dSt_hearFrame_74 rfl (lv_at hl 1 rfl) ?_
            refine kV (rV fx (c_St_pump l D ca h ln pe ou cs lk sn ac' ex tr' rj pea oua O' P (cPump lk sn ac' ex O' P).1 (cPump lk sn ac' ex O' P).2 (by omega) (by first | omega | exact cPump_snd (by omega)) (by omega) (by omega) (by first | assumption | exact oOk.add (by assumption) (by first | omega | exact pk5_lt (by omega) (by omega) (by omega) (by omega) (by omega))) (by first | assumption | exact rAdd_le (by assumption) | exact cPump_le (by assumption) | exact cAgain_le (by assumption) | exact cPump_le (cAgain_le (by assumption)) | omega) rfl) ⟨callB_of 0 hts (tb_gi tw_436) rfl rfl rfl (ht _ tw_3) (ht _ tw_433) (by decide +kernel) ⟨(Nat.le_of_ble_eq_true rfl), (Nat.le_of_ble_eq_true rfl)⟩, ht _ tw_435, ht _ tw_844⟩ hE hP hD 12 rfl rfl rfl [12, 0, 1, 13, 14] rfl rfl rfl hl.1 rfl (Nat.le_of_ble_eq_true rfl) dSt_hearFrame_75 ⟨(Nat.le_of_ble_eq_true rfl), (Nat.le_of_ble_eq_true rfl)⟩) hP hD hS hA [12, 0, 1, 13, 14] [2, 3, 4, 5, 6, 7, 8, 9, 10, 11] rfl rfl rfl (by decide) (fun _ H locs _ hP hD hS => ?_)
            have hP : va_P D cls_ [(cs, .inl (ca 3, 3, .inr (.inr (.inr (.inr fc))))), (q0, .inr (1, [.int (nI y), .ref d0, .int (nI ((K 0).1)), .int (nI ((K 0).2.1)), .int (nI ((K 0).2.2.1)), .int (nI ((K 0).2.2.2.1)), .int (nI ((K 0).2.2.2.2.1))])), (d0, .inr (0, [.ref a0, .int (nI (((K 0).2.2.2.2.2).2))])), (a0, .inl (ca 0, 2, .inl (fun j => nI ((((K 0).2.2.2.2.2).1) j)))), (q1, .inr (1, [.int (nI y), .ref d1, .int (nI ((K 1).1)), .int (nI ((K 1).2.1)), .int (nI ((K 1).2.2.1)), .int (nI ((K 1).2.2.2.1)), .int (nI ((K 1).2.2.2.2.1))])), (d1, .inr (0, [.ref a1, .int (nI (((K 1).2.2.2.2.2).2))])), (a1, .inl (ca 0, 2, .inl (fun j => nI ((((K 1).2.2.2.2.2).1) j)))), (q2, .inr (1, [.int (nI y), .ref d2, .int (nI ((K 2).1)), .int (nI ((K 2).2.1)), .int (nI ((K 2).2.2.1)), .int (nI ((K 2).2.2.2.1)), .int (nI ((K 2).2.2.2.2.1))])), (d2, .inr (0, [.ref a2, .int (nI (((K 2).2.2.2.2.2).2))])), (a2, .inl (ca 0, 2, .inl (fun j => nI ((((K 2).2.2.2.2.2).1) j)))), (h, .inr (2, [.ref ln, .ref pe, .ref ou, .ref cs, .int (nI lk), .int (nI ((cPump lk sn ac' ex O' P).2)), .int (nI ac'), .int (nI ex), .int (nI tr'), .int (nI rj)])), (pe, .inr (0, [.ref pea, .int (nI (((cPump lk sn ac' ex O' P).1).2))])), (pea, .inl (ca 0, 12, .inl (fun j => nI ((((cPump lk sn ac' ex O' P).1).1) j)))), (ou, .inr (0, [.ref oua, .int (nI O'.2)])), (oua, .inl (ca 0, 16, .inl (fun j => nI (O'.1 j))))] H := hP
            have hD : va_D A [(cs, .inl (ca 3, 3, .inr (.inr (.inr (.inr fc))))), (q0, .inr (1, [.int (nI y), .ref d0, .int (nI ((K 0).1)), .int (nI ((K 0).2.1)), .int (nI ((K 0).2.2.1)), .int (nI ((K 0).2.2.2.1)), .int (nI ((K 0).2.2.2.2.1))])), (d0, .inr (0, [.ref a0, .int (nI (((K 0).2.2.2.2.2).2))])), (a0, .inl (ca 0, 2, .inl (fun j => nI ((((K 0).2.2.2.2.2).1) j)))), (q1, .inr (1, [.int (nI y), .ref d1, .int (nI ((K 1).1)), .int (nI ((K 1).2.1)), .int (nI ((K 1).2.2.1)), .int (nI ((K 1).2.2.2.1)), .int (nI ((K 1).2.2.2.2.1))])), (d1, .inr (0, [.ref a1, .int (nI (((K 1).2.2.2.2.2).2))])), (a1, .inl (ca 0, 2, .inl (fun j => nI ((((K 1).2.2.2.2.2).1) j)))), (q2, .inr (1, [.int (nI y), .ref d2, .int (nI ((K 2).1)), .int (nI ((K 2).2.1)), .int (nI ((K 2).2.2.1)), .int (nI ((K 2).2.2.2.1)), .int (nI ((K 2).2.2.2.2.1))])), (d2, .inr (0, [.ref a2, .int (nI (((K 2).2.2.2.2.2).2))])), (a2, .inl (ca 0, 2, .inl (fun j => nI ((((K 2).2.2.2.2.2).1) j)))), (h, .inr (2, [.ref ln, .ref pe, .ref ou, .ref cs, .int (nI lk), .int (nI ((cPump lk sn ac' ex O' P).2)), .int (nI ac'), .int (nI ex), .int (nI tr'), .int (nI rj)])), (pe, .inr (0, [.ref pea, .int (nI (((cPump lk sn ac' ex O' P).1).2))])), (pea, .inl (ca 0, 12, .inl (fun j => nI ((((cPump lk sn ac' ex O' P).1).1) j)))), (ou, .inr (0, [.ref oua, .int (nI O'.2)])), (oua, .inl (ca 0, 16, .inl (fun j => nI (O'.1 j))))] := hD
            have hP : va_P D cls_ [(h, .inr (2, [.ref ln, .ref pe, .ref ou, .ref cs, .int (nI lk), .int (nI ((cPump lk sn ac' ex O' P).2)), .int (nI ac'), .int (nI ex), .int (nI tr'), .int (nI rj)])), (pe, .inr (0, [.ref pea, .int (nI (((cPump lk sn ac' ex O' P).1).2))])), (pea, .inl (ca 0, 12, .inl (fun j => nI ((((cPump lk sn ac' ex O' P).1).1) j)))), (ou, .inr (0, [.ref oua, .int (nI O'.2)])), (oua, .inl (ca 0, 16, .inl (fun j => nI (O'.1 j)))), (cs, .inl (ca 3, 3, .inr (.inr (.inr (.inr fc))))), (q0, .inr (1, [.int (nI y), .ref d0, .int (nI ((K 0).1)), .int (nI ((K 0).2.1)), .int (nI ((K 0).2.2.1)), .int (nI ((K 0).2.2.2.1)), .int (nI ((K 0).2.2.2.2.1))])), (d0, .inr (0, [.ref a0, .int (nI (((K 0).2.2.2.2.2).2))])), (a0, .inl (ca 0, 2, .inl (fun j => nI ((((K 0).2.2.2.2.2).1) j)))), (q1, .inr (1, [.int (nI y), .ref d1, .int (nI ((K 1).1)), .int (nI ((K 1).2.1)), .int (nI ((K 1).2.2.1)), .int (nI ((K 1).2.2.2.1)), .int (nI ((K 1).2.2.2.2.1))])), (d1, .inr (0, [.ref a1, .int (nI (((K 1).2.2.2.2.2).2))])), (a1, .inl (ca 0, 2, .inl (fun j => nI ((((K 1).2.2.2.2.2).1) j)))), (q2, .inr (1, [.int (nI y), .ref d2, .int (nI ((K 2).1)), .int (nI ((K 2).2.1)), .int (nI ((K 2).2.2.1)), .int (nI ((K 2).2.2.2.1)), .int (nI ((K 2).2.2.2.2.1))])), (d2, .inr (0, [.ref a2, .int (nI (((K 2).2.2.2.2.2).2))])), (a2, .inl (ca 0, 2, .inl (fun j => nI ((((K 2).2.2.2.2.2).1) j))))] H := hP.sub [10, 11, 12, 13, 14, 0, 1, 2, 3, 4, 5, 6, 7, 8, 9] rfl
            have hD : va_D A [(h, .inr (2, [.ref ln, .ref pe, .ref ou, .ref cs, .int (nI lk), .int (nI ((cPump lk sn ac' ex O' P).2)), .int (nI ac'), .int (nI ex), .int (nI tr'), .int (nI rj)])), (pe, .inr (0, [.ref pea, .int (nI (((cPump lk sn ac' ex O' P).1).2))])), (pea, .inl (ca 0, 12, .inl (fun j => nI ((((cPump lk sn ac' ex O' P).1).1) j)))), (ou, .inr (0, [.ref oua, .int (nI O'.2)])), (oua, .inl (ca 0, 16, .inl (fun j => nI (O'.1 j)))), (cs, .inl (ca 3, 3, .inr (.inr (.inr (.inr fc))))), (q0, .inr (1, [.int (nI y), .ref d0, .int (nI ((K 0).1)), .int (nI ((K 0).2.1)), .int (nI ((K 0).2.2.1)), .int (nI ((K 0).2.2.2.1)), .int (nI ((K 0).2.2.2.2.1))])), (d0, .inr (0, [.ref a0, .int (nI (((K 0).2.2.2.2.2).2))])), (a0, .inl (ca 0, 2, .inl (fun j => nI ((((K 0).2.2.2.2.2).1) j)))), (q1, .inr (1, [.int (nI y), .ref d1, .int (nI ((K 1).1)), .int (nI ((K 1).2.1)), .int (nI ((K 1).2.2.1)), .int (nI ((K 1).2.2.2.1)), .int (nI ((K 1).2.2.2.2.1))])), (d1, .inr (0, [.ref a1, .int (nI (((K 1).2.2.2.2.2).2))])), (a1, .inl (ca 0, 2, .inl (fun j => nI ((((K 1).2.2.2.2.2).1) j)))), (q2, .inr (1, [.int (nI y), .ref d2, .int (nI ((K 2).1)), .int (nI ((K 2).2.1)), .int (nI ((K 2).2.2.1)), .int (nI ((K 2).2.2.2.1)), .int (nI ((K 2).2.2.2.2.1))])), (d2, .inr (0, [.ref a2, .int (nI (((K 2).2.2.2.2.2).2))])), (a2, .inl (ca 0, 2, .inl (fun j => nI ((((K 2).2.2.2.2.2).1) j))))] := hD.sub [10, 11, 12, 13, 14, 0, 1, 2, 3, 4, 5, 6, 7, 8, 9] rfl rfl
            have e9 : sFrame y lk sn ac ex tr rj O K P f = ((lk, (cPump lk sn ac' ex O' P).2, ac', ex, tr', rj), O', K, (cPump lk sn ac' ex O' P).1) := by
              rw [sFrame, if_neg (by omega), if_neg (by omega), if_pos (by omega), if_neg (by omega), if_neg (by omega), hcf]
              rfl
            exact Co.retv hx hb hret hlk dSt_hearFrame_78 hS hP hD () rfl trivial (by rw [e9]; rfl) (Nat.le_of_ble_eq_true rfl) (Nat.le_of_ble_eq_true rfl)
          · refine lv_aload_n hx hb dSt_hearFrame_63 rfl (lv_at hl 1 rfl) ?_
            refine kV (rV fx (c_St_sendUnconfirmed l D ca h ln pe ou cs lk sn ac' ex tr' rj pea oua O' P (cAgain sn ac' ex O' P) (by omega) (by omega) (by omega) (by omega) (by first | assumption | exact oOk.add (by assumption) (by first | omega | exact pk5_lt (by omega) (by omega) (by omega) (by omega) (by omega))) (by first | assumption | exact rAdd_le (by assumption) | exact cPump_le (by assumption) | exact cAgain_le (by assumption) | exact cPump_le (cAgain_le (by assumption)) | omega) (by assumption) rfl) ⟨callB_of 0 hts (tb_gi tw_282) rfl rfl rfl (ht _ tw_3) (ht _ tw_279) (by decide +kernel) ⟨(Nat.le_of_ble_eq_true rfl), (Nat.le_of_ble_eq_true rfl)⟩, ht _ tw_281, ht _ tw_832⟩ hE hP hD 12 rfl rfl rfl [12, 0, 1, 13, 14] rfl rfl rfl hl.1 rfl (Nat.le_of_ble_eq_true rfl) dSt_hearFrame_64 ⟨(Nat.le_of_ble_eq_true rfl), (Nat.le_of_ble_eq_true rfl)⟩) hP hD hS hA [12, 0, 1, 13, 14] [2, 3, 4, 5, 6, 7, 8, 9, 10, 11] rfl rfl rfl (by decide) (fun _ H locs _ hP hD hS => ?_)
            have hP : va_P D cls_ [(cs, .inl (ca 3, 3, .inr (.inr (.inr (.inr fc))))), (q0, .inr (1, [.int (nI y), .ref d0, .int (nI ((K 0).1)), .int (nI ((K 0).2.1)), .int (nI ((K 0).2.2.1)), .int (nI ((K 0).2.2.2.1)), .int (nI ((K 0).2.2.2.2.1))])), (d0, .inr (0, [.ref a0, .int (nI (((K 0).2.2.2.2.2).2))])), (a0, .inl (ca 0, 2, .inl (fun j => nI ((((K 0).2.2.2.2.2).1) j)))), (q1, .inr (1, [.int (nI y), .ref d1, .int (nI ((K 1).1)), .int (nI ((K 1).2.1)), .int (nI ((K 1).2.2.1)), .int (nI ((K 1).2.2.2.1)), .int (nI ((K 1).2.2.2.2.1))])), (d1, .inr (0, [.ref a1, .int (nI (((K 1).2.2.2.2.2).2))])), (a1, .inl (ca 0, 2, .inl (fun j => nI ((((K 1).2.2.2.2.2).1) j)))), (q2, .inr (1, [.int (nI y), .ref d2, .int (nI ((K 2).1)), .int (nI ((K 2).2.1)), .int (nI ((K 2).2.2.1)), .int (nI ((K 2).2.2.2.1)), .int (nI ((K 2).2.2.2.2.1))])), (d2, .inr (0, [.ref a2, .int (nI (((K 2).2.2.2.2.2).2))])), (a2, .inl (ca 0, 2, .inl (fun j => nI ((((K 2).2.2.2.2.2).1) j)))), (h, .inr (2, [.ref ln, .ref pe, .ref ou, .ref cs, .int (nI lk), .int (nI sn), .int (nI ac'), .int (nI ex), .int (nI tr'), .int (nI rj)])), (pe, .inr (0, [.ref pea, .int (nI ((cAgain sn ac' ex O' P).2))])), (pea, .inl (ca 0, 12, .inl (fun j => nI (((cAgain sn ac' ex O' P).1) j)))), (ou, .inr (0, [.ref oua, .int (nI O'.2)])), (oua, .inl (ca 0, 16, .inl (fun j => nI (O'.1 j))))] H := hP
            have hD : va_D A [(cs, .inl (ca 3, 3, .inr (.inr (.inr (.inr fc))))), (q0, .inr (1, [.int (nI y), .ref d0, .int (nI ((K 0).1)), .int (nI ((K 0).2.1)), .int (nI ((K 0).2.2.1)), .int (nI ((K 0).2.2.2.1)), .int (nI ((K 0).2.2.2.2.1))])), (d0, .inr (0, [.ref a0, .int (nI (((K 0).2.2.2.2.2).2))])), (a0, .inl (ca 0, 2, .inl (fun j => nI ((((K 0).2.2.2.2.2).1) j)))), (q1, .inr (1, [.int (nI y), .ref d1, .int (nI ((K 1).1)), .int (nI ((K 1).2.1)), .int (nI ((K 1).2.2.1)), .int (nI ((K 1).2.2.2.1)), .int (nI ((K 1).2.2.2.2.1))])), (d1, .inr (0, [.ref a1, .int (nI (((K 1).2.2.2.2.2).2))])), (a1, .inl (ca 0, 2, .inl (fun j => nI ((((K 1).2.2.2.2.2).1) j)))), (q2, .inr (1, [.int (nI y), .ref d2, .int (nI ((K 2).1)), .int (nI ((K 2).2.1)), .int (nI ((K 2).2.2.1)), .int (nI ((K 2).2.2.2.1)), .int (nI ((K 2).2.2.2.2.1))])), (d2, .inr (0, [.ref a2, .int (nI (((K 2).2.2.2.2.2).2))])), (a2, .inl (ca 0, 2, .inl (fun j => nI ((((K 2).2.2.2.2.2).1) j)))), (h, .inr (2, [.ref ln, .ref pe, .ref ou, .ref cs, .int (nI lk), .int (nI sn), .int (nI ac'), .int (nI ex), .int (nI tr'), .int (nI rj)])), (pe, .inr (0, [.ref pea, .int (nI ((cAgain sn ac' ex O' P).2))])), (pea, .inl (ca 0, 12, .inl (fun j => nI (((cAgain sn ac' ex O' P).1) j)))), (ou, .inr (0, [.ref oua, .int (nI O'.2)])), (oua, .inl (ca 0, 16, .inl (fun j => nI (O'.1 j))))] := hD
            refine lv_aload_n hx hb dSt_hearFrame_67 rfl (lv_at hl 1 rfl) ?_
            refine kV (rV fx (c_St_pump l D ca h ln pe ou cs lk sn ac' ex tr' rj pea oua O' (cAgain sn ac' ex O' P) (cPump lk sn ac' ex O' (cAgain sn ac' ex O' P)).1 (cPump lk sn ac' ex O' (cAgain sn ac' ex O' P)).2 (by omega) (by first | omega | exact cPump_snd (by omega)) (by omega) (by omega) (by first | assumption | exact oOk.add (by assumption) (by first | omega | exact pk5_lt (by omega) (by omega) (by omega) (by omega) (by omega))) (by first | assumption | exact rAdd_le (by assumption) | exact cPump_le (by assumption) | exact cAgain_le (by assumption) | exact cPump_le (cAgain_le (by assumption)) | omega) rfl) ⟨callB_of 0 hts (tb_gi tw_436) rfl rfl rfl (ht _ tw_3) (ht _ tw_433) (by decide +kernel) ⟨(Nat.le_of_ble_eq_true rfl), (Nat.le_of_ble_eq_true rfl)⟩, ht _ tw_435, ht _ tw_844⟩ hE hP hD 10 rfl rfl rfl [10, 11, 12, 13, 14] rfl rfl rfl hl.1 rfl (Nat.le_of_ble_eq_true rfl) dSt_hearFrame_68 ⟨(Nat.le_of_ble_eq_true rfl), (Nat.le_of_ble_eq_true rfl)⟩) hP hD hS hA [10, 11, 12, 13, 14] [0, 1, 2, 3, 4, 5, 6, 7, 8, 9] rfl rfl rfl (by decide) (fun _ H locs _ hP hD hS => ?_)
            have hP : va_P D cls_ [(cs, .inl (ca 3, 3, .inr (.inr (.inr (.inr fc))))), (q0, .inr (1, [.int (nI y), .ref d0, .int (nI ((K 0).1)), .int (nI ((K 0).2.1)), .int (nI ((K 0).2.2.1)), .int (nI ((K 0).2.2.2.1)), .int (nI ((K 0).2.2.2.2.1))])), (d0, .inr (0, [.ref a0, .int (nI (((K 0).2.2.2.2.2).2))])), (a0, .inl (ca 0, 2, .inl (fun j => nI ((((K 0).2.2.2.2.2).1) j)))), (q1, .inr (1, [.int (nI y), .ref d1, .int (nI ((K 1).1)), .int (nI ((K 1).2.1)), .int (nI ((K 1).2.2.1)), .int (nI ((K 1).2.2.2.1)), .int (nI ((K 1).2.2.2.2.1))])), (d1, .inr (0, [.ref a1, .int (nI (((K 1).2.2.2.2.2).2))])), (a1, .inl (ca 0, 2, .inl (fun j => nI ((((K 1).2.2.2.2.2).1) j)))), (q2, .inr (1, [.int (nI y), .ref d2, .int (nI ((K 2).1)), .int (nI ((K 2).2.1)), .int (nI ((K 2).2.2.1)), .int (nI ((K 2).2.2.2.1)), .int (nI ((K 2).2.2.2.2.1))])), (d2, .inr (0, [.ref a2, .int (nI (((K 2).2.2.2.2.2).2))])), (a2, .inl (ca 0, 2, .inl (fun j => nI ((((K 2).2.2.2.2.2).1) j)))), (h, .inr (2, [.ref ln, .ref pe, .ref ou, .ref cs, .int (nI lk), .int (nI ((cPump lk sn ac' ex O' (cAgain sn ac' ex O' P)).2)), .int (nI ac'), .int (nI ex), .int (nI tr'), .int (nI rj)])), (pe, .inr (0, [.ref pea, .int (nI (((cPump lk sn ac' ex O' (cAgain sn ac' ex O' P)).1).2))])), (pea, .inl (ca 0, 12, .inl (fun j => nI ((((cPump lk sn ac' ex O' (cAgain sn ac' ex O' P)).1).1) j)))), (ou, .inr (0, [.ref oua, .int (nI O'.2)])), (oua, .inl (ca 0, 16, .inl (fun j => nI (O'.1 j))))] H := hP
            have hD : va_D A [(cs, .inl (ca 3, 3, .inr (.inr (.inr (.inr fc))))), (q0, .inr (1, [.int (nI y), .ref d0, .int (nI ((K 0).1)), .int (nI ((K 0).2.1)), .int (nI ((K 0).2.2.1)), .int (nI ((K 0).2.2.2.1)), .int (nI ((K 0).2.2.2.2.1))])), (d0, .inr (0, [.ref a0, .int (nI (((K 0).2.2.2.2.2).2))])), (a0, .inl (ca 0, 2, .inl (fun j => nI ((((K 0).2.2.2.2.2).1) j)))), (q1, .inr (1, [.int (nI y), .ref d1, .int (nI ((K 1).1)), .int (nI ((K 1).2.1)), .int (nI ((K 1).2.2.1)), .int (nI ((K 1).2.2.2.1)), .int (nI ((K 1).2.2.2.2.1))])), (d1, .inr (0, [.ref a1, .int (nI (((K 1).2.2.2.2.2).2))])), (a1, .inl (ca 0, 2, .inl (fun j => nI ((((K 1).2.2.2.2.2).1) j)))), (q2, .inr (1, [.int (nI y), .ref d2, .int (nI ((K 2).1)), .int (nI ((K 2).2.1)), .int (nI ((K 2).2.2.1)), .int (nI ((K 2).2.2.2.1)), .int (nI ((K 2).2.2.2.2.1))])), (d2, .inr (0, [.ref a2, .int (nI (((K 2).2.2.2.2.2).2))])), (a2, .inl (ca 0, 2, .inl (fun j => nI ((((K 2).2.2.2.2.2).1) j)))), (h, .inr (2, [.ref ln, .ref pe, .ref ou, .ref cs, .int (nI lk), .int (nI ((cPump lk sn ac' ex O' (cAgain sn ac' ex O' P)).2)), .int (nI ac'), .int (nI ex), .int (nI tr'), .int (nI rj)])), (pe, .inr (0, [.ref pea, .int (nI (((cPump lk sn ac' ex O' (cAgain sn ac' ex O' P)).1).2))])), (pea, .inl (ca 0, 12, .inl (fun j => nI ((((cPump lk sn ac' ex O' (cAgain sn ac' ex O' P)).1).1) j)))), (ou, .inr (0, [.ref oua, .int (nI O'.2)])), (oua, .inl (ca 0, 16, .inl (fun j => nI (O'.1 j))))] := hD
            refine lv_goto (tgt := 78) hx hb dSt_hearFrame_71 rfl ?_
            have hP : va_P D cls_ [(h, .inr (2, [.ref ln, .ref pe, .ref ou, .ref cs, .int (nI lk), .int (nI ((cPump lk sn ac' ex O' (cAgain sn ac' ex O' P)).2)), .int (nI ac'), .int (nI ex), .int (nI tr'), .int (nI rj)])), (pe, .inr (0, [.ref pea, .int (nI (((cPump lk sn ac' ex O' (cAgain sn ac' ex O' P)).1).2))])), (pea, .inl (ca 0, 12, .inl (fun j => nI ((((cPump lk sn ac' ex O' (cAgain sn ac' ex O' P)).1).1) j)))), (ou, .inr (0, [.ref oua, .int (nI O'.2)])), (oua, .inl (ca 0, 16, .inl (fun j => nI (O'.1 j)))), (cs, .inl (ca 3, 3, .inr (.inr (.inr (.inr fc))))), (q0, .inr (1, [.int (nI y), .ref d0, .int (nI ((K 0).1)), .int (nI ((K 0).2.1)), .int (nI ((K 0).2.2.1)), .int (nI ((K 0).2.2.2.1)), .int (nI ((K 0).2.2.2.2.1))])), (d0, .inr (0, [.ref a0, .int (nI (((K 0).2.2.2.2.2).2))])), (a0, .inl (ca 0, 2, .inl (fun j => nI ((((K 0).2.2.2.2.2).1) j)))), (q1, .inr (1, [.int (nI y), .ref d1, .int (nI ((K 1).1)), .int (nI ((K 1).2.1)), .int (nI ((K 1).2.2.1)), .int (nI ((K 1).2.2.2.1)), .int (nI ((K 1).2.2.2.2.1))])), (d1, .inr (0, [.ref a1, .int (nI (((K 1).2.2.2.2.2).2))])), (a1, .inl (ca 0, 2, .inl (fun j => nI ((((K 1).2.2.2.2.2).1) j)))), (q2, .inr (1, [.int (nI y), .ref d2, .int (nI ((K 2).1)), .int (nI ((K 2).2.1)), .int (nI ((K 2).2.2.1)), .int (nI ((K 2).2.2.2.1)), .int (nI ((K 2).2.2.2.2.1))])), (d2, .inr (0, [.ref a2, .int (nI (((K 2).2.2.2.2.2).2))])), (a2, .inl (ca 0, 2, .inl (fun j => nI ((((K 2).2.2.2.2.2).1) j))))] H := hP.sub [10, 11, 12, 13, 14, 0, 1, 2, 3, 4, 5, 6, 7, 8, 9] rfl
            have hD : va_D A [(h, .inr (2, [.ref ln, .ref pe, .ref ou, .ref cs, .int (nI lk), .int (nI ((cPump lk sn ac' ex O' (cAgain sn ac' ex O' P)).2)), .int (nI ac'), .int (nI ex), .int (nI tr'), .int (nI rj)])), (pe, .inr (0, [.ref pea, .int (nI (((cPump lk sn ac' ex O' (cAgain sn ac' ex O' P)).1).2))])), (pea, .inl (ca 0, 12, .inl (fun j => nI ((((cPump lk sn ac' ex O' (cAgain sn ac' ex O' P)).1).1) j)))), (ou, .inr (0, [.ref oua, .int (nI O'.2)])), (oua, .inl (ca 0, 16, .inl (fun j => nI (O'.1 j)))), (cs, .inl (ca 3, 3, .inr (.inr (.inr (.inr fc))))), (q0, .inr (1, [.int (nI y), .ref d0, .int (nI ((K 0).1)), .int (nI ((K 0).2.1)), .int (nI ((K 0).2.2.1)), .int (nI ((K 0).2.2.2.1)), .int (nI ((K 0).2.2.2.2.1))])), (d0, .inr (0, [.ref a0, .int (nI (((K 0).2.2.2.2.2).2))])), (a0, .inl (ca 0, 2, .inl (fun j => nI ((((K 0).2.2.2.2.2).1) j)))), (q1, .inr (1, [.int (nI y), .ref d1, .int (nI ((K 1).1)), .int (nI ((K 1).2.1)), .int (nI ((K 1).2.2.1)), .int (nI ((K 1).2.2.2.1)), .int (nI ((K 1).2.2.2.2.1))])), (d1, .inr (0, [.ref a1, .int (nI (((K 1).2.2.2.2.2).2))])), (a1, .inl (ca 0, 2, .inl (fun j => nI ((((K 1).2.2.2.2.2).1) j)))), (q2, .inr (1, [.int (nI y), .ref d2, .int (nI ((K 2).1)), .int (nI ((K 2).2.1)), .int (nI ((K 2).2.2.1)), .int (nI ((K 2).2.2.2.1)), .int (nI ((K 2).2.2.2.2.1))])), (d2, .inr (0, [.ref a2, .int (nI (((K 2).2.2.2.2.2).2))])), (a2, .inl (ca 0, 2, .inl (fun j => nI ((((K 2).2.2.2.2.2).1) j))))] := hD.sub [10, 11, 12, 13, 14, 0, 1, 2, 3, 4, 5, 6, 7, 8, 9] rfl rfl
            have e9 : sFrame y lk sn ac ex tr rj O K P f = ((lk, (cPump lk sn ac' ex O' (cAgain sn ac' ex O' P)).2, ac', ex, tr', rj), O', K, (cPump lk sn ac' ex O' (cAgain sn ac' ex O' P)).1) := by
              rw [sFrame, if_neg (by omega), if_neg (by omega), if_pos (by omega), if_neg (by omega), if_pos (by omega), hcf]
              rfl
            exact Co.retv hx hb hret hlk dSt_hearFrame_78 hS hP hD () rfl trivial (by rw [e9]; rfl) (Nat.le_of_ble_eq_true rfl) (Nat.le_of_ble_eq_true rfl)
        · obtain ⟨sn1, ex1, rj1, O1, k1, P1, hc0⟩ : ∃ sn1 ex1 rj1 O1 k1 P1, sCarr lk sn ac' ex rj O' P y (K (pChan (fPack f))) f = ((sn1, ex1, rj1), O1, k1, P1) := ⟨_, _, _, _, _, _, rfl⟩
          rcases (show pChan (fPack f) = 0 ∨ pChan (fPack f) = 1 ∨ pChan (fPack f) = 2 by omega) with hc | hc | hc
          · refine lv_aload_n hx hb dSt_hearFrame_50 rfl (lv_at hl 1 rfl) ?_
            refine lv_iload_n hx hb dSt_hearFrame_51 rfl (lv_at hl 2 rfl) ?_
            refine kV (rV fx (c_St_hearCarrier l D ca h ln pe ou cs lk sn ac' ex tr' rj pea oua O' P fc q0 d0 a0 y (K 0) f (by omega) (by omega) (by omega) (by omega) (by omega) hO' hP1 (by omega) (by omega) (by rw [hc]; exact hq0) hy (hK 0 (by omega)) _ _ _ _ _ _ (by rw [← hc0, hc])) ⟨callB_of 1 hts (tb_gi tw_357) rfl rfl rfl (ht _ tw_3) (ht _ tw_354) (by decide +kernel) ⟨(Nat.le_of_ble_eq_true rfl), (Nat.le_of_ble_eq_true rfl)⟩, ht _ tw_356, ht _ tw_836⟩ hE hP hD 12 rfl rfl rfl [12, 0, 1, 13, 14, 2, 3, 4, 5] rfl rfl rfl hl.1 rfl (Nat.le_of_ble_eq_true rfl) dSt_hearFrame_52 ⟨(Nat.le_of_ble_eq_true rfl), (Nat.le_of_ble_eq_true rfl)⟩) hP hD hS hA [12, 0, 1, 13, 14, 2, 3, 4, 5] [6, 7, 8, 9, 10, 11] rfl rfl rfl (by decide) (fun _ H locs _ hP hD hS => ?_)
            have hP : va_P D cls_ [(q1, .inr (1, [.int (nI y), .ref d1, .int (nI ((K 1).1)), .int (nI ((K 1).2.1)), .int (nI ((K 1).2.2.1)), .int (nI ((K 1).2.2.2.1)), .int (nI ((K 1).2.2.2.2.1))])), (d1, .inr (0, [.ref a1, .int (nI (((K 1).2.2.2.2.2).2))])), (a1, .inl (ca 0, 2, .inl (fun j => nI ((((K 1).2.2.2.2.2).1) j)))), (q2, .inr (1, [.int (nI y), .ref d2, .int (nI ((K 2).1)), .int (nI ((K 2).2.1)), .int (nI ((K 2).2.2.1)), .int (nI ((K 2).2.2.2.1)), .int (nI ((K 2).2.2.2.2.1))])), (d2, .inr (0, [.ref a2, .int (nI (((K 2).2.2.2.2.2).2))])), (a2, .inl (ca 0, 2, .inl (fun j => nI ((((K 2).2.2.2.2.2).1) j)))), (h, .inr (2, [.ref ln, .ref pe, .ref ou, .ref cs, .int (nI lk), .int (nI sn1), .int (nI ac'), .int (nI ex1), .int (nI tr'), .int (nI rj1)])), (pe, .inr (0, [.ref pea, .int (nI P1.2)])), (pea, .inl (ca 0, 12, .inl (fun j => nI (P1.1 j)))), (ou, .inr (0, [.ref oua, .int (nI O1.2)])), (oua, .inl (ca 0, 16, .inl (fun j => nI (O1.1 j)))), (cs, .inl (ca 3, 3, .inr (.inr (.inr (.inr fc))))), (q0, .inr (1, [.int (nI y), .ref d0, .int (nI k1.1), .int (nI k1.2.1), .int (nI k1.2.2.1), .int (nI k1.2.2.2.1), .int (nI k1.2.2.2.2.1)])), (d0, .inr (0, [.ref a0, .int (nI ((k1.2.2.2.2.2).2))])), (a0, .inl (ca 0, 2, .inl (fun j => nI (((k1.2.2.2.2.2).1) j))))] H := hP
            have hD : va_D A [(q1, .inr (1, [.int (nI y), .ref d1, .int (nI ((K 1).1)), .int (nI ((K 1).2.1)), .int (nI ((K 1).2.2.1)), .int (nI ((K 1).2.2.2.1)), .int (nI ((K 1).2.2.2.2.1))])), (d1, .inr (0, [.ref a1, .int (nI (((K 1).2.2.2.2.2).2))])), (a1, .inl (ca 0, 2, .inl (fun j => nI ((((K 1).2.2.2.2.2).1) j)))), (q2, .inr (1, [.int (nI y), .ref d2, .int (nI ((K 2).1)), .int (nI ((K 2).2.1)), .int (nI ((K 2).2.2.1)), .int (nI ((K 2).2.2.2.1)), .int (nI ((K 2).2.2.2.2.1))])), (d2, .inr (0, [.ref a2, .int (nI (((K 2).2.2.2.2.2).2))])), (a2, .inl (ca 0, 2, .inl (fun j => nI ((((K 2).2.2.2.2.2).1) j)))), (h, .inr (2, [.ref ln, .ref pe, .ref ou, .ref cs, .int (nI lk), .int (nI sn1), .int (nI ac'), .int (nI ex1), .int (nI tr'), .int (nI rj1)])), (pe, .inr (0, [.ref pea, .int (nI P1.2)])), (pea, .inl (ca 0, 12, .inl (fun j => nI (P1.1 j)))), (ou, .inr (0, [.ref oua, .int (nI O1.2)])), (oua, .inl (ca 0, 16, .inl (fun j => nI (O1.1 j)))), (cs, .inl (ca 3, 3, .inr (.inr (.inr (.inr fc))))), (q0, .inr (1, [.int (nI y), .ref d0, .int (nI k1.1), .int (nI k1.2.1), .int (nI k1.2.2.1), .int (nI k1.2.2.2.1), .int (nI k1.2.2.2.2.1)])), (d0, .inr (0, [.ref a0, .int (nI ((k1.2.2.2.2.2).2))])), (a0, .inl (ca 0, 2, .inl (fun j => nI (((k1.2.2.2.2.2).1) j))))] := hD
            refine lv_goto (tgt := 78) hx hb dSt_hearFrame_55 rfl ?_
            have hP : va_P D cls_ [(h, .inr (2, [.ref ln, .ref pe, .ref ou, .ref cs, .int (nI lk), .int (nI sn1), .int (nI ac'), .int (nI ex1), .int (nI tr'), .int (nI rj1)])), (pe, .inr (0, [.ref pea, .int (nI P1.2)])), (pea, .inl (ca 0, 12, .inl (fun j => nI (P1.1 j)))), (ou, .inr (0, [.ref oua, .int (nI O1.2)])), (oua, .inl (ca 0, 16, .inl (fun j => nI (O1.1 j)))), (cs, .inl (ca 3, 3, .inr (.inr (.inr (.inr fc))))), (q0, .inr (1, [.int (nI y), .ref d0, .int (nI k1.1), .int (nI k1.2.1), .int (nI k1.2.2.1), .int (nI k1.2.2.2.1), .int (nI k1.2.2.2.2.1)])), (d0, .inr (0, [.ref a0, .int (nI ((k1.2.2.2.2.2).2))])), (a0, .inl (ca 0, 2, .inl (fun j => nI (((k1.2.2.2.2.2).1) j)))), (q1, .inr (1, [.int (nI y), .ref d1, .int (nI ((K 1).1)), .int (nI ((K 1).2.1)), .int (nI ((K 1).2.2.1)), .int (nI ((K 1).2.2.2.1)), .int (nI ((K 1).2.2.2.2.1))])), (d1, .inr (0, [.ref a1, .int (nI (((K 1).2.2.2.2.2).2))])), (a1, .inl (ca 0, 2, .inl (fun j => nI ((((K 1).2.2.2.2.2).1) j)))), (q2, .inr (1, [.int (nI y), .ref d2, .int (nI ((K 2).1)), .int (nI ((K 2).2.1)), .int (nI ((K 2).2.2.1)), .int (nI ((K 2).2.2.2.1)), .int (nI ((K 2).2.2.2.2.1))])), (d2, .inr (0, [.ref a2, .int (nI (((K 2).2.2.2.2.2).2))])), (a2, .inl (ca 0, 2, .inl (fun j => nI ((((K 2).2.2.2.2.2).1) j))))] H := hP.sub [6, 7, 8, 9, 10, 11, 12, 13, 14, 0, 1, 2, 3, 4, 5] rfl
            have hD : va_D A [(h, .inr (2, [.ref ln, .ref pe, .ref ou, .ref cs, .int (nI lk), .int (nI sn1), .int (nI ac'), .int (nI ex1), .int (nI tr'), .int (nI rj1)])), (pe, .inr (0, [.ref pea, .int (nI P1.2)])), (pea, .inl (ca 0, 12, .inl (fun j => nI (P1.1 j)))), (ou, .inr (0, [.ref oua, .int (nI O1.2)])), (oua, .inl (ca 0, 16, .inl (fun j => nI (O1.1 j)))), (cs, .inl (ca 3, 3, .inr (.inr (.inr (.inr fc))))), (q0, .inr (1, [.int (nI y), .ref d0, .int (nI k1.1), .int (nI k1.2.1), .int (nI k1.2.2.1), .int (nI k1.2.2.2.1), .int (nI k1.2.2.2.2.1)])), (d0, .inr (0, [.ref a0, .int (nI ((k1.2.2.2.2.2).2))])), (a0, .inl (ca 0, 2, .inl (fun j => nI (((k1.2.2.2.2.2).1) j)))), (q1, .inr (1, [.int (nI y), .ref d1, .int (nI ((K 1).1)), .int (nI ((K 1).2.1)), .int (nI ((K 1).2.2.1)), .int (nI ((K 1).2.2.2.1)), .int (nI ((K 1).2.2.2.2.1))])), (d1, .inr (0, [.ref a1, .int (nI (((K 1).2.2.2.2.2).2))])), (a1, .inl (ca 0, 2, .inl (fun j => nI ((((K 1).2.2.2.2.2).1) j)))), (q2, .inr (1, [.int (nI y), .ref d2, .int (nI ((K 2).1)), .int (nI ((K 2).2.1)), .int (nI ((K 2).2.2.1)), .int (nI ((K 2).2.2.2.1)), .int (nI ((K 2).2.2.2.2.1))])), (d2, .inr (0, [.ref a2, .int (nI (((K 2).2.2.2.2.2).2))])), (a2, .inl (ca 0, 2, .inl (fun j => nI ((((K 2).2.2.2.2.2).1) j))))] := hD.sub [6, 7, 8, 9, 10, 11, 12, 13, 14, 0, 1, 2, 3, 4, 5] rfl rfl
            have e9 : sFrame y lk sn ac ex tr rj O K P f = ((lk, sn1, ac', ex1, tr', rj1), O1, va_up K 0 k1, P1) := by
              rw [sFrame, if_neg (by omega), if_neg (by omega), if_pos (by omega), if_pos (by omega), hcf]
              show sFrameC lk (ac', tr', O') K (pChan (fPack f)) (sCarr lk sn ac' ex rj O' P y (K (pChan (fPack f))) f) = _
              rw [hc0, hc]
              rfl
            exact Co.retv hx hb hret hlk dSt_hearFrame_78 hS hP hD () rfl trivial (by rw [e9]; rfl) (Nat.le_of_ble_eq_true rfl) (Nat.le_of_ble_eq_true rfl)
          · refine lv_aload_n hx hb dSt_hearFrame_50 rfl (lv_at hl 1 rfl) ?_
            refine lv_iload_n hx hb dSt_hearFrame_51 rfl (lv_at hl 2 rfl) ?_
            refine kV (rV fx (c_St_hearCarrier l D ca h ln pe ou cs lk sn ac' ex tr' rj pea oua O' P fc q1 d1 a1 y (K 1) f (by omega) (by omega) (by omega) (by omega) (by omega) hO' hP1 (by omega) (by omega) (by rw [hc]; exact hq1) hy (hK 1 (by omega)) _ _ _ _ _ _ (by rw [← hc0, hc])) ⟨callB_of 1 hts (tb_gi tw_357) rfl rfl rfl (ht _ tw_3) (ht _ tw_354) (by decide +kernel) ⟨(Nat.le_of_ble_eq_true rfl), (Nat.le_of_ble_eq_true rfl)⟩, ht _ tw_356, ht _ tw_836⟩ hE hP hD 12 rfl rfl rfl [12, 0, 1, 13, 14, 2, 6, 7, 8] rfl rfl rfl hl.1 rfl (Nat.le_of_ble_eq_true rfl) dSt_hearFrame_52 ⟨(Nat.le_of_ble_eq_true rfl), (Nat.le_of_ble_eq_true rfl)⟩) hP hD hS hA [12, 0, 1, 13, 14, 2, 6, 7, 8] [3, 4, 5, 9, 10, 11] rfl rfl rfl (by decide) (fun _ H locs _ hP hD hS => ?_)
            have hP : va_P D cls_ [(q0, .inr (1, [.int (nI y), .ref d0, .int (nI ((K 0).1)), .int (nI ((K 0).2.1)), .int (nI ((K 0).2.2.1)), .int (nI ((K 0).2.2.2.1)), .int (nI ((K 0).2.2.2.2.1))])), (d0, .inr (0, [.ref a0, .int (nI (((K 0).2.2.2.2.2).2))])), (a0, .inl (ca 0, 2, .inl (fun j => nI ((((K 0).2.2.2.2.2).1) j)))), (q2, .inr (1, [.int (nI y), .ref d2, .int (nI ((K 2).1)), .int (nI ((K 2).2.1)), .int (nI ((K 2).2.2.1)), .int (nI ((K 2).2.2.2.1)), .int (nI ((K 2).2.2.2.2.1))])), (d2, .inr (0, [.ref a2, .int (nI (((K 2).2.2.2.2.2).2))])), (a2, .inl (ca 0, 2, .inl (fun j => nI ((((K 2).2.2.2.2.2).1) j)))), (h, .inr (2, [.ref ln, .ref pe, .ref ou, .ref cs, .int (nI lk), .int (nI sn1), .int (nI ac'), .int (nI ex1), .int (nI tr'), .int (nI rj1)])), (pe, .inr (0, [.ref pea, .int (nI P1.2)])), (pea, .inl (ca 0, 12, .inl (fun j => nI (P1.1 j)))), (ou, .inr (0, [.ref oua, .int (nI O1.2)])), (oua, .inl (ca 0, 16, .inl (fun j => nI (O1.1 j)))), (cs, .inl (ca 3, 3, .inr (.inr (.inr (.inr fc))))), (q1, .inr (1, [.int (nI y), .ref d1, .int (nI k1.1), .int (nI k1.2.1), .int (nI k1.2.2.1), .int (nI k1.2.2.2.1), .int (nI k1.2.2.2.2.1)])), (d1, .inr (0, [.ref a1, .int (nI ((k1.2.2.2.2.2).2))])), (a1, .inl (ca 0, 2, .inl (fun j => nI (((k1.2.2.2.2.2).1) j))))] H := hP
            have hD : va_D A [(q0, .inr (1, [.int (nI y), .ref d0, .int (nI ((K 0).1)), .int (nI ((K 0).2.1)), .int (nI ((K 0).2.2.1)), .int (nI ((K 0).2.2.2.1)), .int (nI ((K 0).2.2.2.2.1))])), (d0, .inr (0, [.ref a0, .int (nI (((K 0).2.2.2.2.2).2))])), (a0, .inl (ca 0, 2, .inl (fun j => nI ((((K 0).2.2.2.2.2).1) j)))), (q2, .inr (1, [.int (nI y), .ref d2, .int (nI ((K 2).1)), .int (nI ((K 2).2.1)), .int (nI ((K 2).2.2.1)), .int (nI ((K 2).2.2.2.1)), .int (nI ((K 2).2.2.2.2.1))])), (d2, .inr (0, [.ref a2, .int (nI (((K 2).2.2.2.2.2).2))])), (a2, .inl (ca 0, 2, .inl (fun j => nI ((((K 2).2.2.2.2.2).1) j)))), (h, .inr (2, [.ref ln, .ref pe, .ref ou, .ref cs, .int (nI lk), .int (nI sn1), .int (nI ac'), .int (nI ex1), .int (nI tr'), .int (nI rj1)])), (pe, .inr (0, [.ref pea, .int (nI P1.2)])), (pea, .inl (ca 0, 12, .inl (fun j => nI (P1.1 j)))), (ou, .inr (0, [.ref oua, .int (nI O1.2)])), (oua, .inl (ca 0, 16, .inl (fun j => nI (O1.1 j)))), (cs, .inl (ca 3, 3, .inr (.inr (.inr (.inr fc))))), (q1, .inr (1, [.int (nI y), .ref d1, .int (nI k1.1), .int (nI k1.2.1), .int (nI k1.2.2.1), .int (nI k1.2.2.2.1), .int (nI k1.2.2.2.2.1)])), (d1, .inr (0, [.ref a1, .int (nI ((k1.2.2.2.2.2).2))])), (a1, .inl (ca 0, 2, .inl (fun j => nI (((k1.2.2.2.2.2).1) j))))] := hD
            refine lv_goto (tgt := 78) hx hb dSt_hearFrame_55 rfl ?_
            have hP : va_P D cls_ [(h, .inr (2, [.ref ln, .ref pe, .ref ou, .ref cs, .int (nI lk), .int (nI sn1), .int (nI ac'), .int (nI ex1), .int (nI tr'), .int (nI rj1)])), (pe, .inr (0, [.ref pea, .int (nI P1.2)])), (pea, .inl (ca 0, 12, .inl (fun j => nI (P1.1 j)))), (ou, .inr (0, [.ref oua, .int (nI O1.2)])), (oua, .inl (ca 0, 16, .inl (fun j => nI (O1.1 j)))), (cs, .inl (ca 3, 3, .inr (.inr (.inr (.inr fc))))), (q0, .inr (1, [.int (nI y), .ref d0, .int (nI ((K 0).1)), .int (nI ((K 0).2.1)), .int (nI ((K 0).2.2.1)), .int (nI ((K 0).2.2.2.1)), .int (nI ((K 0).2.2.2.2.1))])), (d0, .inr (0, [.ref a0, .int (nI (((K 0).2.2.2.2.2).2))])), (a0, .inl (ca 0, 2, .inl (fun j => nI ((((K 0).2.2.2.2.2).1) j)))), (q1, .inr (1, [.int (nI y), .ref d1, .int (nI k1.1), .int (nI k1.2.1), .int (nI k1.2.2.1), .int (nI k1.2.2.2.1), .int (nI k1.2.2.2.2.1)])), (d1, .inr (0, [.ref a1, .int (nI ((k1.2.2.2.2.2).2))])), (a1, .inl (ca 0, 2, .inl (fun j => nI (((k1.2.2.2.2.2).1) j)))), (q2, .inr (1, [.int (nI y), .ref d2, .int (nI ((K 2).1)), .int (nI ((K 2).2.1)), .int (nI ((K 2).2.2.1)), .int (nI ((K 2).2.2.2.1)), .int (nI ((K 2).2.2.2.2.1))])), (d2, .inr (0, [.ref a2, .int (nI (((K 2).2.2.2.2.2).2))])), (a2, .inl (ca 0, 2, .inl (fun j => nI ((((K 2).2.2.2.2.2).1) j))))] H := hP.sub [6, 7, 8, 9, 10, 11, 0, 1, 2, 12, 13, 14, 3, 4, 5] rfl
            have hD : va_D A [(h, .inr (2, [.ref ln, .ref pe, .ref ou, .ref cs, .int (nI lk), .int (nI sn1), .int (nI ac'), .int (nI ex1), .int (nI tr'), .int (nI rj1)])), (pe, .inr (0, [.ref pea, .int (nI P1.2)])), (pea, .inl (ca 0, 12, .inl (fun j => nI (P1.1 j)))), (ou, .inr (0, [.ref oua, .int (nI O1.2)])), (oua, .inl (ca 0, 16, .inl (fun j => nI (O1.1 j)))), (cs, .inl (ca 3, 3, .inr (.inr (.inr (.inr fc))))), (q0, .inr (1, [.int (nI y), .ref d0, .int (nI ((K 0).1)), .int (nI ((K 0).2.1)), .int (nI ((K 0).2.2.1)), .int (nI ((K 0).2.2.2.1)), .int (nI ((K 0).2.2.2.2.1))])), (d0, .inr (0, [.ref a0, .int (nI (((K 0).2.2.2.2.2).2))])), (a0, .inl (ca 0, 2, .inl (fun j => nI ((((K 0).2.2.2.2.2).1) j)))), (q1, .inr (1, [.int (nI y), .ref d1, .int (nI k1.1), .int (nI k1.2.1), .int (nI k1.2.2.1), .int (nI k1.2.2.2.1), .int (nI k1.2.2.2.2.1)])), (d1, .inr (0, [.ref a1, .int (nI ((k1.2.2.2.2.2).2))])), (a1, .inl (ca 0, 2, .inl (fun j => nI (((k1.2.2.2.2.2).1) j)))), (q2, .inr (1, [.int (nI y), .ref d2, .int (nI ((K 2).1)), .int (nI ((K 2).2.1)), .int (nI ((K 2).2.2.1)), .int (nI ((K 2).2.2.2.1)), .int (nI ((K 2).2.2.2.2.1))])), (d2, .inr (0, [.ref a2, .int (nI (((K 2).2.2.2.2.2).2))])), (a2, .inl (ca 0, 2, .inl (fun j => nI ((((K 2).2.2.2.2.2).1) j))))] := hD.sub [6, 7, 8, 9, 10, 11, 0, 1, 2, 12, 13, 14, 3, 4, 5] rfl rfl
            have e9 : sFrame y lk sn ac ex tr rj O K P f = ((lk, sn1, ac', ex1, tr', rj1), O1, va_up K 1 k1, P1) := by
              rw [sFrame, if_neg (by omega), if_neg (by omega), if_pos (by omega), if_pos (by omega), hcf]
              show sFrameC lk (ac', tr', O') K (pChan (fPack f)) (sCarr lk sn ac' ex rj O' P y (K (pChan (fPack f))) f) = _
              rw [hc0, hc]
              rfl
            exact Co.retv hx hb hret hlk dSt_hearFrame_78 hS hP hD () rfl trivial (by rw [e9]; rfl) (Nat.le_of_ble_eq_true rfl) (Nat.le_of_ble_eq_true rfl)
          · refine lv_aload_n hx hb dSt_hearFrame_50 rfl (lv_at hl 1 rfl) ?_
            refine lv_iload_n hx hb dSt_hearFrame_51 rfl (lv_at hl 2 rfl) ?_
            refine kV (rV fx (c_St_hearCarrier l D ca h ln pe ou cs lk sn ac' ex tr' rj pea oua O' P fc q2 d2 a2 y (K 2) f (by omega) (by omega) (by omega) (by omega) (by omega) hO' hP1 (by omega) (by omega) (by rw [hc]; exact hq2) hy (hK 2 (by omega)) _ _ _ _ _ _ (by rw [← hc0, hc])) ⟨callB_of 1 hts (tb_gi tw_357) rfl rfl rfl (ht _ tw_3) (ht _ tw_354) (by decide +kernel) ⟨(Nat.le_of_ble_eq_true rfl), (Nat.le_of_ble_eq_true rfl)⟩, ht _ tw_356, ht _ tw_836⟩ hE hP hD 12 rfl rfl rfl [12, 0, 1, 13, 14, 2, 9, 10, 11] rfl rfl rfl hl.1 rfl (Nat.le_of_ble_eq_true rfl) dSt_hearFrame_52 ⟨(Nat.le_of_ble_eq_true rfl), (Nat.le_of_ble_eq_true rfl)⟩) hP hD hS hA [12, 0, 1, 13, 14, 2, 9, 10, 11] [3, 4, 5, 6, 7, 8] rfl rfl rfl (by decide) (fun _ H locs _ hP hD hS => ?_)
            have hP : va_P D cls_ [(q0, .inr (1, [.int (nI y), .ref d0, .int (nI ((K 0).1)), .int (nI ((K 0).2.1)), .int (nI ((K 0).2.2.1)), .int (nI ((K 0).2.2.2.1)), .int (nI ((K 0).2.2.2.2.1))])), (d0, .inr (0, [.ref a0, .int (nI (((K 0).2.2.2.2.2).2))])), (a0, .inl (ca 0, 2, .inl (fun j => nI ((((K 0).2.2.2.2.2).1) j)))), (q1, .inr (1, [.int (nI y), .ref d1, .int (nI ((K 1).1)), .int (nI ((K 1).2.1)), .int (nI ((K 1).2.2.1)), .int (nI ((K 1).2.2.2.1)), .int (nI ((K 1).2.2.2.2.1))])), (d1, .inr (0, [.ref a1, .int (nI (((K 1).2.2.2.2.2).2))])), (a1, .inl (ca 0, 2, .inl (fun j => nI ((((K 1).2.2.2.2.2).1) j)))), (h, .inr (2, [.ref ln, .ref pe, .ref ou, .ref cs, .int (nI lk), .int (nI sn1), .int (nI ac'), .int (nI ex1), .int (nI tr'), .int (nI rj1)])), (pe, .inr (0, [.ref pea, .int (nI P1.2)])), (pea, .inl (ca 0, 12, .inl (fun j => nI (P1.1 j)))), (ou, .inr (0, [.ref oua, .int (nI O1.2)])), (oua, .inl (ca 0, 16, .inl (fun j => nI (O1.1 j)))), (cs, .inl (ca 3, 3, .inr (.inr (.inr (.inr fc))))), (q2, .inr (1, [.int (nI y), .ref d2, .int (nI k1.1), .int (nI k1.2.1), .int (nI k1.2.2.1), .int (nI k1.2.2.2.1), .int (nI k1.2.2.2.2.1)])), (d2, .inr (0, [.ref a2, .int (nI ((k1.2.2.2.2.2).2))])), (a2, .inl (ca 0, 2, .inl (fun j => nI (((k1.2.2.2.2.2).1) j))))] H := hP
            have hD : va_D A [(q0, .inr (1, [.int (nI y), .ref d0, .int (nI ((K 0).1)), .int (nI ((K 0).2.1)), .int (nI ((K 0).2.2.1)), .int (nI ((K 0).2.2.2.1)), .int (nI ((K 0).2.2.2.2.1))])), (d0, .inr (0, [.ref a0, .int (nI (((K 0).2.2.2.2.2).2))])), (a0, .inl (ca 0, 2, .inl (fun j => nI ((((K 0).2.2.2.2.2).1) j)))), (q1, .inr (1, [.int (nI y), .ref d1, .int (nI ((K 1).1)), .int (nI ((K 1).2.1)), .int (nI ((K 1).2.2.1)), .int (nI ((K 1).2.2.2.1)), .int (nI ((K 1).2.2.2.2.1))])), (d1, .inr (0, [.ref a1, .int (nI (((K 1).2.2.2.2.2).2))])), (a1, .inl (ca 0, 2, .inl (fun j => nI ((((K 1).2.2.2.2.2).1) j)))), (h, .inr (2, [.ref ln, .ref pe, .ref ou, .ref cs, .int (nI lk), .int (nI sn1), .int (nI ac'), .int (nI ex1), .int (nI tr'), .int (nI rj1)])), (pe, .inr (0, [.ref pea, .int (nI P1.2)])), (pea, .inl (ca 0, 12, .inl (fun j => nI (P1.1 j)))), (ou, .inr (0, [.ref oua, .int (nI O1.2)])), (oua, .inl (ca 0, 16, .inl (fun j => nI (O1.1 j)))), (cs, .inl (ca 3, 3, .inr (.inr (.inr (.inr fc))))), (q2, .inr (1, [.int (nI y), .ref d2, .int (nI k1.1), .int (nI k1.2.1), .int (nI k1.2.2.1), .int (nI k1.2.2.2.1), .int (nI k1.2.2.2.2.1)])), (d2, .inr (0, [.ref a2, .int (nI ((k1.2.2.2.2.2).2))])), (a2, .inl (ca 0, 2, .inl (fun j => nI (((k1.2.2.2.2.2).1) j))))] := hD
            refine lv_goto (tgt := 78) hx hb dSt_hearFrame_55 rfl ?_
            have hP : va_P D cls_ [(h, .inr (2, [.ref ln, .ref pe, .ref ou, .ref cs, .int (nI lk), .int (nI sn1), .int (nI ac'), .int (nI ex1), .int (nI tr'), .int (nI rj1)])), (pe, .inr (0, [.ref pea, .int (nI P1.2)])), (pea, .inl (ca 0, 12, .inl (fun j => nI (P1.1 j)))), (ou, .inr (0, [.ref oua, .int (nI O1.2)])), (oua, .inl (ca 0, 16, .inl (fun j => nI (O1.1 j)))), (cs, .inl (ca 3, 3, .inr (.inr (.inr (.inr fc))))), (q0, .inr (1, [.int (nI y), .ref d0, .int (nI ((K 0).1)), .int (nI ((K 0).2.1)), .int (nI ((K 0).2.2.1)), .int (nI ((K 0).2.2.2.1)), .int (nI ((K 0).2.2.2.2.1))])), (d0, .inr (0, [.ref a0, .int (nI (((K 0).2.2.2.2.2).2))])), (a0, .inl (ca 0, 2, .inl (fun j => nI ((((K 0).2.2.2.2.2).1) j)))), (q1, .inr (1, [.int (nI y), .ref d1, .int (nI ((K 1).1)), .int (nI ((K 1).2.1)), .int (nI ((K 1).2.2.1)), .int (nI ((K 1).2.2.2.1)), .int (nI ((K 1).2.2.2.2.1))])), (d1, .inr (0, [.ref a1, .int (nI (((K 1).2.2.2.2.2).2))])), (a1, .inl (ca 0, 2, .inl (fun j => nI ((((K 1).2.2.2.2.2).1) j)))), (q2, .inr (1, [.int (nI y), .ref d2, .int (nI k1.1), .int (nI k1.2.1), .int (nI k1.2.2.1), .int (nI k1.2.2.2.1), .int (nI k1.2.2.2.2.1)])), (d2, .inr (0, [.ref a2, .int (nI ((k1.2.2.2.2.2).2))])), (a2, .inl (ca 0, 2, .inl (fun j => nI (((k1.2.2.2.2.2).1) j))))] H := hP.sub [6, 7, 8, 9, 10, 11, 0, 1, 2, 3, 4, 5, 12, 13, 14] rfl
            have hD : va_D A [(h, .inr (2, [.ref ln, .ref pe, .ref ou, .ref cs, .int (nI lk), .int (nI sn1), .int (nI ac'), .int (nI ex1), .int (nI tr'), .int (nI rj1)])), (pe, .inr (0, [.ref pea, .int (nI P1.2)])), (pea, .inl (ca 0, 12, .inl (fun j => nI (P1.1 j)))), (ou, .inr (0, [.ref oua, .int (nI O1.2)])), (oua, .inl (ca 0, 16, .inl (fun j => nI (O1.1 j)))), (cs, .inl (ca 3, 3, .inr (.inr (.inr (.inr fc))))), (q0, .inr (1, [.int (nI y), .ref d0, .int (nI ((K 0).1)), .int (nI ((K 0).2.1)), .int (nI ((K 0).2.2.1)), .int (nI ((K 0).2.2.2.1)), .int (nI ((K 0).2.2.2.2.1))])), (d0, .inr (0, [.ref a0, .int (nI (((K 0).2.2.2.2.2).2))])), (a0, .inl (ca 0, 2, .inl (fun j => nI ((((K 0).2.2.2.2.2).1) j)))), (q1, .inr (1, [.int (nI y), .ref d1, .int (nI ((K 1).1)), .int (nI ((K 1).2.1)), .int (nI ((K 1).2.2.1)), .int (nI ((K 1).2.2.2.1)), .int (nI ((K 1).2.2.2.2.1))])), (d1, .inr (0, [.ref a1, .int (nI (((K 1).2.2.2.2.2).2))])), (a1, .inl (ca 0, 2, .inl (fun j => nI ((((K 1).2.2.2.2.2).1) j)))), (q2, .inr (1, [.int (nI y), .ref d2, .int (nI k1.1), .int (nI k1.2.1), .int (nI k1.2.2.1), .int (nI k1.2.2.2.1), .int (nI k1.2.2.2.2.1)])), (d2, .inr (0, [.ref a2, .int (nI ((k1.2.2.2.2.2).2))])), (a2, .inl (ca 0, 2, .inl (fun j => nI (((k1.2.2.2.2.2).1) j))))] := hD.sub [6, 7, 8, 9, 10, 11, 0, 1, 2, 3, 4, 5, 12, 13, 14] rfl rfl
            have e9 : sFrame y lk sn ac ex tr rj O K P f = ((lk, sn1, ac', ex1, tr', rj1), O1, va_up K 2 k1, P1) := by
              rw [sFrame, if_neg (by omega), if_neg (by omega), if_pos (by omega), if_pos (by omega), hcf]
              show sFrameC lk (ac', tr', O') K (pChan (fPack f)) (sCarr lk sn ac' ex rj O' P y (K (pChan (fPack f))) f) = _
              rw [hc0, hc]
              rfl
            exact Co.retv hx hb hret hlk dSt_hearFrame_78 hS hP hD () rfl trivial (by rw [e9]; rfl) (Nat.le_of_ble_eq_true rfl) (Nat.le_of_ble_eq_true rfl)
    · refine lv_aload_n hx hb dSt_hearFrame_22 rfl (lv_at hl 1 rfl) ?_
      refine kV (rV fx (c_St_hearAgreed l D ca h ln pe ou cs lk sn ac ex tr rj pea oua O P q0 d0 a0 q1 d1 a1 q2 d2 a2 y fc K hq0 hq1 hq2 (by omega) (by omega) (by omega) (by omega) (by first | assumption | exact oOk.add (by assumption) (by first | omega | exact pk5_lt (by omega) (by omega) (by omega) (by omega) (by omega))) (by first | assumption | exact rAdd_le (by assumption) | exact cPump_le (by assumption) | exact cAgain_le (by assumption) | exact cPump_le (cAgain_le (by assumption)) | omega)) ⟨callB_of 0 hts (tb_gi tw_342) rfl rfl rfl (ht _ tw_3) (ht _ tw_339) (by decide +kernel) ⟨(Nat.le_of_ble_eq_true rfl), (Nat.le_of_ble_eq_true rfl)⟩, ht _ tw_341, ht _ tw_834⟩ hE hP hD 0 rfl rfl rfl [0, 1, 2, 3, 4, 5, 6, 7, 8, 9, 10, 11, 12, 13, 14] rfl rfl rfl hl.1 rfl (Nat.le_of_ble_eq_true rfl) dSt_hearFrame_23 ⟨(Nat.le_of_ble_eq_true rfl), (Nat.le_of_ble_eq_true rfl)⟩) hP hD hS hA [0, 1, 2, 3, 4, 5, 6, 7, 8, 9, 10, 11, 12, 13, 14] [] rfl rfl rfl (by decide) (fun _ H locs _ hP hD hS => ?_)
      have hP : va_P D cls_ [(h, .inr (2, [.ref ln, .ref pe, .ref ou, .ref cs, .int (nI ((sHAgr lk sn ac ex tr rj O K P).1.1)), .int (nI ((sHAgr lk sn ac ex tr rj O K P).1.2.1)), .int (nI ((sHAgr lk sn ac ex tr rj O K P).1.2.2.1)), .int (nI ((sHAgr lk sn ac ex tr rj O K P).1.2.2.2.1)), .int (nI ((sHAgr lk sn ac ex tr rj O K P).1.2.2.2.2.1)), .int (nI ((sHAgr lk sn ac ex tr rj O K P).1.2.2.2.2.2))])), (pe, .inr (0, [.ref pea, .int (nI (((sHAgr lk sn ac ex tr rj O K P).2.2.2).2))])), (pea, .inl (ca 0, 12, .inl (fun j => nI ((((sHAgr lk sn ac ex tr rj O K P).2.2.2).1) j)))), (ou, .inr (0, [.ref oua, .int (nI (((sHAgr lk sn ac ex tr rj O K P).2.1).2))])), (oua, .inl (ca 0, 16, .inl (fun j => nI ((((sHAgr lk sn ac ex tr rj O K P).2.1).1) j)))), (cs, .inl (ca 3, 3, .inr (.inr (.inr (.inr fc))))), (q0, .inr (1, [.int (nI y), .ref d0, .int (nI ((((sHAgr lk sn ac ex tr rj O K P).2.2.1) 0).1)), .int (nI ((((sHAgr lk sn ac ex tr rj O K P).2.2.1) 0).2.1)), .int (nI ((((sHAgr lk sn ac ex tr rj O K P).2.2.1) 0).2.2.1)), .int (nI ((((sHAgr lk sn ac ex tr rj O K P).2.2.1) 0).2.2.2.1)), .int (nI ((((sHAgr lk sn ac ex tr rj O K P).2.2.1) 0).2.2.2.2.1))])), (d0, .inr (0, [.ref a0, .int (nI (((((sHAgr lk sn ac ex tr rj O K P).2.2.1) 0).2.2.2.2.2).2))])), (a0, .inl (ca 0, 2, .inl (fun j => nI ((((((sHAgr lk sn ac ex tr rj O K P).2.2.1) 0).2.2.2.2.2).1) j)))), (q1, .inr (1, [.int (nI y), .ref d1, .int (nI ((((sHAgr lk sn ac ex tr rj O K P).2.2.1) 1).1)), .int (nI ((((sHAgr lk sn ac ex tr rj O K P).2.2.1) 1).2.1)), .int (nI ((((sHAgr lk sn ac ex tr rj O K P).2.2.1) 1).2.2.1)), .int (nI ((((sHAgr lk sn ac ex tr rj O K P).2.2.1) 1).2.2.2.1)), .int (nI ((((sHAgr lk sn ac ex tr rj O K P).2.2.1) 1).2.2.2.2.1))])), (d1, .inr (0, [.ref a1, .int (nI (((((sHAgr lk sn ac ex tr rj O K P).2.2.1) 1).2.2.2.2.2).2))])), (a1, .inl (ca 0, 2, .inl (fun j => nI ((((((sHAgr lk sn ac ex tr rj O K P).2.2.1) 1).2.2.2.2.2).1) j)))), (q2, .inr (1, [.int (nI y), .ref d2, .int (nI ((((sHAgr lk sn ac ex tr rj O K P).2.2.1) 2).1)), .int (nI ((((sHAgr lk sn ac ex tr rj O K P).2.2.1) 2).2.1)), .int (nI ((((sHAgr lk sn ac ex tr rj O K P).2.2.1) 2).2.2.1)), .int (nI ((((sHAgr lk sn ac ex tr rj O K P).2.2.1) 2).2.2.2.1)), .int (nI ((((sHAgr lk sn ac ex tr rj O K P).2.2.1) 2).2.2.2.2.1))])), (d2, .inr (0, [.ref a2, .int (nI (((((sHAgr lk sn ac ex tr rj O K P).2.2.1) 2).2.2.2.2.2).2))])), (a2, .inl (ca 0, 2, .inl (fun j => nI ((((((sHAgr lk sn ac ex tr rj O K P).2.2.1) 2).2.2.2.2.2).1) j))))] H := hP
      have hD : va_D A [(h, .inr (2, [.ref ln, .ref pe, .ref ou, .ref cs, .int (nI ((sHAgr lk sn ac ex tr rj O K P).1.1)), .int (nI ((sHAgr lk sn ac ex tr rj O K P).1.2.1)), .int (nI ((sHAgr lk sn ac ex tr rj O K P).1.2.2.1)), .int (nI ((sHAgr lk sn ac ex tr rj O K P).1.2.2.2.1)), .int (nI ((sHAgr lk sn ac ex tr rj O K P).1.2.2.2.2.1)), .int (nI ((sHAgr lk sn ac ex tr rj O K P).1.2.2.2.2.2))])), (pe, .inr (0, [.ref pea, .int (nI (((sHAgr lk sn ac ex tr rj O K P).2.2.2).2))])), (pea, .inl (ca 0, 12, .inl (fun j => nI ((((sHAgr lk sn ac ex tr rj O K P).2.2.2).1) j)))), (ou, .inr (0, [.ref oua, .int (nI (((sHAgr lk sn ac ex tr rj O K P).2.1).2))])), (oua, .inl (ca 0, 16, .inl (fun j => nI ((((sHAgr lk sn ac ex tr rj O K P).2.1).1) j)))), (cs, .inl (ca 3, 3, .inr (.inr (.inr (.inr fc))))), (q0, .inr (1, [.int (nI y), .ref d0, .int (nI ((((sHAgr lk sn ac ex tr rj O K P).2.2.1) 0).1)), .int (nI ((((sHAgr lk sn ac ex tr rj O K P).2.2.1) 0).2.1)), .int (nI ((((sHAgr lk sn ac ex tr rj O K P).2.2.1) 0).2.2.1)), .int (nI ((((sHAgr lk sn ac ex tr rj O K P).2.2.1) 0).2.2.2.1)), .int (nI ((((sHAgr lk sn ac ex tr rj O K P).2.2.1) 0).2.2.2.2.1))])), (d0, .inr (0, [.ref a0, .int (nI (((((sHAgr lk sn ac ex tr rj O K P).2.2.1) 0).2.2.2.2.2).2))])), (a0, .inl (ca 0, 2, .inl (fun j => nI ((((((sHAgr lk sn ac ex tr rj O K P).2.2.1) 0).2.2.2.2.2).1) j)))), (q1, .inr (1, [.int (nI y), .ref d1, .int (nI ((((sHAgr lk sn ac ex tr rj O K P).2.2.1) 1).1)), .int (nI ((((sHAgr lk sn ac ex tr rj O K P).2.2.1) 1).2.1)), .int (nI ((((sHAgr lk sn ac ex tr rj O K P).2.2.1) 1).2.2.1)), .int (nI ((((sHAgr lk sn ac ex tr rj O K P).2.2.1) 1).2.2.2.1)), .int (nI ((((sHAgr lk sn ac ex tr rj O K P).2.2.1) 1).2.2.2.2.1))])), (d1, .inr (0, [.ref a1, .int (nI (((((sHAgr lk sn ac ex tr rj O K P).2.2.1) 1).2.2.2.2.2).2))])), (a1, .inl (ca 0, 2, .inl (fun j => nI ((((((sHAgr lk sn ac ex tr rj O K P).2.2.1) 1).2.2.2.2.2).1) j)))), (q2, .inr (1, [.int (nI y), .ref d2, .int (nI ((((sHAgr lk sn ac ex tr rj O K P).2.2.1) 2).1)), .int (nI ((((sHAgr lk sn ac ex tr rj O K P).2.2.1) 2).2.1)), .int (nI ((((sHAgr lk sn ac ex tr rj O K P).2.2.1) 2).2.2.1)), .int (nI ((((sHAgr lk sn ac ex tr rj O K P).2.2.1) 2).2.2.2.1)), .int (nI ((((sHAgr lk sn ac ex tr rj O K P).2.2.1) 2).2.2.2.2.1))])), (d2, .inr (0, [.ref a2, .int (nI (((((sHAgr lk sn ac ex tr rj O K P).2.2.1) 2).2.2.2.2.2).2))])), (a2, .inl (ca 0, 2, .inl (fun j => nI ((((((sHAgr lk sn ac ex tr rj O K P).2.2.1) 2).2.2.2.2.2).1) j))))] := hD
      refine lv_goto (tgt := 78) hx hb dSt_hearFrame_26 rfl ?_
      have e9 : sFrame y lk sn ac ex tr rj O K P f = sHAgr lk sn ac ex tr rj O K P := (if_neg (by omega)).trans (if_pos (by omega))
      exact Co.retv hx hb hret hlk dSt_hearFrame_78 hS hP hD () rfl trivial (by rw [e9]; rfl) (Nat.le_of_ble_eq_true rfl) (Nat.le_of_ble_eq_true rfl)
  · refine lv_aload_n hx hb dSt_hearFrame_10 rfl (lv_at hl 1 rfl) ?_
    refine kV (rV fx (c_St_hearSetup l D ca h ln pe ou cs lk sn ac ex tr rj pea oua O P q0 d0 a0 q1 d1 a1 q2 d2 a2 y fc K hq0 hq1 hq2 (by omega) (by omega) (by omega) (by omega) (by first | assumption | exact oOk.add (by assumption) (by first | omega | exact pk5_lt (by omega) (by omega) (by omega) (by omega) (by omega))) (by first | assumption | exact rAdd_le (by assumption) | exact cPump_le (by assumption) | exact cAgain_le (by assumption) | exact cPump_le (cAgain_le (by assumption)) | omega)) ⟨callB_of 0 hts (tb_gi tw_338) rfl rfl rfl (ht _ tw_3) (ht _ tw_335) (by decide +kernel) ⟨(Nat.le_of_ble_eq_true rfl), (Nat.le_of_ble_eq_true rfl)⟩, ht _ tw_337, ht _ tw_833⟩ hE hP hD 0 rfl rfl rfl [0, 1, 2, 3, 4, 5, 6, 7, 8, 9, 10, 11, 12, 13, 14] rfl rfl rfl hl.1 rfl (Nat.le_of_ble_eq_true rfl) dSt_hearFrame_11 ⟨(Nat.le_of_ble_eq_true rfl), (Nat.le_of_ble_eq_true rfl)⟩) hP hD hS hA [0, 1, 2, 3, 4, 5, 6, 7, 8, 9, 10, 11, 12, 13, 14] [] rfl rfl rfl (by decide) (fun _ H locs _ hP hD hS => ?_)
    have hP : va_P D cls_ [(h, .inr (2, [.ref ln, .ref pe, .ref ou, .ref cs, .int (nI ((sHSet lk sn ac ex tr rj O K P).1.1)), .int (nI ((sHSet lk sn ac ex tr rj O K P).1.2.1)), .int (nI ((sHSet lk sn ac ex tr rj O K P).1.2.2.1)), .int (nI ((sHSet lk sn ac ex tr rj O K P).1.2.2.2.1)), .int (nI ((sHSet lk sn ac ex tr rj O K P).1.2.2.2.2.1)), .int (nI ((sHSet lk sn ac ex tr rj O K P).1.2.2.2.2.2))])), (pe, .inr (0, [.ref pea, .int (nI (((sHSet lk sn ac ex tr rj O K P).2.2.2).2))])), (pea, .inl (ca 0, 12, .inl (fun j => nI ((((sHSet lk sn ac ex tr rj O K P).2.2.2).1) j)))), (ou, .inr (0, [.ref oua, .int (nI (((sHSet lk sn ac ex tr rj O K P).2.1).2))])), (oua, .inl (ca 0, 16, .inl (fun j => nI ((((sHSet lk sn ac ex tr rj O K P).2.1).1) j)))), (cs, .inl (ca 3, 3, .inr (.inr (.inr (.inr fc))))), (q0, .inr (1, [.int (nI y), .ref d0, .int (nI ((((sHSet lk sn ac ex tr rj O K P).2.2.1) 0).1)), .int (nI ((((sHSet lk sn ac ex tr rj O K P).2.2.1) 0).2.1)), .int (nI ((((sHSet lk sn ac ex tr rj O K P).2.2.1) 0).2.2.1)), .int (nI ((((sHSet lk sn ac ex tr rj O K P).2.2.1) 0).2.2.2.1)), .int (nI ((((sHSet lk sn ac ex tr rj O K P).2.2.1) 0).2.2.2.2.1))])), (d0, .inr (0, [.ref a0, .int (nI (((((sHSet lk sn ac ex tr rj O K P).2.2.1) 0).2.2.2.2.2).2))])), (a0, .inl (ca 0, 2, .inl (fun j => nI ((((((sHSet lk sn ac ex tr rj O K P).2.2.1) 0).2.2.2.2.2).1) j)))), (q1, .inr (1, [.int (nI y), .ref d1, .int (nI ((((sHSet lk sn ac ex tr rj O K P).2.2.1) 1).1)), .int (nI ((((sHSet lk sn ac ex tr rj O K P).2.2.1) 1).2.1)), .int (nI ((((sHSet lk sn ac ex tr rj O K P).2.2.1) 1).2.2.1)), .int (nI ((((sHSet lk sn ac ex tr rj O K P).2.2.1) 1).2.2.2.1)), .int (nI ((((sHSet lk sn ac ex tr rj O K P).2.2.1) 1).2.2.2.2.1))])), (d1, .inr (0, [.ref a1, .int (nI (((((sHSet lk sn ac ex tr rj O K P).2.2.1) 1).2.2.2.2.2).2))])), (a1, .inl (ca 0, 2, .inl (fun j => nI ((((((sHSet lk sn ac ex tr rj O K P).2.2.1) 1).2.2.2.2.2).1) j)))), (q2, .inr (1, [.int (nI y), .ref d2, .int (nI ((((sHSet lk sn ac ex tr rj O K P).2.2.1) 2).1)), .int (nI ((((sHSet lk sn ac ex tr rj O K P).2.2.1) 2).2.1)), .int (nI ((((sHSet lk sn ac ex tr rj O K P).2.2.1) 2).2.2.1)), .int (nI ((((sHSet lk sn ac ex tr rj O K P).2.2.1) 2).2.2.2.1)), .int (nI ((((sHSet lk sn ac ex tr rj O K P).2.2.1) 2).2.2.2.2.1))])), (d2, .inr (0, [.ref a2, .int (nI (((((sHSet lk sn ac ex tr rj O K P).2.2.1) 2).2.2.2.2.2).2))])), (a2, .inl (ca 0, 2, .inl (fun j => nI ((((((sHSet lk sn ac ex tr rj O K P).2.2.1) 2).2.2.2.2.2).1) j))))] H := hP
    have hD : va_D A [(h, .inr (2, [.ref ln, .ref pe, .ref ou, .ref cs, .int (nI ((sHSet lk sn ac ex tr rj O K P).1.1)), .int (nI ((sHSet lk sn ac ex tr rj O K P).1.2.1)), .int (nI ((sHSet lk sn ac ex tr rj O K P).1.2.2.1)), .int (nI ((sHSet lk sn ac ex tr rj O K P).1.2.2.2.1)), .int (nI ((sHSet lk sn ac ex tr rj O K P).1.2.2.2.2.1)), .int (nI ((sHSet lk sn ac ex tr rj O K P).1.2.2.2.2.2))])), (pe, .inr (0, [.ref pea, .int (nI (((sHSet lk sn ac ex tr rj O K P).2.2.2).2))])), (pea, .inl (ca 0, 12, .inl (fun j => nI ((((sHSet lk sn ac ex tr rj O K P).2.2.2).1) j)))), (ou, .inr (0, [.ref oua, .int (nI (((sHSet lk sn ac ex tr rj O K P).2.1).2))])), (oua, .inl (ca 0, 16, .inl (fun j => nI ((((sHSet lk sn ac ex tr rj O K P).2.1).1) j)))), (cs, .inl (ca 3, 3, .inr (.inr (.inr (.inr fc))))), (q0, .inr (1, [.int (nI y), .ref d0, .int (nI ((((sHSet lk sn ac ex tr rj O K P).2.2.1) 0).1)), .int (nI ((((sHSet lk sn ac ex tr rj O K P).2.2.1) 0).2.1)), .int (nI ((((sHSet lk sn ac ex tr rj O K P).2.2.1) 0).2.2.1)), .int (nI ((((sHSet lk sn ac ex tr rj O K P).2.2.1) 0).2.2.2.1)), .int (nI ((((sHSet lk sn ac ex tr rj O K P).2.2.1) 0).2.2.2.2.1))])), (d0, .inr (0, [.ref a0, .int (nI (((((sHSet lk sn ac ex tr rj O K P).2.2.1) 0).2.2.2.2.2).2))])), (a0, .inl (ca 0, 2, .inl (fun j => nI ((((((sHSet lk sn ac ex tr rj O K P).2.2.1) 0).2.2.2.2.2).1) j)))), (q1, .inr (1, [.int (nI y), .ref d1, .int (nI ((((sHSet lk sn ac ex tr rj O K P).2.2.1) 1).1)), .int (nI ((((sHSet lk sn ac ex tr rj O K P).2.2.1) 1).2.1)), .int (nI ((((sHSet lk sn ac ex tr rj O K P).2.2.1) 1).2.2.1)), .int (nI ((((sHSet lk sn ac ex tr rj O K P).2.2.1) 1).2.2.2.1)), .int (nI ((((sHSet lk sn ac ex tr rj O K P).2.2.1) 1).2.2.2.2.1))])), (d1, .inr (0, [.ref a1, .int (nI (((((sHSet lk sn ac ex tr rj O K P).2.2.1) 1).2.2.2.2.2).2))])), (a1, .inl (ca 0, 2, .inl (fun j => nI ((((((sHSet lk sn ac ex tr rj O K P).2.2.1) 1).2.2.2.2.2).1) j)))), (q2, .inr (1, [.int (nI y), .ref d2, .int (nI ((((sHSet lk sn ac ex tr rj O K P).2.2.1) 2).1)), .int (nI ((((sHSet lk sn ac ex tr rj O K P).2.2.1) 2).2.1)), .int (nI ((((sHSet lk sn ac ex tr rj O K P).2.2.1) 2).2.2.1)), .int (nI ((((sHSet lk sn ac ex tr rj O K P).2.2.1) 2).2.2.2.1)), .int (nI ((((sHSet lk sn ac ex tr rj O K P).2.2.1) 2).2.2.2.2.1))])), (d2, .inr (0, [.ref a2, .int (nI (((((sHSet lk sn ac ex tr rj O K P).2.2.1) 2).2.2.2.2.2).2))])), (a2, .inl (ca 0, 2, .inl (fun j => nI ((((((sHSet lk sn ac ex tr rj O K P).2.2.1) 2).2.2.2.2.2).1) j))))] := hD
    refine lv_goto (tgt := 78) hx hb dSt_hearFrame_14 rfl ?_
    have e9 : sFrame y lk sn ac ex tr rj O K P f = sHSet lk sn ac ex tr rj O K P := if_pos (by omega)
    exact Co.retv hx hb hret hlk dSt_hearFrame_78 hS hP hD () rfl trivial (by rw [e9]; rfl) (Nat.le_of_ble_eq_true rfl) (Nat.le_of_ble_eq_true rfl)
end
