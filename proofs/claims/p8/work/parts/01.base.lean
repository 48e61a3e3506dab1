-- ===== PART A: goes FIRST, ahead of the names: the tables' words, and 'selects' of the private methods out of them =====
/-- a private method of a class that the tables say can be made, by its rows of tables_1 -/
def lw_okq (q : MethodName × Nat) : Prop := (q.1.cls ≠ "java/lang/invoke/MethodHandle" ∧ q.1.cls ≠ "java/lang/invoke/VarHandle") ∧ Cond.instantiable q.1.cls q.2 ∈ tables_1 ∧ Cond.privateMethod q.1 ∈ tables_1 ∧ Cond.instanceMethod q.1 ∈ tables_1
theorem lw_p0 : lw_okq (⟨"ShipOffice", "refuse", "(I)I"⟩, 16) := ⟨⟨by decide +kernel, by decide +kernel⟩, List.mem_of_getElem? (i := 17) (by decide +kernel), List.mem_of_getElem? (i := 212) (by decide +kernel), List.mem_of_getElem? (i := 213) (by decide +kernel)⟩
theorem lw_p1 : lw_okq (⟨"ShipOffice", "joinGroups", "(LShipOffice$Man;)V"⟩, 16) := ⟨⟨by decide +kernel, by decide +kernel⟩, List.mem_of_getElem? (i := 17) (by decide +kernel), List.mem_of_getElem? (i := 261) (by decide +kernel), List.mem_of_getElem? (i := 262) (by decide +kernel)⟩
theorem lw_p2 : lw_okq (⟨"ShipOffice", "mergeGroups", "(II)V"⟩, 16) := ⟨⟨by decide +kernel, by decide +kernel⟩, List.mem_of_getElem? (i := 17) (by decide +kernel), List.mem_of_getElem? (i := 272) (by decide +kernel), List.mem_of_getElem? (i := 273) (by decide +kernel)⟩
theorem lw_p3 : lw_okq (⟨"ShipOffice", "hasVoyage", "(I)Z"⟩, 16) := ⟨⟨by decide +kernel, by decide +kernel⟩, List.mem_of_getElem? (i := 17) (by decide +kernel), List.mem_of_getElem? (i := 286) (by decide +kernel), List.mem_of_getElem? (i := 287) (by decide +kernel)⟩
theorem lw_p4 : lw_okq (⟨"ShipOffice", "voyageAt", "(I)LShipOffice$Voyage;"⟩, 16) := ⟨⟨by decide +kernel, by decide +kernel⟩, List.mem_of_getElem? (i := 17) (by decide +kernel), List.mem_of_getElem? (i := 343) (by decide +kernel), List.mem_of_getElem? (i := 344) (by decide +kernel)⟩
theorem lw_p5 : lw_okq (⟨"ShipOffice", "voyageRefusal", "(LShipOffice$Voyage;IZ)I"⟩, 16) := ⟨⟨by decide +kernel, by decide +kernel⟩, List.mem_of_getElem? (i := 17) (by decide +kernel), List.mem_of_getElem? (i := 357) (by decide +kernel), List.mem_of_getElem? (i := 358) (by decide +kernel)⟩
theorem lw_p6 : lw_okq (⟨"ShipOffice", "agreementAt", "(I)LShipOffice$Agreement;"⟩, 16) := ⟨⟨by decide +kernel, by decide +kernel⟩, List.mem_of_getElem? (i := 17) (by decide +kernel), List.mem_of_getElem? (i := 407) (by decide +kernel), List.mem_of_getElem? (i := 408) (by decide +kernel)⟩
theorem lw_p7 : lw_okq (⟨"ShipOffice", "tidingRefusal", "(LShipOffice$Agreement;I)I"⟩, 16) := ⟨⟨by decide +kernel, by decide +kernel⟩, List.mem_of_getElem? (i := 17) (by decide +kernel), List.mem_of_getElem? (i := 411) (by decide +kernel), List.mem_of_getElem? (i := 412) (by decide +kernel)⟩
theorem lw_p8 : lw_okq (⟨"ShipOffice", "addTiding", "(LShipOffice$Agreement;IIII)I"⟩, 16) := ⟨⟨by decide +kernel, by decide +kernel⟩, List.mem_of_getElem? (i := 17) (by decide +kernel), List.mem_of_getElem? (i := 415) (by decide +kernel), List.mem_of_getElem? (i := 416) (by decide +kernel)⟩
theorem lw_p9 : lw_okq (⟨"ShipOffice$Tape", "parseSum", "(I)V"⟩, 6) := ⟨⟨by decide +kernel, by decide +kernel⟩, List.mem_of_getElem? (i := 91) (by decide +kernel), List.mem_of_getElem? (i := 444) (by decide +kernel), List.mem_of_getElem? (i := 445) (by decide +kernel)⟩
theorem lw_p10 : lw_okq (⟨"ShipOffice$Tape", "parseTerm", "(I)V"⟩, 6) := ⟨⟨by decide +kernel, by decide +kernel⟩, List.mem_of_getElem? (i := 91) (by decide +kernel), List.mem_of_getElem? (i := 448) (by decide +kernel), List.mem_of_getElem? (i := 449) (by decide +kernel)⟩
theorem lw_p11 : lw_okq (⟨"ShipOffice$Tape", "parseUnit", "(I)V"⟩, 6) := ⟨⟨by decide +kernel, by decide +kernel⟩, List.mem_of_getElem? (i := 91) (by decide +kernel), List.mem_of_getElem? (i := 452) (by decide +kernel), List.mem_of_getElem? (i := 453) (by decide +kernel)⟩
theorem lw_p12 : lw_okq (⟨"ShipOffice$Tape", "letterHere", "()I"⟩, 6) := ⟨⟨by decide +kernel, by decide +kernel⟩, List.mem_of_getElem? (i := 91) (by decide +kernel), List.mem_of_getElem? (i := 456) (by decide +kernel), List.mem_of_getElem? (i := 457) (by decide +kernel)⟩
theorem lw_p13 : lw_okq (⟨"ShipOffice$Tape", "sees", "(I)Z"⟩, 6) := ⟨⟨by decide +kernel, by decide +kernel⟩, List.mem_of_getElem? (i := 91) (by decide +kernel), List.mem_of_getElem? (i := 461) (by decide +kernel), List.mem_of_getElem? (i := 462) (by decide +kernel)⟩
theorem lw_p14 : lw_okq (⟨"ShipOffice$Tape", "seesDigit", "()Z"⟩, 6) := ⟨⟨by decide +kernel, by decide +kernel⟩, List.mem_of_getElem? (i := 91) (by decide +kernel), List.mem_of_getElem? (i := 465) (by decide +kernel), List.mem_of_getElem? (i := 466) (by decide +kernel)⟩
theorem lw_p15 : lw_okq (⟨"ShipOffice$Tape", "parseNumber", "()V"⟩, 6) := ⟨⟨by decide +kernel, by decide +kernel⟩, List.mem_of_getElem? (i := 91) (by decide +kernel), List.mem_of_getElem? (i := 469) (by decide +kernel), List.mem_of_getElem? (i := 470) (by decide +kernel)⟩
def lw_privs_1 : List (MethodName × Nat) := [(⟨"ShipOffice", "refuse", "(I)I"⟩, 16), (⟨"ShipOffice", "joinGroups", "(LShipOffice$Man;)V"⟩, 16), (⟨"ShipOffice", "mergeGroups", "(II)V"⟩, 16), (⟨"ShipOffice", "hasVoyage", "(I)Z"⟩, 16), (⟨"ShipOffice", "voyageAt", "(I)LShipOffice$Voyage;"⟩, 16), (⟨"ShipOffice", "voyageRefusal", "(LShipOffice$Voyage;IZ)I"⟩, 16), (⟨"ShipOffice", "agreementAt", "(I)LShipOffice$Agreement;"⟩, 16), (⟨"ShipOffice", "tidingRefusal", "(LShipOffice$Agreement;I)I"⟩, 16), (⟨"ShipOffice", "addTiding", "(LShipOffice$Agreement;IIII)I"⟩, 16), (⟨"ShipOffice$Tape", "parseSum", "(I)V"⟩, 6), (⟨"ShipOffice$Tape", "parseTerm", "(I)V"⟩, 6), (⟨"ShipOffice$Tape", "parseUnit", "(I)V"⟩, 6), (⟨"ShipOffice$Tape", "letterHere", "()I"⟩, 6), (⟨"ShipOffice$Tape", "sees", "(I)Z"⟩, 6), (⟨"ShipOffice$Tape", "seesDigit", "()Z"⟩, 6), (⟨"ShipOffice$Tape", "parseNumber", "()V"⟩, 6)]
theorem lw_r1 : ∀ q ∈ lw_privs_1, lw_okq q := List.forall_mem_cons.mpr ⟨lw_p0, List.forall_mem_cons.mpr ⟨lw_p1, List.forall_mem_cons.mpr ⟨lw_p2, List.forall_mem_cons.mpr ⟨lw_p3, List.forall_mem_cons.mpr ⟨lw_p4, List.forall_mem_cons.mpr ⟨lw_p5, List.forall_mem_cons.mpr ⟨lw_p6, List.forall_mem_cons.mpr ⟨lw_p7, List.forall_mem_cons.mpr ⟨lw_p8, List.forall_mem_cons.mpr ⟨lw_p9, List.forall_mem_cons.mpr ⟨lw_p10, List.forall_mem_cons.mpr ⟨lw_p11, List.forall_mem_cons.mpr ⟨lw_p12, List.forall_mem_cons.mpr ⟨lw_p13, List.forall_mem_cons.mpr ⟨lw_p14, List.forall_mem_cons.mpr ⟨lw_p15, fun _ h => absurd h List.not_mem_nil⟩⟩⟩⟩⟩⟩⟩⟩⟩⟩⟩⟩⟩⟩⟩⟩
theorem lw_p16 : lw_okq (⟨"ShipOffice$Tape", "emit", "(I)V"⟩, 6) := ⟨⟨by decide +kernel, by decide +kernel⟩, List.mem_of_getElem? (i := 91) (by decide +kernel), List.mem_of_getElem? (i := 473) (by decide +kernel), List.mem_of_getElem? (i := 474) (by decide +kernel)⟩
theorem lw_p17 : lw_okq (⟨"ShipOffice$Tape", "parseBracket", "(I)V"⟩, 6) := ⟨⟨by decide +kernel, by decide +kernel⟩, List.mem_of_getElem? (i := 91) (by decide +kernel), List.mem_of_getElem? (i := 477) (by decide +kernel), List.mem_of_getElem? (i := 478) (by decide +kernel)⟩
theorem lw_p18 : lw_okq (⟨"ShipOffice$Tape", "emitSign", "(I)V"⟩, 6) := ⟨⟨by decide +kernel, by decide +kernel⟩, List.mem_of_getElem? (i := 91) (by decide +kernel), List.mem_of_getElem? (i := 481) (by decide +kernel), List.mem_of_getElem? (i := 482) (by decide +kernel)⟩
theorem lw_p19 : lw_okq (⟨"ShipOffice", "manAt", "(I)LShipOffice$Man;"⟩, 16) := ⟨⟨by decide +kernel, by decide +kernel⟩, List.mem_of_getElem? (i := 17) (by decide +kernel), List.mem_of_getElem? (i := 511) (by decide +kernel), List.mem_of_getElem? (i := 512) (by decide +kernel)⟩
theorem lw_p20 : lw_okq (⟨"ShipOffice", "isFree", "(LShipOffice$Man;)Z"⟩, 16) := ⟨⟨by decide +kernel, by decide +kernel⟩, List.mem_of_getElem? (i := 17) (by decide +kernel), List.mem_of_getElem? (i := 519) (by decide +kernel), List.mem_of_getElem? (i := 520) (by decide +kernel)⟩
theorem lw_p21 : lw_okq (⟨"ShipOffice", "signWorth", "(LShipOffice$Man;II)I"⟩, 16) := ⟨⟨by decide +kernel, by decide +kernel⟩, List.mem_of_getElem? (i := 17) (by decide +kernel), List.mem_of_getElem? (i := 523) (by decide +kernel), List.mem_of_getElem? (i := 524) (by decide +kernel)⟩
theorem lw_p22 : lw_okq (⟨"ShipOffice", "askRefusal", "(II)I"⟩, 16) := ⟨⟨by decide +kernel, by decide +kernel⟩, List.mem_of_getElem? (i := 17) (by decide +kernel), List.mem_of_getElem? (i := 621) (by decide +kernel), List.mem_of_getElem? (i := 622) (by decide +kernel)⟩
theorem lw_p23 : lw_okq (⟨"ShipOffice$Agreement", "diedBy", "(II)Z"⟩, 18) := ⟨⟨by decide +kernel, by decide +kernel⟩, List.mem_of_getElem? (i := 538) (by decide +kernel), List.mem_of_getElem? (i := 633) (by decide +kernel), List.mem_of_getElem? (i := 634) (by decide +kernel)⟩
theorem lw_p24 : lw_okq (⟨"ShipOffice$Agreement", "lastMove", "(II)LShipOffice$Happening;"⟩, 18) := ⟨⟨by decide +kernel, by decide +kernel⟩, List.mem_of_getElem? (i := 538) (by decide +kernel), List.mem_of_getElem? (i := 637) (by decide +kernel), List.mem_of_getElem? (i := 638) (by decide +kernel)⟩
theorem lw_p25 : lw_okq (⟨"ShipOffice$Agreement", "nextChange", "(IILShipOffice$Law;)I"⟩, 18) := ⟨⟨by decide +kernel, by decide +kernel⟩, List.mem_of_getElem? (i := 538) (by decide +kernel), List.mem_of_getElem? (i := 663) (by decide +kernel), List.mem_of_getElem? (i := 664) (by decide +kernel)⟩
theorem lw_p26 : lw_okq (⟨"ShipOffice", "worthFor", "(ILShipOffice$Agreement;IIII)I"⟩, 16) := ⟨⟨by decide +kernel, by decide +kernel⟩, List.mem_of_getElem? (i := 17) (by decide +kernel), List.mem_of_getElem? (i := 692) (by decide +kernel), List.mem_of_getElem? (i := 693) (by decide +kernel)⟩
theorem lw_p27 : lw_okq (⟨"ShipOffice", "menAboard", "(LShipOffice$Voyage;II)I"⟩, 16) := ⟨⟨by decide +kernel, by decide +kernel⟩, List.mem_of_getElem? (i := 17) (by decide +kernel), List.mem_of_getElem? (i := 701) (by decide +kernel), List.mem_of_getElem? (i := 702) (by decide +kernel)⟩
theorem lw_p28 : lw_okq (⟨"ShipOffice", "standing", "(LShipOffice$Agreement;LShipOffice$Fine;I)I"⟩, 16) := ⟨⟨by decide +kernel, by decide +kernel⟩, List.mem_of_getElem? (i := 17) (by decide +kernel), List.mem_of_getElem? (i := 745) (by decide +kernel), List.mem_of_getElem? (i := 746) (by decide +kernel)⟩
theorem lw_p29 : lw_okq (⟨"ShipOffice", "owedOn", "(LShipOffice$Agreement;II)I"⟩, 16) := ⟨⟨by decide +kernel, by decide +kernel⟩, List.mem_of_getElem? (i := 17) (by decide +kernel), List.mem_of_getElem? (i := 762) (by decide +kernel), List.mem_of_getElem? (i := 763) (by decide +kernel)⟩
theorem lw_p30 : lw_okq (⟨"ShipOffice", "isShownTwice", "(LShipOffice$Agreement;)Z"⟩, 16) := ⟨⟨by decide +kernel, by decide +kernel⟩, List.mem_of_getElem? (i := 17) (by decide +kernel), List.mem_of_getElem? (i := 798) (by decide +kernel), List.mem_of_getElem? (i := 799) (by decide +kernel)⟩
theorem lw_p31 : lw_okq (⟨"ShipOffice", "lastDay", "(LShipOffice$Agreement;)I"⟩, 16) := ⟨⟨by decide +kernel, by decide +kernel⟩, List.mem_of_getElem? (i := 17) (by decide +kernel), List.mem_of_getElem? (i := 802) (by decide +kernel), List.mem_of_getElem? (i := 803) (by decide +kernel)⟩
def lw_privs_2 : List (MethodName × Nat) := [(⟨"ShipOffice$Tape", "emit", "(I)V"⟩, 6), (⟨"ShipOffice$Tape", "parseBracket", "(I)V"⟩, 6), (⟨"ShipOffice$Tape", "emitSign", "(I)V"⟩, 6), (⟨"ShipOffice", "manAt", "(I)LShipOffice$Man;"⟩, 16), (⟨"ShipOffice", "isFree", "(LShipOffice$Man;)Z"⟩, 16), (⟨"ShipOffice", "signWorth", "(LShipOffice$Man;II)I"⟩, 16), (⟨"ShipOffice", "askRefusal", "(II)I"⟩, 16), (⟨"ShipOffice$Agreement", "diedBy", "(II)Z"⟩, 18), (⟨"ShipOffice$Agreement", "lastMove", "(II)LShipOffice$Happening;"⟩, 18), (⟨"ShipOffice$Agreement", "nextChange", "(IILShipOffice$Law;)I"⟩, 18), (⟨"ShipOffice", "worthFor", "(ILShipOffice$Agreement;IIII)I"⟩, 16), (⟨"ShipOffice", "menAboard", "(LShipOffice$Voyage;II)I"⟩, 16), (⟨"ShipOffice", "standing", "(LShipOffice$Agreement;LShipOffice$Fine;I)I"⟩, 16), (⟨"ShipOffice", "owedOn", "(LShipOffice$Agreement;II)I"⟩, 16), (⟨"ShipOffice", "isShownTwice", "(LShipOffice$Agreement;)Z"⟩, 16), (⟨"ShipOffice", "lastDay", "(LShipOffice$Agreement;)I"⟩, 16)]
theorem lw_r2 : ∀ q ∈ lw_privs_2, lw_okq q := List.forall_mem_cons.mpr ⟨lw_p16, List.forall_mem_cons.mpr ⟨lw_p17, List.forall_mem_cons.mpr ⟨lw_p18, List.forall_mem_cons.mpr ⟨lw_p19, List.forall_mem_cons.mpr ⟨lw_p20, List.forall_mem_cons.mpr ⟨lw_p21, List.forall_mem_cons.mpr ⟨lw_p22, List.forall_mem_cons.mpr ⟨lw_p23, List.forall_mem_cons.mpr ⟨lw_p24, List.forall_mem_cons.mpr ⟨lw_p25, List.forall_mem_cons.mpr ⟨lw_p26, List.forall_mem_cons.mpr ⟨lw_p27, List.forall_mem_cons.mpr ⟨lw_p28, List.forall_mem_cons.mpr ⟨lw_p29, List.forall_mem_cons.mpr ⟨lw_p30, List.forall_mem_cons.mpr ⟨lw_p31, fun _ h => absurd h List.not_mem_nil⟩⟩⟩⟩⟩⟩⟩⟩⟩⟩⟩⟩⟩⟩⟩⟩
theorem lw_p32 : lw_okq (⟨"ShipOffice$Sea", "shorten", "()V"⟩, 2) := ⟨⟨by decide +kernel, by decide +kernel⟩, List.mem_of_getElem? (i := 119) (by decide +kernel), List.mem_of_getElem? (i := 816) (by decide +kernel), List.mem_of_getElem? (i := 817) (by decide +kernel)⟩
theorem lw_p33 : lw_okq (⟨"ShipOffice$Hiring", "placeIn", "(ILShipOffice$Man;)V"⟩, 6) := ⟨⟨by decide +kernel, by decide +kernel⟩, List.mem_of_getElem? (i := 132) (by decide +kernel), List.mem_of_getElem? (i := 849) (by decide +kernel), List.mem_of_getElem? (i := 850) (by decide +kernel)⟩
theorem lw_p34 : lw_okq (⟨"ShipOffice", "openVoyages", "()I"⟩, 16) := ⟨⟨by decide +kernel, by decide +kernel⟩, List.mem_of_getElem? (i := 17) (by decide +kernel), List.mem_of_getElem? (i := 880) (by decide +kernel), List.mem_of_getElem? (i := 881) (by decide +kernel)⟩
theorem lw_p35 : lw_okq (⟨"ShipOffice", "openAgreements", "()I"⟩, 16) := ⟨⟨by decide +kernel, by decide +kernel⟩, List.mem_of_getElem? (i := 17) (by decide +kernel), List.mem_of_getElem? (i := 884) (by decide +kernel), List.mem_of_getElem? (i := 885) (by decide +kernel)⟩
theorem lw_p36 : lw_okq (⟨"ShipOffice", "menWhoAsk", "()I"⟩, 16) := ⟨⟨by decide +kernel, by decide +kernel⟩, List.mem_of_getElem? (i := 17) (by decide +kernel), List.mem_of_getElem? (i := 888) (by decide +kernel), List.mem_of_getElem? (i := 889) (by decide +kernel)⟩
theorem lw_p37 : lw_okq (⟨"ShipOfficeModel", "refuse", "(I)I"⟩, 63) := ⟨⟨by decide +kernel, by decide +kernel⟩, List.mem_of_getElem? (i := 892) (by decide +kernel), List.mem_of_getElem? (i := 1093) (by decide +kernel), List.mem_of_getElem? (i := 1094) (by decide +kernel)⟩
theorem lw_p38 : lw_okq (⟨"ShipOfficeModel", "isVoyage", "(I)Z"⟩, 63) := ⟨⟨by decide +kernel, by decide +kernel⟩, List.mem_of_getElem? (i := 892) (by decide +kernel), List.mem_of_getElem? (i := 1120) (by decide +kernel), List.mem_of_getElem? (i := 1121) (by decide +kernel)⟩
theorem lw_p39 : lw_okq (⟨"ShipOfficeModel", "wasTold", "(II)Z"⟩, 63) := ⟨⟨by decide +kernel, by decide +kernel⟩, List.mem_of_getElem? (i := 892) (by decide +kernel), List.mem_of_getElem? (i := 1124) (by decide +kernel), List.mem_of_getElem? (i := 1125) (by decide +kernel)⟩
theorem lw_p40 : lw_okq (⟨"ShipOfficeModel", "goesOn", "(I)Z"⟩, 63) := ⟨⟨by decide +kernel, by decide +kernel⟩, List.mem_of_getElem? (i := 892) (by decide +kernel), List.mem_of_getElem? (i := 1128) (by decide +kernel), List.mem_of_getElem? (i := 1129) (by decide +kernel)⟩
theorem lw_p41 : lw_okq (⟨"ShipOfficeModel", "happensTo", "(III)I"⟩, 63) := ⟨⟨by decide +kernel, by decide +kernel⟩, List.mem_of_getElem? (i := 892) (by decide +kernel), List.mem_of_getElem? (i := 1136) (by decide +kernel), List.mem_of_getElem? (i := 1137) (by decide +kernel)⟩
theorem lw_p42 : lw_okq (⟨"ShipOfficeModel", "happens", "(IIIIII)I"⟩, 63) := ⟨⟨by decide +kernel, by decide +kernel⟩, List.mem_of_getElem? (i := 892) (by decide +kernel), List.mem_of_getElem? (i := 1140) (by decide +kernel), List.mem_of_getElem? (i := 1141) (by decide +kernel)⟩
theorem lw_p43 : lw_okq (⟨"ShipOfficeModel", "isAgreement", "(I)Z"⟩, 63) := ⟨⟨by decide +kernel, by decide +kernel⟩, List.mem_of_getElem? (i := 892) (by decide +kernel), List.mem_of_getElem? (i := 1156) (by decide +kernel), List.mem_of_getElem? (i := 1157) (by decide +kernel)⟩
theorem lw_p44 : lw_okq (⟨"ShipOfficeModel", "happensOf", "(III)I"⟩, 63) := ⟨⟨by decide +kernel, by decide +kernel⟩, List.mem_of_getElem? (i := 892) (by decide +kernel), List.mem_of_getElem? (i := 1164) (by decide +kernel), List.mem_of_getElem? (i := 1165) (by decide +kernel)⟩
theorem lw_p45 : lw_okq (⟨"ShipOfficeModel", "goesThrough", "(II)I"⟩, 63) := ⟨⟨by decide +kernel, by decide +kernel⟩, List.mem_of_getElem? (i := 892) (by decide +kernel), List.mem_of_getElem? (i := 1181) (by decide +kernel), List.mem_of_getElem? (i := 1182) (by decide +kernel)⟩
theorem lw_p46 : lw_okq (⟨"ShipOfficeModel", "sum", "()I"⟩, 63) := ⟨⟨by decide +kernel, by decide +kernel⟩, List.mem_of_getElem? (i := 892) (by decide +kernel), List.mem_of_getElem? (i := 1185) (by decide +kernel), List.mem_of_getElem? (i := 1186) (by decide +kernel)⟩
theorem lw_p47 : lw_okq (⟨"ShipOfficeModel", "term", "()I"⟩, 63) := ⟨⟨by decide +kernel, by decide +kernel⟩, List.mem_of_getElem? (i := 892) (by decide +kernel), List.mem_of_getElem? (i := 1189) (by decide +kernel), List.mem_of_getElem? (i := 1190) (by decide +kernel)⟩
def lw_privs_3 : List (MethodName × Nat) := [(⟨"ShipOffice$Sea", "shorten", "()V"⟩, 2), (⟨"ShipOffice$Hiring", "placeIn", "(ILShipOffice$Man;)V"⟩, 6), (⟨"ShipOffice", "openVoyages", "()I"⟩, 16), (⟨"ShipOffice", "openAgreements", "()I"⟩, 16), (⟨"ShipOffice", "menWhoAsk", "()I"⟩, 16), (⟨"ShipOfficeModel", "refuse", "(I)I"⟩, 63), (⟨"ShipOfficeModel", "isVoyage", "(I)Z"⟩, 63), (⟨"ShipOfficeModel", "wasTold", "(II)Z"⟩, 63), (⟨"ShipOfficeModel", "goesOn", "(I)Z"⟩, 63), (⟨"ShipOfficeModel", "happensTo", "(III)I"⟩, 63), (⟨"ShipOfficeModel", "happens", "(IIIIII)I"⟩, 63), (⟨"ShipOfficeModel", "isAgreement", "(I)Z"⟩, 63), (⟨"ShipOfficeModel", "happensOf", "(III)I"⟩, 63), (⟨"ShipOfficeModel", "goesThrough", "(II)I"⟩, 63), (⟨"ShipOfficeModel", "sum", "()I"⟩, 63), (⟨"ShipOfficeModel", "term", "()I"⟩, 63)]
theorem lw_r3 : ∀ q ∈ lw_privs_3, lw_okq q := List.forall_mem_cons.mpr ⟨lw_p32, List.forall_mem_cons.mpr ⟨lw_p33, List.forall_mem_cons.mpr ⟨lw_p34, List.forall_mem_cons.mpr ⟨lw_p35, List.forall_mem_cons.mpr ⟨lw_p36, List.forall_mem_cons.mpr ⟨lw_p37, List.forall_mem_cons.mpr ⟨lw_p38, List.forall_mem_cons.mpr ⟨lw_p39, List.forall_mem_cons.mpr ⟨lw_p40, List.forall_mem_cons.mpr ⟨lw_p41, List.forall_mem_cons.mpr ⟨lw_p42, List.forall_mem_cons.mpr ⟨lw_p43, List.forall_mem_cons.mpr ⟨lw_p44, List.forall_mem_cons.mpr ⟨lw_p45, List.forall_mem_cons.mpr ⟨lw_p46, List.forall_mem_cons.mpr ⟨lw_p47, fun _ h => absurd h List.not_mem_nil⟩⟩⟩⟩⟩⟩⟩⟩⟩⟩⟩⟩⟩⟩⟩⟩
theorem lw_p48 : lw_okq (⟨"ShipOfficeModel", "unit", "()I"⟩, 63) := ⟨⟨by decide +kernel, by decide +kernel⟩, List.mem_of_getElem? (i := 892) (by decide +kernel), List.mem_of_getElem? (i := 1193) (by decide +kernel), List.mem_of_getElem? (i := 1194) (by decide +kernel)⟩
theorem lw_p49 : lw_okq (⟨"ShipOfficeModel", "sign", "()I"⟩, 63) := ⟨⟨by decide +kernel, by decide +kernel⟩, List.mem_of_getElem? (i := 892) (by decide +kernel), List.mem_of_getElem? (i := 1197) (by decide +kernel), List.mem_of_getElem? (i := 1198) (by decide +kernel)⟩
theorem lw_p50 : lw_okq (⟨"ShipOfficeModel", "breaks", "()I"⟩, 63) := ⟨⟨by decide +kernel, by decide +kernel⟩, List.mem_of_getElem? (i := 892) (by decide +kernel), List.mem_of_getElem? (i := 1209) (by decide +kernel), List.mem_of_getElem? (i := 1210) (by decide +kernel)⟩
theorem lw_p51 : lw_okq (⟨"ShipOfficeModel", "takes", "(I)Z"⟩, 63) := ⟨⟨by decide +kernel, by decide +kernel⟩, List.mem_of_getElem? (i := 892) (by decide +kernel), List.mem_of_getElem? (i := 1213) (by decide +kernel), List.mem_of_getElem? (i := 1214) (by decide +kernel)⟩
theorem lw_p52 : lw_okq (⟨"ShipOfficeModel", "isMan", "(I)Z"⟩, 63) := ⟨⟨by decide +kernel, by decide +kernel⟩, List.mem_of_getElem? (i := 892) (by decide +kernel), List.mem_of_getElem? (i := 1221) (by decide +kernel), List.mem_of_getElem? (i := 1222) (by decide +kernel)⟩
theorem lw_p53 : lw_okq (⟨"ShipOfficeModel", "bare", "()V"⟩, 63) := ⟨⟨by decide +kernel, by decide +kernel⟩, List.mem_of_getElem? (i := 892) (by decide +kernel), List.mem_of_getElem? (i := 1225) (by decide +kernel), List.mem_of_getElem? (i := 1226) (by decide +kernel)⟩
theorem lw_p54 : lw_okq (⟨"ShipOfficeModel", "worth", "(II)I"⟩, 63) := ⟨⟨by decide +kernel, by decide +kernel⟩, List.mem_of_getElem? (i := 892) (by decide +kernel), List.mem_of_getElem? (i := 1229) (by decide +kernel), List.mem_of_getElem? (i := 1230) (by decide +kernel)⟩
theorem lw_p55 : lw_okq (⟨"ShipOfficeModel", "actOn", "(II)I"⟩, 63) := ⟨⟨by decide +kernel, by decide +kernel⟩, List.mem_of_getElem? (i := 892) (by decide +kernel), List.mem_of_getElem? (i := 1233) (by decide +kernel), List.mem_of_getElem? (i := 1234) (by decide +kernel)⟩
theorem lw_p56 : lw_okq (⟨"ShipOfficeModel", "wrongTimes", "(II)I"⟩, 63) := ⟨⟨by decide +kernel, by decide +kernel⟩, List.mem_of_getElem? (i := 892) (by decide +kernel), List.mem_of_getElem? (i := 1245) (by decide +kernel), List.mem_of_getElem? (i := 1246) (by decide +kernel)⟩
theorem lw_p57 : lw_okq (⟨"ShipOfficeModel", "stateOf", "(III)I"⟩, 63) := ⟨⟨by decide +kernel, by decide +kernel⟩, List.mem_of_getElem? (i := 892) (by decide +kernel), List.mem_of_getElem? (i := 1249) (by decide +kernel), List.mem_of_getElem? (i := 1250) (by decide +kernel)⟩
theorem lw_p58 : lw_okq (⟨"ShipOfficeModel", "isDead", "(III)Z"⟩, 63) := ⟨⟨by decide +kernel, by decide +kernel⟩, List.mem_of_getElem? (i := 892) (by decide +kernel), List.mem_of_getElem? (i := 1253) (by decide +kernel), List.mem_of_getElem? (i := 1254) (by decide +kernel)⟩
theorem lw_p59 : lw_okq (⟨"ShipOfficeModel", "whereOf", "(III)I"⟩, 63) := ⟨⟨by decide +kernel, by decide +kernel⟩, List.mem_of_getElem? (i := 892) (by decide +kernel), List.mem_of_getElem? (i := 1257) (by decide +kernel), List.mem_of_getElem? (i := 1258) (by decide +kernel)⟩
theorem lw_p60 : lw_okq (⟨"ShipOfficeModel", "hasSailed", "(III)Z"⟩, 63) := ⟨⟨by decide +kernel, by decide +kernel⟩, List.mem_of_getElem? (i := 892) (by decide +kernel), List.mem_of_getElem? (i := 1261) (by decide +kernel), List.mem_of_getElem? (i := 1262) (by decide +kernel)⟩
theorem lw_p61 : lw_okq (⟨"ShipOfficeModel", "sailedOn", "(II)I"⟩, 63) := ⟨⟨by decide +kernel, by decide +kernel⟩, List.mem_of_getElem? (i := 892) (by decide +kernel), List.mem_of_getElem? (i := 1265) (by decide +kernel), List.mem_of_getElem? (i := 1266) (by decide +kernel)⟩
theorem lw_p62 : lw_okq (⟨"ShipOfficeModel", "isUnknown", "(III)Z"⟩, 63) := ⟨⟨by decide +kernel, by decide +kernel⟩, List.mem_of_getElem? (i := 892) (by decide +kernel), List.mem_of_getElem? (i := 1269) (by decide +kernel), List.mem_of_getElem? (i := 1270) (by decide +kernel)⟩
theorem lw_p63 : lw_okq (⟨"ShipOfficeModel", "lastHeard", "(III)I"⟩, 63) := ⟨⟨by decide +kernel, by decide +kernel⟩, List.mem_of_getElem? (i := 892) (by decide +kernel), List.mem_of_getElem? (i := 1273) (by decide +kernel), List.mem_of_getElem? (i := 1274) (by decide +kernel)⟩
def lw_privs_4 : List (MethodName × Nat) := [(⟨"ShipOfficeModel", "unit", "()I"⟩, 63), (⟨"ShipOfficeModel", "sign", "()I"⟩, 63), (⟨"ShipOfficeModel", "breaks", "()I"⟩, 63), (⟨"ShipOfficeModel", "takes", "(I)Z"⟩, 63), (⟨"ShipOfficeModel", "isMan", "(I)Z"⟩, 63), (⟨"ShipOfficeModel", "bare", "()V"⟩, 63), (⟨"ShipOfficeModel", "worth", "(II)I"⟩, 63), (⟨"ShipOfficeModel", "actOn", "(II)I"⟩, 63), (⟨"ShipOfficeModel", "wrongTimes", "(II)I"⟩, 63), (⟨"ShipOfficeModel", "stateOf", "(III)I"⟩, 63), (⟨"ShipOfficeModel", "isDead", "(III)Z"⟩, 63), (⟨"ShipOfficeModel", "whereOf", "(III)I"⟩, 63), (⟨"ShipOfficeModel", "hasSailed", "(III)Z"⟩, 63), (⟨"ShipOfficeModel", "sailedOn", "(II)I"⟩, 63), (⟨"ShipOfficeModel", "isUnknown", "(III)Z"⟩, 63), (⟨"ShipOfficeModel", "lastHeard", "(III)I"⟩, 63)]
theorem lw_r4 : ∀ q ∈ lw_privs_4, lw_okq q := List.forall_mem_cons.mpr ⟨lw_p48, List.forall_mem_cons.mpr ⟨lw_p49, List.forall_mem_cons.mpr ⟨lw_p50, List.forall_mem_cons.mpr ⟨lw_p51, List.forall_mem_cons.mpr ⟨lw_p52, List.forall_mem_cons.mpr ⟨lw_p53, List.forall_mem_cons.mpr ⟨lw_p54, List.forall_mem_cons.mpr ⟨lw_p55, List.forall_mem_cons.mpr ⟨lw_p56, List.forall_mem_cons.mpr ⟨lw_p57, List.forall_mem_cons.mpr ⟨lw_p58, List.forall_mem_cons.mpr ⟨lw_p59, List.forall_mem_cons.mpr ⟨lw_p60, List.forall_mem_cons.mpr ⟨lw_p61, List.forall_mem_cons.mpr ⟨lw_p62, List.forall_mem_cons.mpr ⟨lw_p63, fun _ h => absurd h List.not_mem_nil⟩⟩⟩⟩⟩⟩⟩⟩⟩⟩⟩⟩⟩⟩⟩⟩
theorem lw_p64 : lw_okq (⟨"ShipOfficeModel", "earnsOf", "(III)I"⟩, 63) := ⟨⟨by decide +kernel, by decide +kernel⟩, List.mem_of_getElem? (i := 892) (by decide +kernel), List.mem_of_getElem? (i := 1281) (by decide +kernel), List.mem_of_getElem? (i := 1282) (by decide +kernel)⟩
theorem lw_p65 : lw_okq (⟨"ShipOfficeModel", "puts", "(IIIIZ)V"⟩, 63) := ⟨⟨by decide +kernel, by decide +kernel⟩, List.mem_of_getElem? (i := 892) (by decide +kernel), List.mem_of_getElem? (i := 1297) (by decide +kernel), List.mem_of_getElem? (i := 1298) (by decide +kernel)⟩
theorem lw_p66 : lw_okq (⟨"ShipOfficeModel", "aboardOf", "(III)I"⟩, 63) := ⟨⟨by decide +kernel, by decide +kernel⟩, List.mem_of_getElem? (i := 892) (by decide +kernel), List.mem_of_getElem? (i := 1301) (by decide +kernel), List.mem_of_getElem? (i := 1302) (by decide +kernel)⟩
theorem lw_p67 : lw_okq (⟨"ShipOfficeModel", "isFine", "(II)Z"⟩, 63) := ⟨⟨by decide +kernel, by decide +kernel⟩, List.mem_of_getElem? (i := 892) (by decide +kernel), List.mem_of_getElem? (i := 1314) (by decide +kernel), List.mem_of_getElem? (i := 1315) (by decide +kernel)⟩
theorem lw_p68 : lw_okq (⟨"ShipOfficeModel", "standsOf", "(III)I"⟩, 63) := ⟨⟨by decide +kernel, by decide +kernel⟩, List.mem_of_getElem? (i := 892) (by decide +kernel), List.mem_of_getElem? (i := 1322) (by decide +kernel), List.mem_of_getElem? (i := 1323) (by decide +kernel)⟩
theorem lw_p69 : lw_okq (⟨"ShipOfficeModel", "refuseFar", "(I)I"⟩, 63) := ⟨⟨by decide +kernel, by decide +kernel⟩, List.mem_of_getElem? (i := 892) (by decide +kernel), List.mem_of_getElem? (i := 1334) (by decide +kernel), List.mem_of_getElem? (i := 1335) (by decide +kernel)⟩
theorem lw_p70 : lw_okq (⟨"ShipOfficeModel", "owedOf", "(III)I"⟩, 63) := ⟨⟨by decide +kernel, by decide +kernel⟩, List.mem_of_getElem? (i := 892) (by decide +kernel), List.mem_of_getElem? (i := 1339) (by decide +kernel), List.mem_of_getElem? (i := 1340) (by decide +kernel)⟩
theorem lw_p71 : lw_okq (⟨"ShipOfficeModel", "findGroups", "()V"⟩, 63) := ⟨⟨by decide +kernel, by decide +kernel⟩, List.mem_of_getElem? (i := 892) (by decide +kernel), List.mem_of_getElem? (i := 1356) (by decide +kernel), List.mem_of_getElem? (i := 1357) (by decide +kernel)⟩
theorem lw_p72 : lw_okq (⟨"ShipOfficeModel", "isAlike", "(II)Z"⟩, 63) := ⟨⟨by decide +kernel, by decide +kernel⟩, List.mem_of_getElem? (i := 892) (by decide +kernel), List.mem_of_getElem? (i := 1360) (by decide +kernel), List.mem_of_getElem? (i := 1361) (by decide +kernel)⟩
theorem lw_p73 : lw_okq (⟨"ShipOfficeModel", "endOf", "(I)I"⟩, 63) := ⟨⟨by decide +kernel, by decide +kernel⟩, List.mem_of_getElem? (i := 892) (by decide +kernel), List.mem_of_getElem? (i := 1368) (by decide +kernel), List.mem_of_getElem? (i := 1369) (by decide +kernel)⟩
theorem lw_p74 : lw_okq (⟨"ShipOfficeModel", "wayTo", "(II)I"⟩, 63) := ⟨⟨by decide +kernel, by decide +kernel⟩, List.mem_of_getElem? (i := 892) (by decide +kernel), List.mem_of_getElem? (i := 1376) (by decide +kernel), List.mem_of_getElem? (i := 1377) (by decide +kernel)⟩
theorem lw_p75 : lw_okq (⟨"ShipOfficeModel", "asksAny", "(I)Z"⟩, 63) := ⟨⟨by decide +kernel, by decide +kernel⟩, List.mem_of_getElem? (i := 892) (by decide +kernel), List.mem_of_getElem? (i := 1388) (by decide +kernel), List.mem_of_getElem? (i := 1389) (by decide +kernel)⟩
theorem lw_p76 : lw_okq (⟨"ShipOfficeModel", "isFree", "(I)Z"⟩, 63) := ⟨⟨by decide +kernel, by decide +kernel⟩, List.mem_of_getElem? (i := 892) (by decide +kernel), List.mem_of_getElem? (i := 1392) (by decide +kernel), List.mem_of_getElem? (i := 1393) (by decide +kernel)⟩
theorem lw_p77 : lw_okq (⟨"ShipOfficeModel", "chooses", "(III)V"⟩, 63) := ⟨⟨by decide +kernel, by decide +kernel⟩, List.mem_of_getElem? (i := 892) (by decide +kernel), List.mem_of_getElem? (i := 1396) (by decide +kernel), List.mem_of_getElem? (i := 1397) (by decide +kernel)⟩
def lw_privs_5 : List (MethodName × Nat) := [(⟨"ShipOfficeModel", "earnsOf", "(III)I"⟩, 63), (⟨"ShipOfficeModel", "puts", "(IIIIZ)V"⟩, 63), (⟨"ShipOfficeModel", "aboardOf", "(III)I"⟩, 63), (⟨"ShipOfficeModel", "isFine", "(II)Z"⟩, 63), (⟨"ShipOfficeModel", "standsOf", "(III)I"⟩, 63), (⟨"ShipOfficeModel", "refuseFar", "(I)I"⟩, 63), (⟨"ShipOfficeModel", "owedOf", "(III)I"⟩, 63), (⟨"ShipOfficeModel", "findGroups", "()V"⟩, 63), (⟨"ShipOfficeModel", "isAlike", "(II)Z"⟩, 63), (⟨"ShipOfficeModel", "endOf", "(I)I"⟩, 63), (⟨"ShipOfficeModel", "wayTo", "(II)I"⟩, 63), (⟨"ShipOfficeModel", "asksAny", "(I)Z"⟩, 63), (⟨"ShipOfficeModel", "isFree", "(I)Z"⟩, 63), (⟨"ShipOfficeModel", "chooses", "(III)V"⟩, 63)]
theorem lw_r5 : ∀ q ∈ lw_privs_5, lw_okq q := List.forall_mem_cons.mpr ⟨lw_p64, List.forall_mem_cons.mpr ⟨lw_p65, List.forall_mem_cons.mpr ⟨lw_p66, List.forall_mem_cons.mpr ⟨lw_p67, List.forall_mem_cons.mpr ⟨lw_p68, List.forall_mem_cons.mpr ⟨lw_p69, List.forall_mem_cons.mpr ⟨lw_p70, List.forall_mem_cons.mpr ⟨lw_p71, List.forall_mem_cons.mpr ⟨lw_p72, List.forall_mem_cons.mpr ⟨lw_p73, List.forall_mem_cons.mpr ⟨lw_p74, List.forall_mem_cons.mpr ⟨lw_p75, List.forall_mem_cons.mpr ⟨lw_p76, List.forall_mem_cons.mpr ⟨lw_p77, fun _ h => absurd h List.not_mem_nil⟩⟩⟩⟩⟩⟩⟩⟩⟩⟩⟩⟩⟩⟩
def lw_privs : List (MethodName × Nat) := lw_privs_1 ++ (lw_privs_2 ++ (lw_privs_3 ++ (lw_privs_4 ++ (lw_privs_5))))
def lw_tbl : List Cond := k2_sels lw_privs ++ tables_1
theorem lw_privs_ok : ∀ q ∈ lw_privs, lw_okq q := by
  show ∀ q ∈ lw_privs_1 ++ (lw_privs_2 ++ (lw_privs_3 ++ (lw_privs_4 ++ (lw_privs_5)))), lw_okq q
  exact List.forall_mem_append.mpr ⟨lw_r1, List.forall_mem_append.mpr ⟨lw_r2, List.forall_mem_append.mpr ⟨lw_r3, List.forall_mem_append.mpr ⟨lw_r4, lw_r5⟩⟩⟩⟩

def RX0 : String := "ShipOffice$Act"
def TX0 : u_T := fun k => match k with
  | 0 => ("ShipOffice$Act", "purpose", "I", true)
  | 1 => ("ShipOffice$Act", "day", "I", true)
  | 2 => ("ShipOffice$Act", "plainWorth", "I", true)
  | 3 => ("ShipOffice$Act", "code", "[I", true)
  | _ => ("ShipOffice$Act", "stack", "[I", true)
def RX1 : String := "ShipOffice$Agreement"
def TX1 : u_T := fun k => match k with
  | 0 => ("ShipOffice$Agreement", "man", "LShipOffice$Man;", true)
  | 1 => ("ShipOffice$Agreement", "voyage", "LShipOffice$Voyage;", true)
  | 2 => ("ShipOffice$Agreement", "signedOn", "I", true)
  | 3 => ("ShipOffice$Agreement", "paper", "LShipOffice$Agreement;", true)
  | 4 => ("ShipOffice$Agreement", "wage", "I", false)
  | 5 => ("ShipOffice$Agreement", "rank", "I", false)
  | 6 => ("ShipOffice$Agreement", "offDay", "I", false)
  | 7 => ("ShipOffice$Agreement", "isDead", "Z", false)
  | 8 => ("ShipOffice$Agreement", "tidings", "LShipOffice$Happening;", false)
  | 9 => ("ShipOffice$Agreement", "note", "I", false)
  | 10 => ("ShipOffice$Agreement", "given", "I", false)
  | 11 => ("ShipOffice$Agreement", "allotment", "I", false)
  | 12 => ("ShipOffice$Agreement", "fines", "[LShipOffice$Fine;", true)
  | 13 => ("ShipOffice$Agreement", "fineCount", "I", false)
  | 14 => ("ShipOffice$Agreement", "shortTold", "[I", true)
  | 15 => ("ShipOffice$Agreement", "shortSum", "[I", true)
  | 16 => ("ShipOffice$Agreement", "shortCount", "I", false)
  | _ => ("ShipOffice$Agreement", "shortDays", "I", false)
def RX2 : String := "ShipOffice$Fine"
def TX2 : u_T := fun k => match k with
  | 0 => ("ShipOffice$Fine", "day", "I", true)
  | 1 => ("ShipOffice$Fine", "sum", "I", true)
  | _ => ("ShipOffice$Fine", "isRead", "Z", false)
def RX3 : String := "ShipOffice$Happening"
def TX3 : u_T := fun k => match k with
  | 0 => ("ShipOffice$Happening", "kind", "I", true)
  | 1 => ("ShipOffice$Happening", "day", "I", true)
  | 2 => ("ShipOffice$Happening", "told", "I", true)
  | 3 => ("ShipOffice$Happening", "way", "I", true)
  | 4 => ("ShipOffice$Happening", "port", "I", true)
  | _ => ("ShipOffice$Happening", "before", "LShipOffice$Happening;", true)
def RX4 : String := "ShipOffice$Hiring"
def TX4 : u_T := fun k => match k with
  | 0 => ("ShipOffice$Hiring", "best", "[J", true)
  | 1 => ("ShipOffice$Hiring", "offers", "[I", true)
  | 2 => ("ShipOffice$Hiring", "offerCount", "I", false)
  | 3 => ("ShipOffice$Hiring", "firstPlace", "[I", true)
  | 4 => ("ShipOffice$Hiring", "goal", "I", false)
  | _ => ("ShipOffice$Hiring", "places", "I", false)
def RX5 : String := "ShipOffice$Law"
def TX5 : u_T := fun k => match k with
  | 0 => ("ShipOffice$Law", "acts", "[LShipOffice$Act;", true)
  | 1 => ("ShipOffice$Law", "customs", "[LShipOffice$Act;", true)
  | _ => ("ShipOffice$Law", "actCount", "I", false)
def RX6 : String := "ShipOffice$Man"
def TX6 : u_T := fun k => match k with
  | 0 => ("ShipOffice$Man", "number", "I", true)
  | 1 => ("ShipOffice$Man", "name", "I", true)
  | 2 => ("ShipOffice$Man", "marks", "I", true)
  | 3 => ("ShipOffice$Man", "born", "I", true)
  | 4 => ("ShipOffice$Man", "wages", "[I", true)
  | _ => ("ShipOffice$Man", "leastAlike", "I", false)
def RX7 : String := "ShipOffice$Sea"
def TX7 : u_T := fun k => match k with
  | 0 => ("ShipOffice$Sea", "miles", "[I", true)
  | _ => ("ShipOffice$Sea", "least", "[I", true)
def RX8 : String := "ShipOffice$Tape"
def TX8 : u_T := fun k => match k with
  | 0 => ("ShipOffice$Tape", "bytes", "[I", true)
  | 1 => ("ShipOffice$Tape", "size", "I", false)
  | 2 => ("ShipOffice$Tape", "code", "[I", true)
  | 3 => ("ShipOffice$Tape", "codeSize", "I", false)
  | 4 => ("ShipOffice$Tape", "at", "I", false)
  | _ => ("ShipOffice$Tape", "fault", "I", false)
def RX9 : String := "ShipOffice$Voyage"
def TX9 : u_T := fun k => match k with
  | 0 => ("ShipOffice$Voyage", "number", "I", true)
  | 1 => ("ShipOffice$Voyage", "ship", "I", true)
  | 2 => ("ShipOffice$Voyage", "port", "I", true)
  | 3 => ("ShipOffice$Voyage", "openedOn", "I", true)
  | 4 => ("ShipOffice$Voyage", "isOver", "Z", false)
  | 5 => ("ShipOffice$Voyage", "sailedDay", "I", false)
  | 6 => ("ShipOffice$Voyage", "sailedTold", "I", false)
  | 7 => ("ShipOffice$Voyage", "lostDay", "I", false)
  | 8 => ("ShipOffice$Voyage", "lostTold", "I", false)
  | _ => ("ShipOffice$Voyage", "heardOf", "LShipOffice$Happening;", false)
def RX10 : String := "ShipOffice"
def TX10 : u_T := fun k => match k with
  | 0 => ("ShipOffice", "now", "I", false)
  | 1 => ("ShipOffice", "men", "[LShipOffice$Man;", true)
  | 2 => ("ShipOffice", "manCount", "I", false)
  | 3 => ("ShipOffice", "voyages", "[LShipOffice$Voyage;", true)
  | 4 => ("ShipOffice", "voyageCount", "I", false)
  | 5 => ("ShipOffice", "agreements", "[LShipOffice$Agreement;", true)
  | 6 => ("ShipOffice", "agreementCount", "I", false)
  | 7 => ("ShipOffice", "happeningCount", "I", false)
  | 8 => ("ShipOffice", "law", "LShipOffice$Law;", true)
  | 9 => ("ShipOffice", "tape", "LShipOffice$Tape;", true)
  | 10 => ("ShipOffice", "sea", "LShipOffice$Sea;", true)
  | 11 => ("ShipOffice", "hiring", "LShipOffice$Hiring;", true)
  | 12 => ("ShipOffice", "letters", "[I", true)
  | 13 => ("ShipOffice", "row", "[I", true)
  | 14 => ("ShipOffice", "rowCount", "I", false)
  | _ => ("ShipOffice", "refusals", "[I", true)
def RX11 : String := "ShipOfficeModel"
def TX11 : u_T := fun k => match k with
  | 0 => ("ShipOfficeModel", "refusals", "[I", true)
  | 1 => ("ShipOfficeModel", "mile", "[I", true)
  | 2 => ("ShipOfficeModel", "name", "[I", true)
  | 3 => ("ShipOfficeModel", "marks", "[I", true)
  | 4 => ("ShipOfficeModel", "born", "[I", true)
  | 5 => ("ShipOfficeModel", "asks", "[I", true)
  | 6 => ("ShipOfficeModel", "ship", "[I", true)
  | 7 => ("ShipOfficeModel", "opened", "[I", true)
  | 8 => ("ShipOfficeModel", "openPort", "[I", true)
  | 9 => ("ShipOfficeModel", "endedOn", "[I", true)
  | 10 => ("ShipOfficeModel", "what", "[I", true)
  | 11 => ("ShipOfficeModel", "whose", "[I", true)
  | 12 => ("ShipOfficeModel", "day", "[I", true)
  | 13 => ("ShipOfficeModel", "known", "[I", true)
  | 14 => ("ShipOfficeModel", "way", "[I", true)
  | 15 => ("ShipOfficeModel", "port", "[I", true)
  | 16 => ("ShipOfficeModel", "textSize", "[I", true)
  | 17 => ("ShipOfficeModel", "purpose", "[I", true)
  | 18 => ("ShipOfficeModel", "from", "[I", true)
  | 19 => ("ShipOfficeModel", "text", "[I", true)
  | 20 => ("ShipOfficeModel", "man", "[I", true)
  | 21 => ("ShipOfficeModel", "voyage", "[I", true)
  | 22 => ("ShipOfficeModel", "wage", "[I", true)
  | 23 => ("ShipOfficeModel", "rank", "[I", true)
  | 24 => ("ShipOfficeModel", "paper", "[I", true)
  | 25 => ("ShipOfficeModel", "signed", "[I", true)
  | 26 => ("ShipOfficeModel", "offOn", "[I", true)
  | 27 => ("ShipOfficeModel", "note", "[I", true)
  | 28 => ("ShipOfficeModel", "given", "[I", true)
  | 29 => ("ShipOfficeModel", "allotted", "[I", true)
  | 30 => ("ShipOfficeModel", "fines", "[I", true)
  | 31 => ("ShipOfficeModel", "shorts", "[I", true)
  | 32 => ("ShipOfficeModel", "shortDays", "[I", true)
  | 33 => ("ShipOfficeModel", "fineDay", "[I", true)
  | 34 => ("ShipOfficeModel", "fineSum", "[I", true)
  | 35 => ("ShipOfficeModel", "shortOn", "[I", true)
  | 36 => ("ShipOfficeModel", "shortSum", "[I", true)
  | 37 => ("ShipOfficeModel", "isRead", "[Z", true)
  | 38 => ("ShipOfficeModel", "now", "I", false)
  | 39 => ("ShipOfficeModel", "men", "I", false)
  | 40 => ("ShipOfficeModel", "voyages", "I", false)
  | 41 => ("ShipOfficeModel", "happened", "I", false)
  | 42 => ("ShipOfficeModel", "acts", "I", false)
  | 43 => ("ShipOfficeModel", "agreements", "I", false)
  | 44 => ("ShipOfficeModel", "tape", "[I", true)
  | 45 => ("ShipOfficeModel", "letters", "[I", true)
  | 46 => ("ShipOfficeModel", "taped", "I", false)
  | 47 => ("ShipOfficeModel", "at", "I", false)
  | 48 => ("ShipOfficeModel", "deep", "I", false)
  | 49 => ("ShipOfficeModel", "base", "I", false)
  | 50 => ("ShipOfficeModel", "size", "I", false)
  | 51 => ("ShipOfficeModel", "isWell", "Z", false)
  | 52 => ("ShipOfficeModel", "groups", "[I", true)
  | 53 => ("ShipOfficeModel", "far", "[I", true)
  | 54 => ("ShipOfficeModel", "some", "[I", true)
  | 55 => ("ShipOfficeModel", "handRank", "[I", true)
  | 56 => ("ShipOfficeModel", "hand", "[I", true)
  | 57 => ("ShipOfficeModel", "best", "[I", true)
  | 58 => ("ShipOfficeModel", "someMany", "I", false)
  | 59 => ("ShipOfficeModel", "hands", "I", false)
  | 60 => ("ShipOfficeModel", "least", "I", false)
  | 61 => ("ShipOfficeModel", "row", "[I", true)
  | _ => ("ShipOfficeModel", "rowed", "I", false)
abbrev vwCl : List vw_C := [(RX0, TX0, 5), (RX1, TX1, 18), (RX2, TX2, 3), (RX3, TX3, 6), (RX4, TX4, 6), (RX5, TX5, 3), (RX6, TX6, 6), (RX7, TX7, 2), (RX8, TX8, 6), (RX9, TX9, 10), (RX10, TX10, 16), (RX11, TX11, 63)]



/-- an int in its bounds, as the classes ask for it -/
def isI (v n : Int32) : Int32 := if v < 0 then 0 else if n ≤ v then 0 else 1
def pcW (D : va_G) (tys : List (ClassId × FieldType)) (ws : va_W) (sz : Nat) : State → Prop := fun U => U.heap.size = sz ∧ va_P D vwCl ws U.heap ∧ va_K D vwCl tys U ∧ va_D (fun _ => True) ws
/-- the statics: two tables, two links of nest mates, the classes of four arrays -/
def stZ (A : Nat → Prop) (tL tS : Nat) (U : State) (H : Heap) : Prop :=
  va_Z "ShipOffice" "LETTERS" "[C" (.ref tL) A U H ∧ va_T .char tL 8 (fun j => .int (([119, 114, 97, 100, 110, 115, 108, 120] : List Int32).getD j 0)) A U H ∧ va_Z "ShipOffice$Hiring" "STEP" "[I" (.ref tS) A U H ∧ va_T .int tS 4 (fun j => .int (([1, 3, 9, 27] : List Int32).getD j 0)) A U H ∧ va_Nw (.fieldLinkNest "ShipOffice$Act" 23 "ShipOffice" "LETTERS" "[C" "ShipOffice") U ∧ va_Nw (.fieldLinkNest "ShipOffice$Tape" 67 "ShipOffice" "LETTERS" "[C" "ShipOffice") U ∧ va_AO "ShipOffice$Act" U ∧ va_AO "ShipOffice$Man" U ∧ va_AO "ShipOffice$Voyage" U ∧ va_AO "ShipOffice$Agreement" U
def pcS (D : va_G) (tys : List (ClassId × FieldType)) (ws : va_W) (sz : Nat) (tL tS : Nat) (wa : va_W) : State → Prop := fun U => pcW D tys ws sz U ∧ stZ (va_A wa sz) tL tS U U.heap
theorem stZ.go {A B : Nat → Prop} {tL tS : Nat} {s : State} {H : Heap} {locs : List Loc} (h : stZ A tL tS s s.heap) (hS : va_S A s.heap H locs) (hB : ∀ q, B q → A q) : ∀ U : State, U.heap = H → s.WarmedH U.vm → stZ B tL tS U U.heap := by
  intro U hU hW
  subst hU
  obtain ⟨h1, h2, h3, h4, h5, h6, h7, h8, h9, h10⟩ := h
  exact ⟨((h1.kept hS.2.1).moved hW.alike).narrow hB, ((h2.kept hS.2.1).moved hW.alike).narrow hB, ((h3.kept hS.2.1).moved hW.alike).narrow hB, ((h4.kept hS.2.1).moved hW.alike).narrow hB, h5.warmF hW, h6.warmF hW, h7.moved hW.alike, h8.moved hW.alike, h9.moved hW.alike, h10.moved hW.alike⟩
theorem fb_W {D : va_G} {tys : List (ClassId × FieldType)} {ws : va_W} {sz : Nat} {av : List Value} : FrameBlind (va_Pc av (pcW D tys ws sz)) := fun a U g mk q => by
  obtain ⟨q0, q1, qP, qK, qD⟩ := q
  exact ⟨q0, q1, qP, va_K.moved (u := U) (U := U.calling g mk a) (Vm.Alike.refl U.vm) qK, qD⟩
theorem fb_S {D : va_G} {tys : List (ClassId × FieldType)} {ws wa : va_W} {sz tL tS : Nat} {av : List Value} : FrameBlind (va_Pc av (pcS D tys ws sz tL tS wa)) := fun a U g mk q => by
  obtain ⟨q0, ⟨q1, qP, qK, qD⟩, h1, h2, h3, h4, h5, h6, h7, h8, h9, h10⟩ := q
  have e := Vm.Alike.refl U.vm
  exact ⟨q0, ⟨q1, qP, va_K.moved (u := U) (U := U.calling g mk a) e qK, qD⟩, va_Z.moved (u := U) (U := U.calling g mk a) e h1, va_T.moved (u := U) (U := U.calling g mk a) e h2, va_Z.moved (u := U) (U := U.calling g mk a) e h3, va_T.moved (u := U) (U := U.calling g mk a) e h4, va_Nw.same (u := U) (U := U.calling g mk a) rfl rfl h5, va_Nw.same (u := U) (U := U.calling g mk a) rfl rfl h6, va_AO.moved (u := U) (U := U.calling g mk a) e h7, va_AO.moved (u := U) (U := U.calling g mk a) e h8, va_AO.moved (u := U) (U := U.calling g mk a) e h9, va_AO.moved (u := U) (U := U.calling g mk a) e h10⟩
theorem pr_S {s : State} {H : Heap} {D : va_G} {tys : List (ClassId × FieldType)} {ws : va_W} {A : Nat → Prop} {As : List Value} (hP : va_P D vwCl ws H) (hK : va_K D vwCl tys s) (hD : va_D A ws) : PreS s H (va_Pc As (pcW D tys ws H.size)) As :=
  ⟨fb_W, fun U hU hW => ⟨rfl, by rw [hU], by rw [hU]; exact hP, va_K.moved hW.alike hK, hD.weaken (fun _ _ _ _ => trivial)⟩⟩
theorem pr_V {s : State} {H : Heap} {D : va_G} {tys : List (ClassId × FieldType)} {ws : va_W} {A : Nat → Prop} {As : List Value} {b : Nat} {r : vw_C} {fs : List Value} (hP : va_P D vwCl ws H) (hK : va_K D vwCl tys s) (hD : va_D A ws) (q0 ci : Nat) (hc : vwCl[ci]? = some r) (he : ws[q0]? = some (b, .inr (ci, fs))) : PreV s H r.1 b (va_Pc (.ref b :: As) (pcW D tys ws H.size)) As :=
  ⟨fb_W, va_recv hK hP hc he, fun U hU hW => ⟨rfl, by rw [hU], by rw [hU]; exact hP, va_K.moved hW.alike hK, hD.weaken (fun _ _ _ _ => trivial)⟩⟩
theorem pu_free {A0 : Nat → Prop} {H0 H : Heap} {locs : List Loc} (hS : va_S A0 H0 H locs) (hA : ∀ q, H0.size ≤ q → A0 q) : ∀ q, va_A [] H.size q → A0 q := fun q h => by
  rcases h with ⟨k, e, h⟩ | h
  · simp at h
  · exact hA q (Nat.le_trans hS.1 h)
theorem pu_keep {D : va_G} {ws : va_W} {H H1 : Heap} (hP : va_P D vwCl ws H) (hk : ∀ q : Nat, q < H.size → ¬ va_A [] H.size q → H1[q]? = H[q]?) : va_P D vwCl ws H1 := hP.kept (fun k q hq => hk q.1 (hP k q hq).lt (fun h => by
  rcases h with ⟨k, e, h⟩ | h
  · simp at h
  · exact absurd (hP _ q hq).lt (Nat.not_lt.mpr h)))

