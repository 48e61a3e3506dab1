section
-- ===== PART A: goes FIRST, ahead of the names: the tables' words, and 'selects' of the private methods out of them =====
/-- a private method of a class that the tables say can be made, by its rows of tables_1 -/
def lw_okq (q : MethodName × Nat) : Prop := (q.1.cls ≠ "java/lang/invoke/MethodHandle" ∧ q.1.cls ≠ "java/lang/invoke/VarHandle") ∧ Cond.instantiable q.1.cls q.2 ∈ tables_1 ∧ Cond.privateMethod q.1 ∈ tables_1 ∧ Cond.instanceMethod q.1 ∈ tables_1
theorem lw_p0 : lw_okq (⟨"ShipOffice", "refuse", "(I)I"⟩, 16) := ⟨⟨by decide +kernel, by decide +kernel⟩, List.mem_of_getElem? (i := 17) (by decide +kernel), List.mem_of_getElem? (i := 212) (by decide +kernel), List.mem_of_getElem? (i := 213) (by decide +kernel)⟩
theorem lw_p1 : lw_okq (⟨"ShipOffice", "joinGroups", "(LShipOffice$Man;)V"⟩, 16) := ⟨⟨by decide +kernel, by decide +kernel⟩, List.mem_of_getElem? (i := 17) (by decide +kernel), List.mem_of_getElem? (i := 261) (by decide +kernel), List.mem_of_getElem? (i := 262) (by decide +kernel)⟩
theorem lw_p2 : lw_okq (⟨"ShipOffice", "mergeGroups", "(II)V"⟩, 16) := ⟨⟨by decide +kernel, by decide +kernel⟩, List.mem_of_getElem? (i := 17) (by decide +kernel), List.mem_of_getElem? (i := 272) (by decide +kernel), List.mem_of_getElem? (i := 273) (by decide +kernel)⟩
theorem lw_p3 : lw_okq (⟨"ShipOffice", "hasVoyage", "(I)Z"⟩, 16) := ⟨⟨by decide +kernel, by decide +kernel⟩, List.mem_of_getElem? (i := 17) (by decide +kernel), List.mem_of_getElem? (i := 286) (by decide +kernel), List.mem_of_getElem? (i := 287) (by decide +kernel)⟩
theorem lw_p4 : lw_okq (⟨"ShipOffice", "voyageAt", "(I)LShipOffice$Voyage;"⟩, 16) := ⟨⟨by decide +kernel, by decide +kernel⟩, List.mem_of_getElem? (i := 17) (by decide +kernel), List.mem_of_getElem? (i := 343) (by decide +kernel), List.mem_of_getElem? (i := 344) (by decide +kernel)⟩
theorem lw_p5 : lw_okq (⟨"ShipOffice", "voyageRefusal", "(LShipOffice$Voyage;IZ)I"⟩, 16) := ⟨⟨by decide +kernel, by decide +kernel⟩, List.mem_of_getElem? (i := 17) (by decide +kernel), List.mem_of_getElem? (i := 357) (by decide +kernel), List.mem_of_getElem? (i := 358) (by decide +kernel)⟩
theorem lw_p6 : lw_okq (⟨"ShipOffice", "agreementAt", "(I)LShipOffice$Agreement;"⟩, 16) := ⟨⟨by decide +kernel, by decide +kernel⟩, List.mem_of_getElem? (i := 17) (by decide +kernel), List.mem_of_getElem? (i := 407) (by decide +kernel), List.mem_of_getElem? (i := 408) (by decide +kernel)⟩
theorem lw_p7 : lw_okq (⟨"ShipOffice", "tidingRefusal", "(LShipOffice$Agreement;I)I"⟩, 16) := ⟨⟨by decide +kernel, by decide +kernel⟩, List.mem_of_getElem? (i := 17) (by decide +kernel), List.mem_of_getElem? (i := 411) (by decide +kernel), List.mem_of_getElem? (i := 412) (by decide +kernel)⟩
theorem lw_p8 : lw_okq (⟨"ShipOffice", "addTiding", "(LShipOffice$Agreement;IIII)I"⟩, 16) := ⟨⟨by decide +kernel, by decide +kernel⟩, List.mem_of_getElem? (i := 17) (by decide +kernel), List.mem_of_getElem? (i := 415) (by decide +kernel), List.mem_of_getElem? (i := 416) (by decide +kernel)⟩
theorem lw_p9 : lw_okq (⟨"ShipOffice$Tape", "parseSum", "(I)V"⟩, 6) := ⟨⟨by decide +kernel, by decide +kernel⟩, List.mem_of_getElem? (i := 91) (by decide +kernel), List.mem_of_getElem? (i := 444) (by decide +kernel), List.mem_of_getElem? (i := 445) (by decide +kernel)⟩
theorem lw_p10 : lw_okq (⟨"ShipOffice$Tape", "parseTerm", "(I)V"⟩, 6) := ⟨⟨by decide +kernel, by decide +kernel⟩, List.mem_of_getElem? (i := 91) (by decide +kernel), List.mem_of_getElem? (i := 448) (by decide +kernel), List.mem_of_getElem? (i := 449) (by decide +kernel)⟩
theorem lw_p11 : lw_okq (⟨"ShipOffice$Tape", "parseUnit", "(I)V"⟩, 6) := ⟨⟨by decide +kernel, by decide +kernel⟩, List.mem_of_getElem? (i := 91) (by decide +kernel), List.mem_of_getElem? (i := 452) (by decide +kernel), List.mem_of_getElem? (i := 453) (by decide +kernel)⟩
theorem lw_p12 : lw_okq (⟨"ShipOffice$Tape", "letterHere", "()I"⟩, 6) := ⟨⟨by decide +kernel, by decide +kernel⟩, List.mem_of_getElem? (i := 91) (by decide +kernel), List.mem_of_getElem? (i := 456) (by decide +kernel), List.mem_of_getElem? (i := 457) (by decide +kernel)⟩
theorem lw_p13 : lw_okq (⟨"ShipOffice$Tape", "sees", "(I)Z"⟩, 6) := ⟨⟨by decide +kernel, by decide +kernel⟩, List.mem_of_getElem? (i := 91) (by decide +kernel), List.mem_of_getElem? (i := 461) (by decide +kernel), List.mem_of_getElem? (i := 462) (by decide +kernel)⟩
theorem lw_p14 : lw_okq (⟨"ShipOffice$Tape", "seesDigit", "()Z"⟩, 6) := ⟨⟨by decide +kernel, by decide +kernel⟩, List.mem_of_getElem? (i := 91) (by decide +kernel), List.mem_of_getElem? (i := 465) (by decide +kernel), List.mem_of_getElem? (i := 466) (by decide +kernel)⟩
theorem lw_p15 : lw_okq (⟨"ShipOffice$Tape", "parseNumber", "()V"⟩, 6) := ⟨⟨by decide +kernel, by decide +kernel⟩, List.mem_of_getElem? (i := 91) (by decide +kernel), List.mem_of_getElem? (i := 469) (by decide +kernel), List.mem_of_getElem? (i := 470) (by decide +kernel)⟩
def lw_privs_1 : List (MethodName × Nat) := [(⟨"ShipOffice", "refuse", "(I)I"⟩, 16), (⟨"ShipOffice", "joinGroups", "(LShipOffice$Man;)V"⟩, 16), (⟨"ShipOffice", "mergeGroups", "(II)V"⟩, 16), (⟨"ShipOffice", "hasVoyage", "(I)Z"⟩, 16), (⟨"ShipOffice", "voyageAt", "(I)LShipOffice$Voyage;"⟩, 16), (⟨"ShipOffice", "voyageRefusal", "(LShipOffice$Voyage;IZ)I"⟩, 16), (⟨"ShipOffice", "agreementAt", "(I)LShipOffice$Agreement;"⟩, 16), (⟨"ShipOffice", "tidingRefusal", "(LShipOffice$Agreement;I)I"⟩, 16), (⟨"ShipOffice", "addTiding", "(LShipOffice$Agreement;IIII)I"⟩, 16), (⟨"ShipOffice$Tape", "parseSum", "(I)V"⟩, 6), (⟨"ShipOffice$Tape", "parseTerm", "(I)V"⟩, 6), (⟨"ShipOffice$Tape", "parseUnit", "(I)V"⟩, 6), (⟨"ShipOffice$Tape", "letterHere", "()I"⟩, 6), (⟨"ShipOffice$Tape", "sees", "(I)Z"⟩, 6), (⟨"ShipOffice$Tape", "seesDigit", "()Z"⟩, 6), (⟨"ShipOffice$Tape", "parseNumber", "()V"⟩, 6)]
theorem lw_r1 : ∀ q ∈ lw_privs_1, lw_okq q := List.forall_mem_cons.mpr ⟨lw_p0, List.forall_mem_cons.mpr ⟨lw_p1, List.forall_mem_cons.mpr ⟨lw_p2, List.forall_mem_cons.mpr ⟨lw_p3, List.forall_mem_cons.mpr ⟨lw_p4, List.forall_mem_cons.mpr ⟨lw_p5, List.forall_mem_cons.mpr ⟨lw_p6, List.forall_mem_cons.mpr ⟨lw_p7, List.forall_mem_cons.mpr ⟨lw_p8, List.forall_mem_cons.mpr ⟨lw_p9, List.forall_mem_cons.mpr ⟨lw_p10, List.forall_mem_cons.mpr ⟨lw_p11, List.forall_mem_cons.mpr ⟨lw_p12, List.forall_mem_cons.mpr ⟨lw_p13, List.forall_mem_cons.mpr ⟨lw_p14, List.forall_mem_cons.mpr ⟨lw_p15, fun _ h => absurd h List.not_mem_nil⟩⟩⟩⟩⟩⟩⟩⟩⟩⟩⟩⟩⟩⟩⟩⟩
theorem lw_p16 : lw_okq (⟨"ShipOffice$Tape", "emit", "(I)V"⟩, 6) := ⟨⟨by decide +kernel, by decide +kernel⟩, List.mem_of_getElem? (i := 91) (by decide +kernel), List.mem_of_getElem? (i := 473) (by decide +kernel), List.mem_of_getElem? (i := 474) (by decide +kernel)⟩
theorem lw_p17 : lw_okq (⟨"ShipOffice$Tape", "parseBracket", "(I)V"⟩, 6) := ⟨⟨by decide +kernel, by decide +kernel⟩, List.mem_of_getElem? (i := 91) (by decide +kernel), List.mem_of_getElem? (i := 477) (by decide +kernel), List.mem_of_getElem? (i := 478) (by decide +kernel)⟩
theorem lw_p18 : lw_okq (⟨"ShipOffice$Tape", "emitSign", "(I)V"⟩, 6) := ⟨⟨by decide +kernel, by decide +kernel⟩, List.mem_of_getElem? (i := 91) (by decide +kernel), List.mem_of_getElem? (i := 481) (by decide +kernel), List.mem_of_getElem? (i := 482) (by decide +kernel)⟩
theorem lw_p19 : lw_okq (⟨"ShipOffice", "manAt", "(I)LShipOffice$Man;"⟩, 16) := ⟨⟨by decide +kernel, by decide +kernel⟩, List.mem_of_getElem? (i := 17) (by decide +kernel), List.mem_of_getElem? (i := 511) (by decide +kernel), List.mem_of_getElem? (i := 512) (by decide +kernel)⟩
theorem lw_p20 : lw_okq (⟨"ShipOffice", "isFree", "(LShipOffice$Man;)Z"⟩, 16) := ⟨⟨by decide +kernel, by decide +kernel⟩, List.mem_of_getElem? (i := 17) (by decide +kernel), List.mem_of_getElem? (i := 519) (by decide +kernel), List.mem_of_getElem? (i := 520) (by decide +kernel)⟩
theorem lw_p21 : lw_okq (⟨"ShipOffice", "signWorth", "(LShipOffice$Man;II)I"⟩, 16) := ⟨⟨by decide +kernel, by decide +kernel⟩, List.mem_of_getElem? (i := 17) (by decide +kernel), List.mem_of_getElem? (i := 523) (by decide +kernel), List.mem_of_getElem? (i := 524) (by decide +kernel)⟩
theorem lw_p22 : lw_okq (⟨"ShipOffice", "askRefusal", "(II)I"⟩, 16) := ⟨⟨by decide +kernel, by decide +kernel⟩, List.mem_of_getElem? (i := 17) (by decide +kernel), List.mem_of_getElem? (i := 621) (by decide +kernel), List.mem_of_getElem? (i := 622) (by decide +kernel)⟩
theorem lw_p23 : lw_okq (⟨"ShipOffice$Agreement", "diedBy", "(II)Z"⟩, 18) := ⟨⟨by decide +kernel, by decide +kernel⟩, List.mem_of_getElem? (i := 538) (by decide +kernel), List.mem_of_getElem? (i := 633) (by decide +kernel), List.mem_of_getElem? (i := 634) (by decide +kernel)⟩
theorem lw_p24 : lw_okq (⟨"ShipOffice$Agreement", "lastMove", "(II)LShipOffice$Happening;"⟩, 18) := ⟨⟨by decide +kernel, by decide +kernel⟩, List.mem_of_getElem? (i := 538) (by decide +kernel), List.mem_of_getElem? (i := 637) (by decide +kernel), List.mem_of_getElem? (i := 638) (by decide +kernel)⟩
theorem lw_p25 : lw_okq (⟨"ShipOffice$Agreement", "nextChange", "(IILShipOffice$Law;)I"⟩, 18) := ⟨⟨by decide +kernel, by decide +kernel⟩, List.mem_of_getElem? (i := 538) (by decide +kernel), List.mem_of_getElem? (i := 663) (by decide +kernel), List.mem_of_getElem? (i := 664) (by decide +kernel)⟩
theorem lw_p26 : lw_okq (⟨"ShipOffice", "worthFor", "(ILShipOffice$Agreement;IIII)I"⟩, 16) := ⟨⟨by decide +kernel, by decide +kernel⟩, List.mem_of_getElem? (i := 17) (by decide +kernel), List.mem_of_getElem? (i := 692) (by decide +kernel), List.mem_of_getElem? (i := 693) (by decide +kernel)⟩
theorem lw_p27 : lw_okq (⟨"ShipOffice", "menAboard", "(LShipOffice$Voyage;II)I"⟩, 16) := ⟨⟨by decide +kernel, by decide +kernel⟩, List.mem_of_getElem? (i := 17) (by decide +kernel), List.mem_of_getElem? (i := 701) (by decide +kernel), List.mem_of_getElem? (i := 702) (by decide +kernel)⟩
theorem lw_p28 : lw_okq (⟨"ShipOffice", "standing", "(LShipOffice$Agreement;LShipOffice$Fine;I)I"⟩, 16) := ⟨⟨by decide +kernel, by decide +kernel⟩, List.mem_of_getElem? (i := 17) (by decide +kernel), List.mem_of_getElem? (i := 745) (by decide +kernel), List.mem_of_getElem? (i := 746) (by decide +kernel)⟩
theorem lw_p29 : lw_okq (⟨"ShipOffice", "owedOn", "(LShipOffice$Agreement;II)I"⟩, 16) := ⟨⟨by decide +kernel, by decide +kernel⟩, List.mem_of_getElem? (i := 17) (by decide +kernel), List.mem_of_getElem? (i := 762) (by decide +kernel), List.mem_of_getElem? (i := 763) (by decide +kernel)⟩
theorem lw_p30 : lw_okq (⟨"ShipOffice", "isShownTwice", "(LShipOffice$Agreement;)Z"⟩, 16) := ⟨⟨by decide +kernel, by decide +kernel⟩, List.mem_of_getElem? (i := 17) (by decide +kernel), List.mem_of_getElem? (i := 798) (by decide +kernel), List.mem_of_getElem? (i := 799) (by decide +kernel)⟩
theorem lw_p31 : lw_okq (⟨"ShipOffice", "lastDay", "(LShipOffice$Agreement;)I"⟩, 16) := ⟨⟨by decide +kernel, by decide +kernel⟩, List.mem_of_getElem? (i := 17) (by decide +kernel), List.mem_of_getElem? (i := 802) (by decide +kernel), List.mem_of_getElem? (i := 803) (by decide +kernel)⟩
def lw_privs_2 : List (MethodName × Nat) := [(⟨"ShipOffice$Tape", "emit", "(I)V"⟩, 6), (⟨"ShipOffice$Tape", "parseBracket", "(I)V"⟩, 6), (⟨"ShipOffice$Tape", "emitSign", "(I)V"⟩, 6), (⟨"ShipOffice", "manAt", "(I)LShipOffice$Man;"⟩, 16), (⟨"ShipOffice", "isFree", "(LShipOffice$Man;)Z"⟩, 16), (⟨"ShipOffice", "signWorth", "(LShipOffice$Man;II)I"⟩, 16), (⟨"ShipOffice", "askRefusal", "(II)I"⟩, 16), (⟨"ShipOffice$Agreement", "diedBy", "(II)Z"⟩, 18), (⟨"ShipOffice$Agreement", "lastMove", "(II)LShipOffice$Happening;"⟩, 18), (⟨"ShipOffice$Agreement", "nextChange", "(IILShipOffice$Law;)I"⟩, 18), (⟨"ShipOffice", "worthFor", "(ILShipOffice$Agreement;IIII)I"⟩, 16), (⟨"ShipOffice", "menAboard", "(LShipOffice$Voyage;II)I"⟩, 16), (⟨"ShipOffice", "standing", "(LShipOffice$Agreement;LShipOffice$Fine;I)I"⟩, 16), (⟨"ShipOffice", "owedOn", "(LShipOffice$Agreement;II)I"⟩, 16), (⟨"ShipOffice", "isShownTwice", "(LShipOffice$Agreement;)Z"⟩, 16), (⟨"ShipOffice", "lastDay", "(LShipOffice$Agreement;)I"⟩, 16)]
theorem lw_r2 : ∀ q ∈ lw_privs_2, lw_okq q := List.forall_mem_cons.mpr ⟨lw_p16, List.forall_mem_cons.mpr ⟨lw_p17, List.forall_mem_cons.mpr ⟨lw_p18, List.forall_mem_cons.mpr ⟨lw_p19, List.forall_mem_cons.mpr ⟨lw_p20, List.forall_mem_cons.mpr ⟨lw_p21, List.forall_mem_cons.mpr ⟨lw_p22, List.forall_mem_cons.mpr ⟨lw_p23, List.forall_mem_cons.mpr ⟨lw_p24, List.forall_mem_cons.mpr ⟨lw_p25, List.forall_mem_cons.mpr ⟨lw_p26, List.forall_mem_cons.mpr ⟨lw_p27, List.forall_mem_cons.mpr ⟨lw_p28, List.forall_mem_cons.mpr ⟨lw_p29, List.forall_mem_cons.mpr ⟨lw_p30, List.forall_mem_cons.mpr ⟨lw_p31, fun _ h => absurd h List.not_mem_nil⟩⟩⟩⟩⟩⟩⟩⟩⟩⟩⟩⟩⟩⟩⟩⟩
theorem lw_p32 : lw_okq (⟨"ShipOffice$Sea", "shorten", "()V"⟩, 2) := ⟨⟨by decide +kernel, by decide +kernel⟩, List.mem_of_getElem? (i := 119) (by decide +kernel), List.mem_of_getElem? (i := 816) (by decide +kernel), List.mem_of_getElem? (i := 817) (by decide +kernel)⟩
theorem lw_p33 : lw_okq (⟨"ShipOffice$Hiring", "placeIn", "(ILShipOffice$Man;)V"⟩, 6) := ⟨⟨by decide +kernel, by decide +kernel⟩, List.mem_of_getElem? (i := 132) (by decide +kernel), List.mem_of_getElem? (i := 849) (by decide +kernel), List.mem_of_getElem? (i := 850) (by decide +kernel)⟩
theorem lw_p34 : lw_okq (⟨"ShipOffice", "openVoyages", "()I"⟩, 16) := ⟨⟨by decide +kernel, by decide +kernel⟩, List.mem_of_getElem? (i := 17) (by decide +kernel), List.mem_of_getElem? (i := 880) (by decide +kernel), List.mem_of_getElem? (i := 881) (by decide +kernel)⟩
theorem lw_p35 : lw_okq (⟨"ShipOffice", "openAgreements", "()I"⟩, 16) := ⟨⟨by decide +kernel, by decide +kernel⟩, List.mem_of_getElem? (i := 17) (by decide +kernel), List.mem_of_getElem? (i := 884) (by decide +kernel), List.mem_of_getElem? (i := 885) (by decide +kernel)⟩
theorem lw_p36 : lw_okq (⟨"ShipOffice", "menWhoAsk", "()I"⟩, 16) := ⟨⟨by decide +kernel, by decide +kernel⟩, List.mem_of_getElem? (i := 17) (by decide +kernel), List.mem_of_getElem? (i := 888) (by decide +kernel), List.mem_of_getElem? (i := 889) (by decide +kernel)⟩
theorem lw_p37 : lw_okq (⟨"ShipOfficeModel", "refuse", "(I)I"⟩, 63) := ⟨⟨by decide +kernel, by decide +kernel⟩, List.mem_of_getElem? (i := 892) (by decide +kernel), List.mem_of_getElem? (i := 1093) (by decide +kernel), List.mem_of_getElem? (i := 1094) (by decide +kernel)⟩
theorem lw_p38 : lw_okq (⟨"ShipOfficeModel", "isVoyage", "(I)Z"⟩, 63) := ⟨⟨by decide +kernel, by decide +kernel⟩, List.mem_of_getElem? (i := 892) (by decide +kernel), List.mem_of_getElem? (i := 1120) (by decide +kernel), List.mem_of_getElem? (i := 1121) (by decide +kernel)⟩
theorem lw_p39 : lw_okq (⟨"ShipOfficeModel", "wasTold", "(II)Z"⟩, 63) := ⟨⟨by decide +kernel, by decide +kernel⟩, List.mem_of_getElem? (i := 892) (by decide +kernel), List.mem_of_getElem? (i := 1124) (by decide +kernel), List.mem_of_getElem? (i := 1125) (by decide +kernel)⟩
theorem lw_p40 : lw_okq (⟨"ShipOfficeModel", "goesOn", "(I)Z"⟩, 63) := ⟨⟨by decide +kernel, by decide +kernel⟩, List.mem_of_getElem? (i := 892) (by decide +kernel), List.mem_of_getElem? (i := 1128) (by decide +kernel), List.mem_of_getElem? (i := 1129) (by decide +kernel)⟩
theorem lw_p41 : lw_okq (⟨"ShipOfficeModel", "happensTo", "(III)I"⟩, 63) := ⟨⟨by decide +kernel, by decide +kernel⟩, List.mem_of_getElem? (i := 892) (by decide +kernel), List.mem_of_getElem? (i := 1136) (by decide +kernel), List.mem_of_getElem? (i := 1137) (by decide +kernel)⟩
theorem lw_p42 : lw_okq (⟨"ShipOfficeModel", "happens", "(IIIIII)I"⟩, 63) := ⟨⟨by decide +kernel, by decide +kernel⟩, List.mem_of_getElem? (i := 892) (by decide +kernel), List.mem_of_getElem? (i := 1140) (by decide +kernel), List.mem_of_getElem? (i := 1141) (by decide +kernel)⟩
theorem lw_p43 : lw_okq (⟨"ShipOfficeModel", "isAgreement", "(I)Z"⟩, 63) := ⟨⟨by decide +kernel, by decide +kernel⟩, List.mem_of_getElem? (i := 892) (by decide +kernel), List.mem_of_getElem? (i := 1156) (by decide +kernel), List.mem_of_getElem? (i := 1157) (by decide +kernel)⟩
theorem lw_p44 : lw_okq (⟨"ShipOfficeModel", "happensOf", "(III)I"⟩, 63) := ⟨⟨by decide +kernel, by decide +kernel⟩, List.mem_of_getElem? (i := 892) (by decide +kernel), List.mem_of_getElem? (i := 1164) (by decide +kernel), List.mem_of_getElem? (i := 1165) (by decide +kernel)⟩
theorem lw_p45 : lw_okq (⟨"ShipOfficeModel", "goesThrough", "(II)I"⟩, 63) := ⟨⟨by decide +kernel, by decide +kernel⟩, List.mem_of_getElem? (i := 892) (by decide +kernel), List.mem_of_getElem? (i := 1181) (by decide +kernel), List.mem_of_getElem? (i := 1182) (by decide +kernel)⟩
theorem lw_p46 : lw_okq (⟨"ShipOfficeModel", "sum", "()I"⟩, 63) := ⟨⟨by decide +kernel, by decide +kernel⟩, List.mem_of_getElem? (i := 892) (by decide +kernel), List.mem_of_getElem? (i := 1185) (by decide +kernel), List.mem_of_getElem? (i := 1186) (by decide +kernel)⟩
theorem lw_p47 : lw_okq (⟨"ShipOfficeModel", "term", "()I"⟩, 63) := ⟨⟨by decide +kernel, by decide +kernel⟩, List.mem_of_getElem? (i := 892) (by decide +kernel), List.mem_of_getElem? (i := 1189) (by decide +kernel), List.mem_of_getElem? (i := 1190) (by decide +kernel)⟩
def lw_privs_3 : List (MethodName × Nat) := [(⟨"ShipOffice$Sea", "shorten", "()V"⟩, 2), (⟨"ShipOffice$Hiring", "placeIn", "(ILShipOffice$Man;)V"⟩, 6), (⟨"ShipOffice", "openVoyages", "()I"⟩, 16), (⟨"ShipOffice", "openAgreements", "()I"⟩, 16), (⟨"ShipOffice", "menWhoAsk", "()I"⟩, 16), (⟨"ShipOfficeModel", "refuse", "(I)I"⟩, 63), (⟨"ShipOfficeModel", "isVoyage", "(I)Z"⟩, 63), (⟨"ShipOfficeModel", "wasTold", "(II)Z"⟩, 63), (⟨"ShipOfficeModel", "goesOn", "(I)Z"⟩, 63), (⟨"ShipOfficeModel", "happensTo", "(III)I"⟩, 63), (⟨"ShipOfficeModel", "happens", "(IIIIII)I"⟩, 63), (⟨"ShipOfficeModel", "isAgreement", "(I)Z"⟩, 63), (⟨"ShipOfficeModel", "happensOf", "(III)I"⟩, 63), (⟨"ShipOfficeModel", "goesThrough", "(II)I"⟩, 63), (⟨"ShipOfficeModel", "sum", "()I"⟩, 63), (⟨"ShipOfficeModel", "term", "()I"⟩, 63)]
theorem lw_r3 : ∀ q ∈ lw_privs_3, lw_okq q := List.forall_mem_cons.mpr ⟨lw_p32, List.forall_mem_cons.mpr ⟨lw_p33, List.forall_mem_cons.mpr ⟨lw_p34, List.forall_mem_cons.mpr ⟨lw_p35, List.forall_mem_cons.mpr ⟨lw_p36, List.forall_mem_cons.mpr ⟨lw_p37, List.forall_mem_cons.mpr ⟨lw_p38, List.forall_mem_cons.mpr ⟨lw_p39, List.forall_mem_cons.mpr ⟨lw_p40, List.forall_mem_cons.mpr ⟨lw_p41, List.forall_mem_cons.mpr ⟨lw_p42, List.forall_mem_cons.mpr ⟨lw_p43, List.forall_mem_cons.mpr ⟨lw_p44, List.forall_mem_cons.mpr ⟨lw_p45, List.forall_mem_cons.mpr ⟨lw_p46, List.forall_mem_cons.mpr ⟨lw_p47, fun _ h => absurd h List.not_mem_nil⟩⟩⟩⟩⟩⟩⟩⟩⟩⟩⟩⟩⟩⟩⟩⟩
theorem lw_p48 : lw_okq (⟨"ShipOfficeModel", "unit", "()I"⟩, 63) := ⟨⟨by decide +kernel, by decide +kernel⟩, List.mem_of_getElem? (i := 892) (by decide +kernel), List.mem_of_getElem? (i := 1193) (by decide +kernel), List.mem_of_getElem? (i := 1194) (by decide +kernel)⟩
theorem lw_p49 : lw_okq (⟨"ShipOfficeModel", "sign", "()I"⟩, 63) := ⟨⟨by decide +kernel, by decide +kernel⟩, List.mem_of_getElem? (i := 892) (by decide +kernel), List.mem_of_getElem? (i := 1197) (by decide +kernel), List.mem_of_getElem? (i := 1198) (by decide +kernel)⟩
theorem lw_p50 : lw_okq (⟨"ShipOfficeModel", "breaks", "()I"⟩, 63) := ⟨⟨by decide +kernel, by decide +kernel⟩, List.mem_of_getElem? (i := 892) (by decide +kernel), List.mem_of_getElem? (i := 1209) (by decide +kernel), List.mem_of_getElem? (i := 1210) (by decide +kernel)⟩
theorem lw_p51 : lw_okq (⟨"ShipOfficeModel", "takes", "(I)Z"⟩, 63) := ⟨⟨by decide +kernel, by decide +kernel⟩, List.mem_of_getElem? (i := 892) (by decide +kernel), List.mem_of_getElem? (i := 1213) (by decide +kernel), List.mem_of_getElem? (i := 1214) (by decide +kernel)⟩
theorem lw_p52 : lw_okq (⟨"ShipOfficeModel", "isMan", "(I)Z"⟩, 63) := ⟨⟨by decide +kernel, by decide +kernel⟩, List.mem_of_getElem? (i := 892) (by decide +kernel), List.mem_of_getElem? (i := 1221) (by decide +kernel), List.mem_of_getElem? (i := 1222) (by decide +kernel)⟩
theorem lw_p53 : lw_okq (⟨"ShipOfficeModel", "bare", "()V"⟩, 63) := ⟨⟨by decide +kernel, by decide +kernel⟩, List.mem_of_getElem? (i := 892) (by decide +kernel), List.mem_of_getElem? (i := 1225) (by decide +kernel), List.mem_of_getElem? (i := 1226) (by decide +kernel)⟩
theorem lw_p54 : lw_okq (⟨"ShipOfficeModel", "worth", "(II)I"⟩, 63) := ⟨⟨by decide +kernel, by decide +kernel⟩, List.mem_of_getElem? (i := 892) (by decide +kernel), List.mem_of_getElem? (i := 1229) (by decide +kernel), List.mem_of_getElem? (i := 1230) (by decide +kernel)⟩
theorem lw_p55 : lw_okq (⟨"ShipOfficeModel", "actOn", "(II)I"⟩, 63) := ⟨⟨by decide +kernel, by decide +kernel⟩, List.mem_of_getElem? (i := 892) (by decide +kernel), List.mem_of_getElem? (i := 1233) (by decide +kernel), List.mem_of_getElem? (i := 1234) (by decide +kernel)⟩
theorem lw_p56 : lw_okq (⟨"ShipOfficeModel", "wrongTimes", "(II)I"⟩, 63) := ⟨⟨by decide +kernel, by decide +kernel⟩, List.mem_of_getElem? (i := 892) (by decide +kernel), List.mem_of_getElem? (i := 1245) (by decide +kernel), List.mem_of_getElem? (i := 1246) (by decide +kernel)⟩
theorem lw_p57 : lw_okq (⟨"ShipOfficeModel", "stateOf", "(III)I"⟩, 63) := ⟨⟨by decide +kernel, by decide +kernel⟩, List.mem_of_getElem? (i := 892) (by decide +kernel), List.mem_of_getElem? (i := 1249) (by decide +kernel), List.mem_of_getElem? (i := 1250) (by decide +kernel)⟩
theorem lw_p58 : lw_okq (⟨"ShipOfficeModel", "isDead", "(III)Z"⟩, 63) := ⟨⟨by decide +kernel, by decide +kernel⟩, List.mem_of_getElem? (i := 892) (by decide +kernel), List.mem_of_getElem? (i := 1253) (by decide +kernel), List.mem_of_getElem? (i := 1254) (by decide +kernel)⟩
theorem lw_p59 : lw_okq (⟨"ShipOfficeModel", "whereOf", "(III)I"⟩, 63) := ⟨⟨by decide +kernel, by decide +kernel⟩, List.mem_of_getElem? (i := 892) (by decide +kernel), List.mem_of_getElem? (i := 1257) (by decide +kernel), List.mem_of_getElem? (i := 1258) (by decide +kernel)⟩
theorem lw_p60 : lw_okq (⟨"ShipOfficeModel", "hasSailed", "(III)Z"⟩, 63) := ⟨⟨by decide +kernel, by decide +kernel⟩, List.mem_of_getElem? (i := 892) (by decide +kernel), List.mem_of_getElem? (i := 1261) (by decide +kernel), List.mem_of_getElem? (i := 1262) (by decide +kernel)⟩
theorem lw_p61 : lw_okq (⟨"ShipOfficeModel", "sailedOn", "(II)I"⟩, 63) := ⟨⟨by decide +kernel, by decide +kernel⟩, List.mem_of_getElem? (i := 892) (by decide +kernel), List.mem_of_getElem? (i := 1265) (by decide +kernel), List.mem_of_getElem? (i := 1266) (by decide +kernel)⟩
theorem lw_p62 : lw_okq (⟨"ShipOfficeModel", "isUnknown", "(III)Z"⟩, 63) := ⟨⟨by decide +kernel, by decide +kernel⟩, List.mem_of_getElem? (i := 892) (by decide +kernel), List.mem_of_getElem? (i := 1269) (by decide +kernel), List.mem_of_getElem? (i := 1270) (by decide +kernel)⟩
theorem lw_p63 : lw_okq (⟨"ShipOfficeModel", "lastHeard", "(III)I"⟩, 63) := ⟨⟨by decide +kernel, by decide +kernel⟩, List.mem_of_getElem? (i := 892) (by decide +kernel), List.mem_of_getElem? (i := 1273) (by decide +kernel), List.mem_of_getElem? (i := 1274) (by decide +kernel)⟩
def lw_privs_4 : List (MethodName × Nat) := [(⟨"ShipOfficeModel", "unit", "()I"⟩, 63), (⟨"ShipOfficeModel", "sign", "()I"⟩, 63), (⟨"ShipOfficeModel", "breaks", "()I"⟩, 63), (⟨"ShipOfficeModel", "takes", "(I)Z"⟩, 63), (⟨"ShipOfficeModel", "isMan", "(I)Z"⟩, 63), (⟨"ShipOfficeModel", "bare", "()V"⟩, 63), (⟨"ShipOfficeModel", "worth", "(II)I"⟩, 63), (⟨"ShipOfficeModel", "actOn", "(II)I"⟩, 63), (⟨"ShipOfficeModel", "wrongTimes", "(II)I"⟩, 63), (⟨"ShipOfficeModel", "stateOf", "(III)I"⟩, 63), (⟨"ShipOfficeModel", "isDead", "(III)Z"⟩, 63), (⟨"ShipOfficeModel", "whereOf", "(III)I"⟩, 63), (⟨"ShipOfficeModel", "hasSailed", "(III)Z"⟩, 63), (⟨"ShipOfficeModel", "sailedOn", "(II)I"⟩, 63), (⟨"ShipOfficeModel", "isUnknown", "(III)Z"⟩, 63), (⟨"ShipOfficeModel", "lastHeard", "(III)I"⟩, 63)]
theorem lw_r4 : ∀ q ∈ lw_privs_4, lw_okq q := List.forall_mem_cons.mpr ⟨lw_p48, List.forall_mem_cons.mpr ⟨lw_p49, List.forall_mem_cons.mpr ⟨lw_p50, List.forall_mem_cons.mpr ⟨lw_p51, List.forall_mem_cons.mpr ⟨lw_p52, List.forall_mem_cons.mpr ⟨lw_p53, List.forall_mem_cons.mpr ⟨lw_p54, List.forall_mem_cons.mpr ⟨lw_p55, List.forall_mem_cons.mpr ⟨lw_p56, List.forall_mem_cons.mpr ⟨lw_p57, List.forall_mem_cons.mpr ⟨lw_p58, List.forall_mem_cons.mpr ⟨lw_p59, List.forall_mem_cons.mpr ⟨lw_p60, List.forall_mem_cons.mpr ⟨lw_p61, List.forall_mem_cons.mpr ⟨lw_p62, List.forall_mem_cons.mpr ⟨lw_p63, fun _ h => absurd h List.not_mem_nil⟩⟩⟩⟩⟩⟩⟩⟩⟩⟩⟩⟩⟩⟩⟩⟩
theorem lw_p64 : lw_okq (⟨"ShipOfficeModel", "earnsOf", "(III)I"⟩, 63) := ⟨⟨by decide +kernel, by decide +kernel⟩, List.mem_of_getElem? (i := 892) (by decide +kernel), List.mem_of_getElem? (i := 1281) (by decide +kernel), List.mem_of_getElem? (i := 1282) (by decide +kernel)⟩
theorem lw_p65 : lw_okq (⟨"ShipOfficeModel", "puts", "(IIIIZ)V"⟩, 63) := ⟨⟨by decide +kernel, by decide +kernel⟩, List.mem_of_getElem? (i := 892) (by decide +kernel), List.mem_of_getElem? (i := 1297) (by decide +kernel), List.mem_of_getElem? (i := 1298) (by decide +kernel)⟩
theorem lw_p66 : lw_okq (⟨"ShipOfficeModel", "aboardOf", "(III)I"⟩, 63) := ⟨⟨by decide +kernel, by decide +kernel⟩, List.mem_of_getElem? (i := 892) (by decide +kernel), List.mem_of_getElem? (i := 1301) (by decide +kernel), List.mem_of_getElem? (i := 1302) (by decide +kernel)⟩
theorem lw_p67 : lw_okq (⟨"ShipOfficeModel", "isFine", "(II)Z"⟩, 63) := ⟨⟨by decide +kernel, by decide +kernel⟩, List.mem_of_getElem? (i := 892) (by decide +kernel), List.mem_of_getElem? (i := 1314) (by decide +kernel), List.mem_of_getElem? (i := 1315) (by decide +kernel)⟩
theorem lw_p68 : lw_okq (⟨"ShipOfficeModel", "standsOf", "(III)I"⟩, 63) := ⟨⟨by decide +kernel, by decide +kernel⟩, List.mem_of_getElem? (i := 892) (by decide +kernel), List.mem_of_getElem? (i := 1322) (by decide +kernel), List.mem_of_getElem? (i := 1323) (by decide +kernel)⟩
theorem lw_p69 : lw_okq (⟨"ShipOfficeModel", "refuseFar", "(I)I"⟩, 63) := ⟨⟨by decide +kernel, by decide +kernel⟩, List.mem_of_getElem? (i := 892) (by decide +kernel), List.mem_of_getElem? (i := 1334) (by decide +kernel), List.mem_of_getElem? (i := 1335) (by decide +kernel)⟩
theorem lw_p70 : lw_okq (⟨"ShipOfficeModel", "owedOf", "(III)I"⟩, 63) := ⟨⟨by decide +kernel, by decide +kernel⟩, List.mem_of_getElem? (i := 892) (by decide +kernel), List.mem_of_getElem? (i := 1339) (by decide +kernel), List.mem_of_getElem? (i := 1340) (by decide +kernel)⟩
theorem lw_p71 : lw_okq (⟨"ShipOfficeModel", "findGroups", "()V"⟩, 63) := ⟨⟨by decide +kernel, by decide +kernel⟩, List.mem_of_getElem? (i := 892) (by decide +kernel), List.mem_of_getElem? (i := 1356) (by decide +kernel), List.mem_of_getElem? (i := 1357) (by decide +kernel)⟩
theorem lw_p72 : lw_okq (⟨"ShipOfficeModel", "isAlike", "(II)Z"⟩, 63) := ⟨⟨by decide +kernel, by decide +kernel⟩, List.mem_of_getElem? (i := 892) (by decide +kernel), List.mem_of_getElem? (i := 1360) (by decide +kernel), List.mem_of_getElem? (i := 1361) (by decide +kernel)⟩
theorem lw_p73 : lw_okq (⟨"ShipOfficeModel", "endOf", "(I)I"⟩, 63) := ⟨⟨by decide +kernel, by decide +kernel⟩, List.mem_of_getElem? (i := 892) (by decide +kernel), List.mem_of_getElem? (i := 1368) (by decide +kernel), List.mem_of_getElem? (i := 1369) (by decide +kernel)⟩
theorem lw_p74 : lw_okq (⟨"ShipOfficeModel", "wayTo", "(II)I"⟩, 63) := ⟨⟨by decide +kernel, by decide +kernel⟩, List.mem_of_getElem? (i := 892) (by decide +kernel), List.mem_of_getElem? (i := 1376) (by decide +kernel), List.mem_of_getElem? (i := 1377) (by decide +kernel)⟩
theorem lw_p75 : lw_okq (⟨"ShipOfficeModel", "asksAny", "(I)Z"⟩, 63) := ⟨⟨by decide +kernel, by decide +kernel⟩, List.mem_of_getElem? (i := 892) (by decide +kernel), List.mem_of_getElem? (i := 1388) (by decide +kernel), List.mem_of_getElem? (i := 1389) (by decide +kernel)⟩
theorem lw_p76 : lw_okq (⟨"ShipOfficeModel", "isFree", "(I)Z"⟩, 63) := ⟨⟨by decide +kernel, by decide +kernel⟩, List.mem_of_getElem? (i := 892) (by decide +kernel), List.mem_of_getElem? (i := 1392) (by decide +kernel), List.mem_of_getElem? (i := 1393) (by decide +kernel)⟩
theorem lw_p77 : lw_okq (⟨"ShipOfficeModel", "chooses", "(III)V"⟩, 63) := ⟨⟨by decide +kernel, by decide +kernel⟩, List.mem_of_getElem? (i := 892) (by decide +kernel), List.mem_of_getElem? (i := 1396) (by decide +kernel), List.mem_of_getElem? (i := 1397) (by decide +kernel)⟩
def lw_privs_5 : List (MethodName × Nat) := [(⟨"ShipOfficeModel", "earnsOf", "(III)I"⟩, 63), (⟨"ShipOfficeModel", "puts", "(IIIIZ)V"⟩, 63), (⟨"ShipOfficeModel", "aboardOf", "(III)I"⟩, 63), (⟨"ShipOfficeModel", "isFine", "(II)Z"⟩, 63), (⟨"ShipOfficeModel", "standsOf", "(III)I"⟩, 63), (⟨"ShipOfficeModel", "refuseFar", "(I)I"⟩, 63), (⟨"ShipOfficeModel", "owedOf", "(III)I"⟩, 63), (⟨"ShipOfficeModel", "findGroups", "()V"⟩, 63), (⟨"ShipOfficeModel", "isAlike", "(II)Z"⟩, 63), (⟨"ShipOfficeModel", "endOf", "(I)I"⟩, 63), (⟨"ShipOfficeModel", "wayTo", "(II)I"⟩, 63), (⟨"ShipOfficeModel", "asksAny", "(I)Z"⟩, 63), (⟨"ShipOfficeModel", "isFree", "(I)Z"⟩, 63), (⟨"ShipOfficeModel", "chooses", "(III)V"⟩, 63)]
theorem lw_r5 : ∀ q ∈ lw_privs_5, lw_okq q := List.forall_mem_cons.mpr ⟨lw_p64, List.forall_mem_cons.mpr ⟨lw_p65, List.forall_mem_cons.mpr ⟨lw_p66, List.forall_mem_cons.mpr ⟨lw_p67, List.forall_mem_cons.mpr ⟨lw_p68, List.forall_mem_cons.mpr ⟨lw_p69, List.forall_mem_cons.mpr ⟨lw_p70, List.forall_mem_cons.mpr ⟨lw_p71, List.forall_mem_cons.mpr ⟨lw_p72, List.forall_mem_cons.mpr ⟨lw_p73, List.forall_mem_cons.mpr ⟨lw_p74, List.forall_mem_cons.mpr ⟨lw_p75, List.forall_mem_cons.mpr ⟨lw_p76, List.forall_mem_cons.mpr ⟨lw_p77, fun _ h => absurd h List.not_mem_nil⟩⟩⟩⟩⟩⟩⟩⟩⟩⟩⟩⟩⟩⟩
def lw_privs : List (MethodName × Nat) := lw_privs_1 ++ (lw_privs_2 ++ (lw_privs_3 ++ (lw_privs_4 ++ (lw_privs_5))))
def lw_tbl : List Cond := k2_sels lw_privs ++ tables_1
theorem lw_privs_ok : ∀ q ∈ lw_privs, lw_okq q := by
  show ∀ q ∈ lw_privs_1 ++ (lw_privs_2 ++ (lw_privs_3 ++ (lw_privs_4 ++ (lw_privs_5)))), lw_okq q
  exact List.forall_mem_append.mpr ⟨lw_r1, List.forall_mem_append.mpr ⟨lw_r2, List.forall_mem_append.mpr ⟨lw_r3, List.forall_mem_append.mpr ⟨lw_r4, lw_r5⟩⟩⟩⟩

def RX0 : String := "ShipOffice$Act"
def TX0 : u_T := fun k => match k with
  | 0 => ("ShipOffice$Act", "purpose", "I", true)
  | 1 => ("ShipOffice$Act", "day", "I", true)
  | 2 => ("ShipOffice$Act", "plainWorth", "I", true)
  | 3 => ("ShipOffice$Act", "code", "[I", true)
  | _ => ("ShipOffice$Act", "stack", "[I", true)
def RX1 : String := "ShipOffice$Agreement"
def TX1 : u_T := fun k => match k with
  | 0 => ("ShipOffice$Agreement", "man", "LShipOffice$Man;", true)
  | 1 => ("ShipOffice$Agreement", "voyage", "LShipOffice$Voyage;", true)
  | 2 => ("ShipOffice$Agreement", "signedOn", "I", true)
  | 3 => ("ShipOffice$Agreement", "paper", "LShipOffice$Agreement;", true)
  | 4 => ("ShipOffice$Agreement", "wage", "I", false)
  | 5 => ("ShipOffice$Agreement", "rank", "I", false)
  | 6 => ("ShipOffice$Agreement", "offDay", "I", false)
  | 7 => ("ShipOffice$Agreement", "isDead", "Z", false)
  | 8 => ("ShipOffice$Agreement", "tidings", "LShipOffice$Happening;", false)
  | 9 => ("ShipOffice$Agreement", "note", "I", false)
  | 10 => ("ShipOffice$Agreement", "given", "I", false)
  | 11 => ("ShipOffice$Agreement", "allotment", "I", false)
  | 12 => ("ShipOffice$Agreement", "fines", "[LShipOffice$Fine;", true)
  | 13 => ("ShipOffice$Agreement", "fineCount", "I", false)
  | 14 => ("ShipOffice$Agreement", "shortTold", "[I", true)
  | 15 => ("ShipOffice$Agreement", "shortSum", "[I", true)
  | 16 => ("ShipOffice$Agreement", "shortCount", "I", false)
  | _ => ("ShipOffice$Agreement", "shortDays", "I", false)
def RX2 : String := "ShipOffice$Fine"
def TX2 : u_T := fun k => match k with
  | 0 => ("ShipOffice$Fine", "day", "I", true)
  | 1 => ("ShipOffice$Fine", "sum", "I", true)
  | _ => ("ShipOffice$Fine", "isRead", "Z", false)
def RX3 : String := "ShipOffice$Happening"
def TX3 : u_T := fun k => match k with
  | 0 => ("ShipOffice$Happening", "kind", "I", true)
  | 1 => ("ShipOffice$Happening", "day", "I", true)
  | 2 => ("ShipOffice$Happening", "told", "I", true)
  | 3 => ("ShipOffice$Happening", "way", "I", true)
  | 4 => ("ShipOffice$Happening", "port", "I", true)
  | _ => ("ShipOffice$Happening", "before", "LShipOffice$Happening;", true)
def RX4 : String := "ShipOffice$Hiring"
def TX4 : u_T := fun k => match k with
  | 0 => ("ShipOffice$Hiring", "best", "[J", true)
  | 1 => ("ShipOffice$Hiring", "offers", "[I", true)
  | 2 => ("ShipOffice$Hiring", "offerCount", "I", false)
  | 3 => ("ShipOffice$Hiring", "firstPlace", "[I", true)
  | 4 => ("ShipOffice$Hiring", "goal", "I", false)
  | _ => ("ShipOffice$Hiring", "places", "I", false)
def RX5 : String := "ShipOffice$Law"
def TX5 : u_T := fun k => match k with
  | 0 => ("ShipOffice$Law", "acts", "[LShipOffice$Act;", true)
  | 1 => ("ShipOffice$Law", "customs", "[LShipOffice$Act;", true)
  | _ => ("ShipOffice$Law", "actCount", "I", false)
def RX6 : String := "ShipOffice$Man"
def TX6 : u_T := fun k => match k with
  | 0 => ("ShipOffice$Man", "number", "I", true)
  | 1 => ("ShipOffice$Man", "name", "I", true)
  | 2 => ("ShipOffice$Man", "marks", "I", true)
  | 3 => ("ShipOffice$Man", "born", "I", true)
  | 4 => ("ShipOffice$Man", "wages", "[I", true)
  | _ => ("ShipOffice$Man", "leastAlike", "I", false)
def RX7 : String := "ShipOffice$Sea"
def TX7 : u_T := fun k => match k with
  | 0 => ("ShipOffice$Sea", "miles", "[I", true)
  | _ => ("ShipOffice$Sea", "least", "[I", true)
def RX8 : String := "ShipOffice$Tape"
def TX8 : u_T := fun k => match k with
  | 0 => ("ShipOffice$Tape", "bytes", "[I", true)
  | 1 => ("ShipOffice$Tape", "size", "I", false)
  | 2 => ("ShipOffice$Tape", "code", "[I", true)
  | 3 => ("ShipOffice$Tape", "codeSize", "I", false)
  | 4 => ("ShipOffice$Tape", "at", "I", false)
  | _ => ("ShipOffice$Tape", "fault", "I", false)
def RX9 : String := "ShipOffice$Voyage"
def TX9 : u_T := fun k => match k with
  | 0 => ("ShipOffice$Voyage", "number", "I", true)
  | 1 => ("ShipOffice$Voyage", "ship", "I", true)
  | 2 => ("ShipOffice$Voyage", "port", "I", true)
  | 3 => ("ShipOffice$Voyage", "openedOn", "I", true)
  | 4 => ("ShipOffice$Voyage", "isOver", "Z", false)
  | 5 => ("ShipOffice$Voyage", "sailedDay", "I", false)
  | 6 => ("ShipOffice$Voyage", "sailedTold", "I", false)
  | 7 => ("ShipOffice$Voyage", "lostDay", "I", false)
  | 8 => ("ShipOffice$Voyage", "lostTold", "I", false)
  | _ => ("ShipOffice$Voyage", "heardOf", "LShipOffice$Happening;", false)
def RX10 : String := "ShipOffice"
def TX10 : u_T := fun k => match k with
  | 0 => ("ShipOffice", "now", "I", false)
  | 1 => ("ShipOffice", "men", "[LShipOffice$Man;", true)
  | 2 => ("ShipOffice", "manCount", "I", false)
  | 3 => ("ShipOffice", "voyages", "[LShipOffice$Voyage;", true)
  | 4 => ("ShipOffice", "voyageCount", "I", false)
  | 5 => ("ShipOffice", "agreements", "[LShipOffice$Agreement;", true)
  | 6 => ("ShipOffice", "agreementCount", "I", false)
  | 7 => ("ShipOffice", "happeningCount", "I", false)
  | 8 => ("ShipOffice", "law", "LShipOffice$Law;", true)
  | 9 => ("ShipOffice", "tape", "LShipOffice$Tape;", true)
  | 10 => ("ShipOffice", "sea", "LShipOffice$Sea;", true)
  | 11 => ("ShipOffice", "hiring", "LShipOffice$Hiring;", true)
  | 12 => ("ShipOffice", "letters", "[I", true)
  | 13 => ("ShipOffice", "row", "[I", true)
  | 14 => ("ShipOffice", "rowCount", "I", false)
  | _ => ("ShipOffice", "refusals", "[I", true)
def RX11 : String := "ShipOfficeModel"
def TX11 : u_T := fun k => match k with
  | 0 => ("ShipOfficeModel", "refusals", "[I", true)
  | 1 => ("ShipOfficeModel", "mile", "[I", true)
  | 2 => ("ShipOfficeModel", "name", "[I", true)
  | 3 => ("ShipOfficeModel", "marks", "[I", true)
  | 4 => ("ShipOfficeModel", "born", "[I", true)
  | 5 => ("ShipOfficeModel", "asks", "[I", true)
  | 6 => ("ShipOfficeModel", "ship", "[I", true)
  | 7 => ("ShipOfficeModel", "opened", "[I", true)
  | 8 => ("ShipOfficeModel", "openPort", "[I", true)
  | 9 => ("ShipOfficeModel", "endedOn", "[I", true)
  | 10 => ("ShipOfficeModel", "what", "[I", true)
  | 11 => ("ShipOfficeModel", "whose", "[I", true)
  | 12 => ("ShipOfficeModel", "day", "[I", true)
  | 13 => ("ShipOfficeModel", "known", "[I", true)
  | 14 => ("ShipOfficeModel", "way", "[I", true)
  | 15 => ("ShipOfficeModel", "port", "[I", true)
  | 16 => ("ShipOfficeModel", "textSize", "[I", true)
  | 17 => ("ShipOfficeModel", "purpose", "[I", true)
  | 18 => ("ShipOfficeModel", "from", "[I", true)
  | 19 => ("ShipOfficeModel", "text", "[I", true)
  | 20 => ("ShipOfficeModel", "man", "[I", true)
  | 21 => ("ShipOfficeModel", "voyage", "[I", true)
  | 22 => ("ShipOfficeModel", "wage", "[I", true)
  | 23 => ("ShipOfficeModel", "rank", "[I", true)
  | 24 => ("ShipOfficeModel", "paper", "[I", true)
  | 25 => ("ShipOfficeModel", "signed", "[I", true)
  | 26 => ("ShipOfficeModel", "offOn", "[I", true)
  | 27 => ("ShipOfficeModel", "note", "[I", true)
  | 28 => ("ShipOfficeModel", "given", "[I", true)
  | 29 => ("ShipOfficeModel", "allotted", "[I", true)
  | 30 => ("ShipOfficeModel", "fines", "[I", true)
  | 31 => ("ShipOfficeModel", "shorts", "[I", true)
  | 32 => ("ShipOfficeModel", "shortDays", "[I", true)
  | 33 => ("ShipOfficeModel", "fineDay", "[I", true)
  | 34 => ("ShipOfficeModel", "fineSum", "[I", true)
  | 35 => ("ShipOfficeModel", "shortOn", "[I", true)
  | 36 => ("ShipOfficeModel", "shortSum", "[I", true)
  | 37 => ("ShipOfficeModel", "isRead", "[Z", true)
  | 38 => ("ShipOfficeModel", "now", "I", false)
  | 39 => ("ShipOfficeModel", "men", "I", false)
  | 40 => ("ShipOfficeModel", "voyages", "I", false)
  | 41 => ("ShipOfficeModel", "happened", "I", false)
  | 42 => ("ShipOfficeModel", "acts", "I", false)
  | 43 => ("ShipOfficeModel", "agreements", "I", false)
  | 44 => ("ShipOfficeModel", "tape", "[I", true)
  | 45 => ("ShipOfficeModel", "letters", "[I", true)
  | 46 => ("ShipOfficeModel", "taped", "I", false)
  | 47 => ("ShipOfficeModel", "at", "I", false)
  | 48 => ("ShipOfficeModel", "deep", "I", false)
  | 49 => ("ShipOfficeModel", "base", "I", false)
  | 50 => ("ShipOfficeModel", "size", "I", false)
  | 51 => ("ShipOfficeModel", "isWell", "Z", false)
  | 52 => ("ShipOfficeModel", "groups", "[I", true)
  | 53 => ("ShipOfficeModel", "far", "[I", true)
  | 54 => ("ShipOfficeModel", "some", "[I", true)
  | 55 => ("ShipOfficeModel", "handRank", "[I", true)
  | 56 => ("ShipOfficeModel", "hand", "[I", true)
  | 57 => ("ShipOfficeModel", "best", "[I", true)
  | 58 => ("ShipOfficeModel", "someMany", "I", false)
  | 59 => ("ShipOfficeModel", "hands", "I", false)
  | 60 => ("ShipOfficeModel", "least", "I", false)
  | 61 => ("ShipOfficeModel", "row", "[I", true)
  | _ => ("ShipOfficeModel", "rowed", "I", false)
abbrev vwCl : List vw_C := [(RX0, TX0, 5), (RX1, TX1, 18), (RX2, TX2, 3), (RX3, TX3, 6), (RX4, TX4, 6), (RX5, TX5, 3), (RX6, TX6, 6), (RX7, TX7, 2), (RX8, TX8, 6), (RX9, TX9, 10), (RX10, TX10, 16), (RX11, TX11, 63)]



/-- an int in its bounds, as the classes ask for it -/
def isI (v n : Int32) : Int32 := if v < 0 then 0 else if n ≤ v then 0 else 1
/-- the fields of a fresh office, of a fresh reference -/
def oF (q : Nat → Nat) : List Value := [.int 0, .ref (q 1), .int 0, .ref (q 3), .int 0, .ref (q 5), .int 0, .int 0, .ref (q 8), .ref (q 9), .ref (q 10), .ref (q 11), .ref (q 12), .ref (q 13), .int 0, .ref (q 15)]
def mF (p : Nat → Nat) : List Value := [.ref (p 0), .ref (p 1), .ref (p 2), .ref (p 3), .ref (p 4), .ref (p 5), .ref (p 6), .ref (p 7), .ref (p 8), .ref (p 9), .ref (p 10), .ref (p 11), .ref (p 12), .ref (p 13), .ref (p 14), .ref (p 15), .ref (p 16), .ref (p 17), .ref (p 18), .ref (p 19), .ref (p 20), .ref (p 21), .ref (p 22), .ref (p 23), .ref (p 24), .ref (p 25), .ref (p 26), .ref (p 27), .ref (p 28), .ref (p 29), .ref (p 30), .ref (p 31), .ref (p 32), .ref (p 33), .ref (p 34), .ref (p 35), .ref (p 36), .ref (p 37), .int 0, .int 0, .int 0, .int 0, .int 0, .int 0, .ref (p 44), .ref (p 45), .int 0, .int 0, .int 0, .int 0, .int 0, .int 0, .ref (p 52), .ref (p 53), .ref (p 54), .ref (p 55), .ref (p 56), .ref (p 57), .int 0, .int 0, .int 0, .ref (p 61), .int 0]
def pcW (D : va_G) (tys : List (ClassId × FieldType)) (ws : va_W) (sz : Nat) : State → Prop := fun U => U.heap.size = sz ∧ va_P D vwCl ws U.heap ∧ va_K D vwCl tys U ∧ va_D (fun _ => True) ws
/-- the statics: two tables, two links of nest mates, the classes of four arrays -/
def stZ (A : Nat → Prop) (tL tS : Nat) (U : State) (H : Heap) : Prop :=
  va_Z "ShipOffice" "LETTERS" "[C" (.ref tL) A U H ∧ va_T .char tL 8 (fun j => .int (([119, 114, 97, 100, 110, 115, 108, 120] : List Int32).getD j 0)) A U H ∧ va_Z "ShipOffice$Hiring" "STEP" "[I" (.ref tS) A U H ∧ va_T .int tS 4 (fun j => .int (([1, 3, 9, 27] : List Int32).getD j 0)) A U H ∧ va_Nw (.fieldLinkNest "ShipOffice$Act" 23 "ShipOffice" "LETTERS" "[C" "ShipOffice") U ∧ va_Nw (.fieldLinkNest "ShipOffice$Tape" 67 "ShipOffice" "LETTERS" "[C" "ShipOffice") U ∧ va_AO "ShipOffice$Act" U ∧ va_AO "ShipOffice$Man" U ∧ va_AO "ShipOffice$Voyage" U ∧ va_AO "ShipOffice$Agreement" U
def pcS (D : va_G) (tys : List (ClassId × FieldType)) (ws : va_W) (sz : Nat) (tL tS : Nat) (wa : va_W) : State → Prop := fun U => pcW D tys ws sz U ∧ stZ (va_A wa sz) tL tS U U.heap
theorem stZ.go {A B : Nat → Prop} {tL tS : Nat} {s : State} {H : Heap} {locs : List Loc} (h : stZ A tL tS s s.heap) (hS : va_S A s.heap H locs) (hB : ∀ q, B q → A q) : ∀ U : State, U.heap = H → s.WarmedH U.vm → stZ B tL tS U U.heap := by
  intro U hU hW
  subst hU
  obtain ⟨h1, h2, h3, h4, h5, h6, h7, h8, h9, h10⟩ := h
  exact ⟨((h1.kept hS.2.1).moved hW.alike).narrow hB, ((h2.kept hS.2.1).moved hW.alike).narrow hB, ((h3.kept hS.2.1).moved hW.alike).narrow hB, ((h4.kept hS.2.1).moved hW.alike).narrow hB, h5.warmF hW, h6.warmF hW, h7.moved hW.alike, h8.moved hW.alike, h9.moved hW.alike, h10.moved hW.alike⟩
theorem fb_W {D : va_G} {tys : List (ClassId × FieldType)} {ws : va_W} {sz : Nat} {av : List Value} : FrameBlind (va_Pc av (pcW D tys ws sz)) := fun a U g mk q => by
  obtain ⟨q0, q1, qP, qK, qD⟩ := q
  exact ⟨q0, q1, qP, va_K.moved (u := U) (U := U.calling g mk a) (Vm.Alike.refl U.vm) qK, qD⟩
theorem fb_S {D : va_G} {tys : List (ClassId × FieldType)} {ws wa : va_W} {sz tL tS : Nat} {av : List Value} : FrameBlind (va_Pc av (pcS D tys ws sz tL tS wa)) := fun a U g mk q => by
  obtain ⟨q0, ⟨q1, qP, qK, qD⟩, h1, h2, h3, h4, h5, h6, h7, h8, h9, h10⟩ := q
  have e := Vm.Alike.refl U.vm
  exact ⟨q0, ⟨q1, qP, va_K.moved (u := U) (U := U.calling g mk a) e qK, qD⟩, va_Z.moved (u := U) (U := U.calling g mk a) e h1, va_T.moved (u := U) (U := U.calling g mk a) e h2, va_Z.moved (u := U) (U := U.calling g mk a) e h3, va_T.moved (u := U) (U := U.calling g mk a) e h4, va_Nw.same (u := U) (U := U.calling g mk a) rfl rfl h5, va_Nw.same (u := U) (U := U.calling g mk a) rfl rfl h6, va_AO.moved (u := U) (U := U.calling g mk a) e h7, va_AO.moved (u := U) (U := U.calling g mk a) e h8, va_AO.moved (u := U) (U := U.calling g mk a) e h9, va_AO.moved (u := U) (U := U.calling g mk a) e h10⟩
theorem pr_S {s : State} {H : Heap} {D : va_G} {tys : List (ClassId × FieldType)} {ws : va_W} {A : Nat → Prop} {As : List Value} (hP : va_P D vwCl ws H) (hK : va_K D vwCl tys s) (hD : va_D A ws) : PreS s H (va_Pc As (pcW D tys ws H.size)) As :=
  ⟨fb_W, fun U hU hW => ⟨rfl, by rw [hU], by rw [hU]; exact hP, va_K.moved hW.alike hK, hD.weaken (fun _ _ _ _ => trivial)⟩⟩
theorem pr_SS {s : State} {H : Heap} {D : va_G} {tys : List (ClassId × FieldType)} {ws wa : va_W} {A : Nat → Prop} {As : List Value} {tL tS : Nat} (hP : va_P D vwCl ws H) (hK : va_K D vwCl tys s) (hD : va_D A ws) (hZ : ∀ U : State, U.heap = H → s.WarmedH U.vm → stZ (va_A wa H.size) tL tS U U.heap) : PreS s H (va_Pc As (pcS D tys ws H.size tL tS wa)) As :=
  ⟨fb_S, fun U hU hW => ⟨rfl, ⟨by rw [hU], by rw [hU]; exact hP, va_K.moved hW.alike hK, hD.weaken (fun _ _ _ _ => trivial)⟩, hZ U hU hW⟩⟩
theorem pr_V {s : State} {H : Heap} {D : va_G} {tys : List (ClassId × FieldType)} {ws : va_W} {A : Nat → Prop} {As : List Value} {b : Nat} {r : vw_C} {fs : List Value} (hP : va_P D vwCl ws H) (hK : va_K D vwCl tys s) (hD : va_D A ws) (q0 ci : Nat) (hc : vwCl[ci]? = some r) (he : ws[q0]? = some (b, .inr (ci, fs))) : PreV s H r.1 b (va_Pc (.ref b :: As) (pcW D tys ws H.size)) As :=
  ⟨fb_W, va_recv hK hP hc he, fun U hU hW => ⟨rfl, by rw [hU], by rw [hU]; exact hP, va_K.moved hW.alike hK, hD.weaken (fun _ _ _ _ => trivial)⟩⟩
theorem pr_VS {s : State} {H : Heap} {D : va_G} {tys : List (ClassId × FieldType)} {ws wa : va_W} {A : Nat → Prop} {As : List Value} {b tL tS : Nat} {r : vw_C} {fs : List Value} (hP : va_P D vwCl ws H) (hK : va_K D vwCl tys s) (hD : va_D A ws) (q0 ci : Nat) (hc : vwCl[ci]? = some r) (he : ws[q0]? = some (b, .inr (ci, fs))) (hZ : ∀ U : State, U.heap = H → s.WarmedH U.vm → stZ (va_A wa H.size) tL tS U U.heap) : PreV s H r.1 b (va_Pc (.ref b :: As) (pcS D tys ws H.size tL tS wa)) As :=
  ⟨fb_S, va_recv hK hP hc he, fun U hU hW => ⟨rfl, ⟨by rw [hU], by rw [hU]; exact hP, va_K.moved hW.alike hK, hD.weaken (fun _ _ _ _ => trivial)⟩, hZ U hU hW⟩⟩
theorem pu_free {A0 : Nat → Prop} {H0 H : Heap} {locs : List Loc} (hS : va_S A0 H0 H locs) (hA : ∀ q, H0.size ≤ q → A0 q) : ∀ q, va_A [] H.size q → A0 q := fun q h => by
  rcases h with ⟨k, e, h⟩ | h
  · simp at h
  · exact hA q (Nat.le_trans hS.1 h)
theorem pu_keep {D : va_G} {ws : va_W} {H H1 : Heap} (hP : va_P D vwCl ws H) (hk : ∀ q : Nat, q < H.size → ¬ va_A [] H.size q → H1[q]? = H[q]?) : va_P D vwCl ws H1 := hP.kept (fun k q hq => hk q.1 (hP k q hq).lt (fun h => by
  rcases h with ⟨k, e, h⟩ | h
  · simp at h
  · exact absurd (hP _ q hq).lt (Nat.not_lt.mpr h)))
end
section
theorem goodIn_r {big : List Cond} (ws : List Cond) (ps : List Nat) (hp : ws = ps.filterMap (fun i => big[i]?)) (h : ws.all goodWord = true) : GoodIn big ws := by
  intro w hw
  have h1 := List.all_eq_true.mp h w hw
  rw [hp] at hw
  obtain ⟨i, -, hi⟩ := List.mem_filterMap.mp hw
  have hm : w ∈ big := by first | exact List.mem_of_getElem? hi | exact List.getElem?_mem hi
  exact ⟨hm, good_of_word h1⟩
theorem goodIn_app {big a b : List Cond} (ha : GoodIn big a) (hb : GoodIn big b) : GoodIn big (a ++ b) := fun w h => (List.mem_append.mp h).elim (ha w) (hb w)
abbrev wsX00 : List Cond := u_ws RX0 TX0 5
abbrev cX0_uses : ByteArray := prog_2_method_2_code
def yX0_uses : MethodName := ⟨RX0, "uses", "(I)Z"⟩
abbrev cX0_worth : ByteArray := prog_2_method_3_code
def yX0_worth : MethodName := ⟨RX0, "worth", "([I)I"⟩
abbrev cX0_joined : ByteArray := prog_2_method_4_code
def yX0_joined : MethodName := ⟨RX0, "joined", "(JJI)I"⟩
abbrev cX0_held : ByteArray := prog_2_method_5_code
def yX0_held : MethodName := ⟨RX0, "held", "(J)I"⟩
abbrev wsX10 : List Cond := u_ws RX1 TX1 18
abbrev cX1_init : ByteArray := prog_3_method_1_code
def yX1_init : MethodName := ⟨RX1, "<init>", "(LShipOffice$Man;LShipOffice$Voyage;ILShipOffice$Agreement;)V"⟩
abbrev cX1_goesOn : ByteArray := prog_3_method_2_code
def yX1_goesOn : MethodName := ⟨RX1, "goesOn", "()Z"⟩
abbrev cX1_stateOn : ByteArray := prog_3_method_3_code
def yX1_stateOn : MethodName := ⟨RX1, "stateOn", "(IILShipOffice$Law;)I"⟩
abbrev cX1_diedBy : ByteArray := prog_3_method_4_code
def yX1_diedBy : MethodName := ⟨RX1, "diedBy", "(II)Z"⟩
abbrev cX1_lastMove : ByteArray := prog_3_method_5_code
def yX1_lastMove : MethodName := ⟨RX1, "lastMove", "(II)LShipOffice$Happening;"⟩
abbrev cX1_leavingOn : ByteArray := prog_3_method_6_code
def yX1_leavingOn : MethodName := ⟨RX1, "leavingOn", "(IILShipOffice$Law;)LShipOffice$Happening;"⟩
abbrev cX1_earningDays : ByteArray := prog_3_method_7_code
def yX1_earningDays : MethodName := ⟨RX1, "earningDays", "(IILShipOffice$Law;)I"⟩
abbrev cX1_daysIn : ByteArray := prog_3_method_8_code
def yX1_daysIn : MethodName := ⟨RX1, "daysIn", "(IIILShipOffice$Law;)I"⟩
abbrev cX1_nextChange : ByteArray := prog_3_method_9_code
def yX1_nextChange : MethodName := ⟨RX1, "nextChange", "(IILShipOffice$Law;)I"⟩
abbrev cX1_nearer : ByteArray := prog_3_method_10_code
def yX1_nearer : MethodName := ⟨RX1, "nearer", "(III)I"⟩
abbrev cX1_notePaid : ByteArray := prog_3_method_11_code
def yX1_notePaid : MethodName := ⟨RX1, "notePaid", "(IILShipOffice$Law;)I"⟩
abbrev cX1_allotmentsPaid : ByteArray := prog_3_method_12_code
def yX1_allotmentsPaid : MethodName := ⟨RX1, "allotmentsPaid", "(IILShipOffice$Law;)I"⟩
abbrev cX1_addShort : ByteArray := prog_3_method_13_code
def yX1_addShort : MethodName := ⟨RX1, "addShort", "(III)V"⟩
abbrev cX1_shortPence : ByteArray := prog_3_method_14_code
def yX1_shortPence : MethodName := ⟨RX1, "shortPence", "(I)I"⟩
abbrev wsX20 : List Cond := u_ws RX2 TX2 3
abbrev cX2_init : ByteArray := prog_4_method_1_code
def yX2_init : MethodName := ⟨RX2, "<init>", "(IIZ)V"⟩
abbrev wsX30 : List Cond := u_ws RX3 TX3 6
abbrev cX3_init : ByteArray := prog_5_method_1_code
def yX3_init : MethodName := ⟨RX3, "<init>", "(IIIIILShipOffice$Happening;)V"⟩
abbrev wsX50 : List Cond := u_ws RX5 TX5 3
abbrev cX5_inForce : ByteArray := prog_7_method_3_code
def yX5_inForce : MethodName := ⟨RX5, "inForce", "(II)LShipOffice$Act;"⟩
abbrev cX5_nextPresume : ByteArray := prog_7_method_4_code
def yX5_nextPresume : MethodName := ⟨RX5, "nextPresume", "(I)I"⟩
abbrev wsX60 : List Cond := u_ws RX6 TX6 6
abbrev cX6_yearsOn : ByteArray := prog_8_method_2_code
def yX6_yearsOn : MethodName := ⟨RX6, "yearsOn", "(I)I"⟩
abbrev wsX70 : List Cond := u_ws RX7 TX7 2
abbrev cX7_way : ByteArray := prog_9_method_3_code
def yX7_way : MethodName := ⟨RX7, "way", "(II)I"⟩
abbrev cX7_shorten : ByteArray := prog_9_method_4_code
def yX7_shorten : MethodName := ⟨RX7, "shorten", "()V"⟩
abbrev wsX90 : List Cond := u_ws RX9 TX9 10
abbrev cX9_takesHands : ByteArray := prog_11_method_2_code
def yX9_takesHands : MethodName := ⟨RX9, "takesHands", "()Z"⟩
abbrev cX9_sailedBy : ByteArray := prog_11_method_3_code
def yX9_sailedBy : MethodName := ⟨RX9, "sailedBy", "(II)Z"⟩
abbrev cX9_lostBy : ByteArray := prog_11_method_4_code
def yX9_lostBy : MethodName := ⟨RX9, "lostBy", "(II)Z"⟩
abbrev cX9_lastHeard : ByteArray := prog_11_method_5_code
def yX9_lastHeard : MethodName := ⟨RX9, "lastHeard", "(II)I"⟩
abbrev cX9_daysUnheard : ByteArray := prog_11_method_6_code
def yX9_daysUnheard : MethodName := ⟨RX9, "daysUnheard", "(II)I"⟩
abbrev cX9_nextTold : ByteArray := prog_11_method_7_code
def yX9_nextTold : MethodName := ⟨RX9, "nextTold", "(II)I"⟩
abbrev wsX100 : List Cond := u_ws RX10 TX10 16
abbrev cX10_ended : ByteArray := prog_1_method_6_code
def yX10_ended : MethodName := ⟨RX10, "ended", "(II)I"⟩
abbrev cX10_sailed : ByteArray := prog_1_method_7_code
def yX10_sailed : MethodName := ⟨RX10, "sailed", "(II)I"⟩
abbrev cX10_heard : ByteArray := prog_1_method_8_code
def yX10_heard : MethodName := ⟨RX10, "heard", "(II)I"⟩
abbrev cX10_lost : ByteArray := prog_1_method_9_code
def yX10_lost : MethodName := ⟨RX10, "lost", "(II)I"⟩
abbrev cX10_left : ByteArray := prog_1_method_10_code
def yX10_left : MethodName := ⟨RX10, "left", "(IIII)I"⟩
abbrev cX10_died : ByteArray := prog_1_method_11_code
def yX10_died : MethodName := ⟨RX10, "died", "(II)I"⟩
abbrev cX10_back : ByteArray := prog_1_method_12_code
def yX10_back : MethodName := ⟨RX10, "back", "(II)I"⟩
abbrev cX10_sign : ByteArray := prog_1_method_15_code
def yX10_sign : MethodName := ⟨RX10, "sign", "(IIIII)I"⟩
abbrev cX10_off : ByteArray := prog_1_method_16_code
def yX10_off : MethodName := ⟨RX10, "off", "(II)I"⟩
abbrev cX10_state : ByteArray := prog_1_method_17_code
def yX10_state : MethodName := ⟨RX10, "state", "(III)I"⟩
abbrev cX10_earns : ByteArray := prog_1_method_18_code
def yX10_earns : MethodName := ⟨RX10, "earns", "(III)I"⟩
abbrev cX10_advance : ByteArray := prog_1_method_19_code
def yX10_advance : MethodName := ⟨RX10, "advance", "(II)I"⟩
abbrev cX10_sold : ByteArray := prog_1_method_20_code
def yX10_sold : MethodName := ⟨RX10, "sold", "(II)I"⟩
abbrev cX10_allot : ByteArray := prog_1_method_21_code
def yX10_allot : MethodName := ⟨RX10, "allot", "(II)I"⟩
abbrev cX10_fine : ByteArray := prog_1_method_22_code
def yX10_fine : MethodName := ⟨RX10, "fine", "(IIIZ)I"⟩
abbrev cX10_read : ByteArray := prog_1_method_23_code
def yX10_read : MethodName := ⟨RX10, "read", "(II)I"⟩
abbrev cX10_stands : ByteArray := prog_1_method_24_code
def yX10_stands : MethodName := ⟨RX10, "stands", "(III)I"⟩
abbrev cX10_rations : ByteArray := prog_1_method_25_code
def yX10_rations : MethodName := ⟨RX10, "rations", "(III)I"⟩
abbrev cX10_owed : ByteArray := prog_1_method_26_code
def yX10_owed : MethodName := ⟨RX10, "owed", "(III)I"⟩
abbrev cX10_agreementOf : ByteArray := prog_1_method_27_code
def yX10_agreementOf : MethodName := ⟨RX10, "agreementOf", "(II)I"⟩
abbrev cX10_aboard : ByteArray := prog_1_method_28_code
def yX10_aboard : MethodName := ⟨RX10, "aboard", "(III)I"⟩
abbrev cX10_group : ByteArray := prog_1_method_29_code
def yX10_group : MethodName := ⟨RX10, "group", "(I)I"⟩
abbrev cX10_borrowed : ByteArray := prog_1_method_30_code
def yX10_borrowed : MethodName := ⟨RX10, "borrowed", "(I)I"⟩
abbrev cX10_home : ByteArray := prog_1_method_31_code
def yX10_home : MethodName := ⟨RX10, "home", "(I)I"⟩
abbrev cX10_ask : ByteArray := prog_1_method_32_code
def yX10_ask : MethodName := ⟨RX10, "ask", "(III)I"⟩
abbrev cX10_check : ByteArray := prog_1_method_35_code
def yX10_check : MethodName := ⟨RX10, "check", "(III)I"⟩
abbrev cX10_refuse : ByteArray := prog_1_method_37_code
def yX10_refuse : MethodName := ⟨RX10, "refuse", "(I)I"⟩
abbrev cX10_isPort : ByteArray := prog_1_method_38_code
def yX10_isPort : MethodName := ⟨RX10, "isPort", "(I)Z"⟩
abbrev cX10_manAt : ByteArray := prog_1_method_39_code
def yX10_manAt : MethodName := ⟨RX10, "manAt", "(I)LShipOffice$Man;"⟩
abbrev cX10_voyageAt : ByteArray := prog_1_method_40_code
def yX10_voyageAt : MethodName := ⟨RX10, "voyageAt", "(I)LShipOffice$Voyage;"⟩
abbrev cX10_agreementAt : ByteArray := prog_1_method_41_code
def yX10_agreementAt : MethodName := ⟨RX10, "agreementAt", "(I)LShipOffice$Agreement;"⟩
abbrev cX10_fineAt : ByteArray := prog_1_method_42_code
def yX10_fineAt : MethodName := ⟨RX10, "fineAt", "(LShipOffice$Agreement;I)LShipOffice$Fine;"⟩
abbrev cX10_voyageRefusal : ByteArray := prog_1_method_43_code
def yX10_voyageRefusal : MethodName := ⟨RX10, "voyageRefusal", "(LShipOffice$Voyage;IZ)I"⟩
abbrev cX10_tidingRefusal : ByteArray := prog_1_method_44_code
def yX10_tidingRefusal : MethodName := ⟨RX10, "tidingRefusal", "(LShipOffice$Agreement;I)I"⟩
abbrev cX10_askRefusal : ByteArray := prog_1_method_45_code
def yX10_askRefusal : MethodName := ⟨RX10, "askRefusal", "(II)I"⟩
abbrev cX10_addTiding : ByteArray := prog_1_method_46_code
def yX10_addTiding : MethodName := ⟨RX10, "addTiding", "(LShipOffice$Agreement;IIII)I"⟩
abbrev cX10_isFree : ByteArray := prog_1_method_50_code
def yX10_isFree : MethodName := ⟨RX10, "isFree", "(LShipOffice$Man;)Z"⟩
abbrev cX10_menAboard : ByteArray := prog_1_method_54_code
def yX10_menAboard : MethodName := ⟨RX10, "menAboard", "(LShipOffice$Voyage;II)I"⟩
abbrev cX10_isShownTwice : ByteArray := prog_1_method_55_code
def yX10_isShownTwice : MethodName := ⟨RX10, "isShownTwice", "(LShipOffice$Agreement;)Z"⟩
abbrev cX10_lastDay : ByteArray := prog_1_method_56_code
def yX10_lastDay : MethodName := ⟨RX10, "lastDay", "(LShipOffice$Agreement;)I"⟩
abbrev cX10_signWorth : ByteArray := prog_1_method_57_code
def yX10_signWorth : MethodName := ⟨RX10, "signWorth", "(LShipOffice$Man;II)I"⟩
abbrev cX10_worthFor : ByteArray := prog_1_method_58_code
def yX10_worthFor : MethodName := ⟨RX10, "worthFor", "(ILShipOffice$Agreement;IIII)I"⟩
abbrev cX10_standing : ByteArray := prog_1_method_59_code
def yX10_standing : MethodName := ⟨RX10, "standing", "(LShipOffice$Agreement;LShipOffice$Fine;I)I"⟩
abbrev cX10_owedOn : ByteArray := prog_1_method_60_code
def yX10_owedOn : MethodName := ⟨RX10, "owedOn", "(LShipOffice$Agreement;II)I"⟩
def RJ7 : String := "java/util/Arrays"
abbrev cJ7_fill_53178 : ByteArray := prog_17_method_103_code
def yJ7_fill_53178 : MethodName := ⟨RJ7, "fill", "([II)V"⟩
def wsX10_refuse : List Cond := .code yX10_refuse cX10_refuse 2 (some .int) :: ([.fieldLink RX10 66 "ShipOffice" "refusals" "[I"] ++ wsX100)
def wsX10_voyageAt : List Cond := .code yX10_voyageAt cX10_voyageAt 2 (some (.object "ShipOffice$Voyage")) :: ([.fieldLink RX10 99 "ShipOffice" "voyageCount" "I", .fieldLink RX10 17 "ShipOffice" "voyages" "[LShipOffice$Voyage;"] ++ wsX100)
def wsX10_ended_r1 : List Cond := [Cond.fieldLink RX10 107 "ShipOffice$Voyage" "isOver" "Z", Cond.fieldLink RX10 111 "ShipOffice$Voyage" "lostTold" "I", Cond.constant RX10 114 (1000000), Cond.fieldLink RX10 115 "ShipOffice" "agreementCount" "I", Cond.fieldLink RX10 23 "ShipOffice" "agreements" "[LShipOffice$Agreement;", Cond.fieldLink RX10 118 "ShipOffice$Agreement" "voyage" "LShipOffice$Voyage;", Cond.fieldLink RX10 73 "ShipOffice" "now" "I", Cond.fieldLink RX10 126 "ShipOffice$Agreement" "offDay" "I", Cond.methodLink RX10 103 yX10_voyageAt, Cond.instanceMethod yX10_voyageAt, Cond.selects RX10 yX10_voyageAt yX10_voyageAt, Cond.initialized RX10, Cond.code yX10_voyageAt cX10_voyageAt 2 (some (.object "ShipOffice$Voyage")), Cond.fieldLink RX10 99 "ShipOffice" "voyageCount" "I", Cond.fieldLink RX10 17 "ShipOffice" "voyages" "[LShipOffice$Voyage;", Cond.methodLink RX10 77 yX10_isPort, Cond.static yX10_isPort, Cond.code yX10_isPort cX10_isPort 1 (some .boolean), Cond.methodLink RX10 69 yX10_refuse, Cond.instanceMethod yX10_refuse, Cond.selects RX10 yX10_refuse yX10_refuse, Cond.code yX10_refuse cX10_refuse 2 (some .int), Cond.fieldLink RX10 66 "ShipOffice" "refusals" "[I", Cond.methodLink RX10 122 yX1_goesOn]
def wsX10_ended_r2 : List Cond := [Cond.instanceMethod yX1_goesOn, Cond.selects RX1 yX1_goesOn yX1_goesOn, Cond.initialized RX1, Cond.code yX1_goesOn cX1_goesOn 1 (some .boolean), Cond.fieldLink RX1 10 "ShipOffice$Agreement" "offDay" "I", Cond.constant RX1 9 (1000000), Cond.fieldLink RX1 44 "ShipOffice$Agreement" "isDead" "Z", Cond.fieldLink RX1 33 "ShipOffice$Agreement" "voyage" "LShipOffice$Voyage;", Cond.fieldLink RX1 48 "ShipOffice$Voyage" "lostTold" "I"]
def wsX10_ended : List Cond := .code yX10_ended cX10_ended 7 (some .int) :: ((wsX10_ended_r1 ++ wsX10_ended_r2) ++ wsX90 ++ wsX100 ++ wsX10)
def wsX10_sailed : List Cond := .code yX10_sailed cX10_sailed 5 (some .int) :: ([.fieldLink RX10 129 "ShipOffice$Voyage" "sailedTold" "I", .constant RX10 114 (1000000), .fieldLink RX10 136 "ShipOffice$Voyage" "sailedDay" "I", .fieldLink RX10 73 "ShipOffice" "now" "I", .fieldLink RX10 139 "ShipOffice" "happeningCount" "I", .methodLink RX10 103 yX10_voyageAt, .instanceMethod yX10_voyageAt, .selects RX10 yX10_voyageAt yX10_voyageAt, .initialized RX10, .code yX10_voyageAt cX10_voyageAt 2 (some (.object "ShipOffice$Voyage")), .fieldLink RX10 99 "ShipOffice" "voyageCount" "I", .fieldLink RX10 17 "ShipOffice" "voyages" "[LShipOffice$Voyage;", .methodLink RX10 69 yX10_refuse, .instanceMethod yX10_refuse, .selects RX10 yX10_refuse yX10_refuse, .code yX10_refuse cX10_refuse 2 (some .int), .fieldLink RX10 66 "ShipOffice" "refusals" "[I", .methodLink RX10 132 yX10_voyageRefusal, .instanceMethod yX10_voyageRefusal, .selects RX10 yX10_voyageRefusal yX10_voyageRefusal, .code yX10_voyageRefusal cX10_voyageRefusal 4 (some .int), .fieldLink RX10 107 "ShipOffice$Voyage" "isOver" "Z", .fieldLink RX10 365 "ShipOffice$Voyage" "openedOn" "I"] ++ wsX90 ++ wsX100)
def wsX10_heard_r1 : List Cond := [Cond.classLink RX10 142 RX3, Cond.instantiable RX3 6, Cond.initialized RX3, Cond.fieldLink RX10 73 "ShipOffice" "now" "I", Cond.fieldLink RX10 144 "ShipOffice$Voyage" "heardOf" "LShipOffice$Happening;", Cond.fieldLink RX10 139 "ShipOffice" "happeningCount" "I", Cond.methodLink RX10 103 yX10_voyageAt, Cond.instanceMethod yX10_voyageAt, Cond.selects RX10 yX10_voyageAt yX10_voyageAt, Cond.initialized RX10, Cond.code yX10_voyageAt cX10_voyageAt 2 (some (.object "ShipOffice$Voyage")), Cond.fieldLink RX10 99 "ShipOffice" "voyageCount" "I", Cond.fieldLink RX10 17 "ShipOffice" "voyages" "[LShipOffice$Voyage;", Cond.methodLink RX10 69 yX10_refuse, Cond.instanceMethod yX10_refuse, Cond.selects RX10 yX10_refuse yX10_refuse, Cond.code yX10_refuse cX10_refuse 2 (some .int), Cond.fieldLink RX10 66 "ShipOffice" "refusals" "[I", Cond.methodLink RX10 132 yX10_voyageRefusal, Cond.instanceMethod yX10_voyageRefusal, Cond.selects RX10 yX10_voyageRefusal yX10_voyageRefusal, Cond.code yX10_voyageRefusal cX10_voyageRefusal 4 (some .int), Cond.fieldLink RX10 107 "ShipOffice$Voyage" "isOver" "Z", Cond.fieldLink RX10 365 "ShipOffice$Voyage" "openedOn" "I"]
def wsX10_heard_r2 : List Cond := [Cond.methodLink RX10 148 yX3_init, Cond.instanceMethod yX3_init, Cond.code yX3_init cX3_init 7 none, Cond.methodLink RX3 1 objectInit, Cond.instanceMethod objectInit, Cond.code objectInit ⟨#[0xb1]⟩ 1 none, Cond.fieldLink RX3 7 "ShipOffice$Happening" "kind" "I", Cond.fieldLink RX3 13 "ShipOffice$Happening" "day" "I", Cond.fieldLink RX3 16 "ShipOffice$Happening" "told" "I", Cond.fieldLink RX3 19 "ShipOffice$Happening" "way" "I", Cond.fieldLink RX3 22 "ShipOffice$Happening" "port" "I", Cond.fieldLink RX3 25 "ShipOffice$Happening" "before" "LShipOffice$Happening;"]
def wsX10_heard : List Cond := .code yX10_heard cX10_heard 5 (some .int) :: ((wsX10_heard_r1 ++ wsX10_heard_r2) ++ wsX30 ++ wsX100 ++ wsX90)
def wsX10_lost : List Cond := .code yX10_lost cX10_lost 5 (some .int) :: ([.fieldLink RX10 111 "ShipOffice$Voyage" "lostTold" "I", .constant RX10 114 (1000000), .fieldLink RX10 151 "ShipOffice$Voyage" "lostDay" "I", .fieldLink RX10 73 "ShipOffice" "now" "I", .fieldLink RX10 139 "ShipOffice" "happeningCount" "I", .methodLink RX10 103 yX10_voyageAt, .instanceMethod yX10_voyageAt, .selects RX10 yX10_voyageAt yX10_voyageAt, .initialized RX10, .code yX10_voyageAt cX10_voyageAt 2 (some (.object "ShipOffice$Voyage")), .fieldLink RX10 99 "ShipOffice" "voyageCount" "I", .fieldLink RX10 17 "ShipOffice" "voyages" "[LShipOffice$Voyage;", .methodLink RX10 69 yX10_refuse, .instanceMethod yX10_refuse, .selects RX10 yX10_refuse yX10_refuse, .code yX10_refuse cX10_refuse 2 (some .int), .fieldLink RX10 66 "ShipOffice" "refusals" "[I", .methodLink RX10 132 yX10_voyageRefusal, .instanceMethod yX10_voyageRefusal, .selects RX10 yX10_voyageRefusal yX10_voyageRefusal, .code yX10_voyageRefusal cX10_voyageRefusal 4 (some .int), .fieldLink RX10 107 "ShipOffice$Voyage" "isOver" "Z", .fieldLink RX10 365 "ShipOffice$Voyage" "openedOn" "I"] ++ wsX90 ++ wsX100)
def wsX10_agreementAt : List Cond := .code yX10_agreementAt cX10_agreementAt 2 (some (.object "ShipOffice$Agreement")) :: ([.fieldLink RX10 115 "ShipOffice" "agreementCount" "I", .fieldLink RX10 23 "ShipOffice" "agreements" "[LShipOffice$Agreement;"] ++ wsX100)
def wsX10_left_r1 : List Cond := [Cond.methodLink RX10 154 yX10_agreementAt, Cond.instanceMethod yX10_agreementAt, Cond.selects RX10 yX10_agreementAt yX10_agreementAt, Cond.initialized RX10, Cond.code yX10_agreementAt cX10_agreementAt 2 (some (.object "ShipOffice$Agreement")), Cond.fieldLink RX10 115 "ShipOffice" "agreementCount" "I", Cond.fieldLink RX10 23 "ShipOffice" "agreements" "[LShipOffice$Agreement;", Cond.methodLink RX10 77 yX10_isPort, Cond.static yX10_isPort, Cond.code yX10_isPort cX10_isPort 1 (some .boolean), Cond.methodLink RX10 69 yX10_refuse, Cond.instanceMethod yX10_refuse, Cond.selects RX10 yX10_refuse yX10_refuse, Cond.code yX10_refuse cX10_refuse 2 (some .int), Cond.fieldLink RX10 66 "ShipOffice" "refusals" "[I", Cond.methodLink RX10 158 yX10_tidingRefusal, Cond.instanceMethod yX10_tidingRefusal, Cond.selects RX10 yX10_tidingRefusal yX10_tidingRefusal, Cond.code yX10_tidingRefusal cX10_tidingRefusal 3 (some .int), Cond.fieldLink RX10 126 "ShipOffice$Agreement" "offDay" "I", Cond.constant RX10 114 (1000000), Cond.fieldLink RX10 255 "ShipOffice$Agreement" "signedOn" "I", Cond.fieldLink RX10 73 "ShipOffice" "now" "I", Cond.fieldLink RX10 139 "ShipOffice" "happeningCount" "I"]
def wsX10_left_r2 : List Cond := [Cond.methodLink RX10 162 yX10_addTiding, Cond.instanceMethod yX10_addTiding, Cond.selects RX10 yX10_addTiding yX10_addTiding, Cond.code yX10_addTiding cX10_addTiding 6 (some .int), Cond.classLink RX10 142 RX3, Cond.instantiable RX3 6, Cond.initialized RX3, Cond.fieldLink RX10 368 "ShipOffice$Agreement" "tidings" "LShipOffice$Happening;", Cond.methodLink RX10 148 yX3_init, Cond.instanceMethod yX3_init, Cond.code yX3_init cX3_init 7 none, Cond.methodLink RX3 1 objectInit, Cond.instanceMethod objectInit, Cond.code objectInit ⟨#[0xb1]⟩ 1 none, Cond.fieldLink RX3 7 "ShipOffice$Happening" "kind" "I", Cond.fieldLink RX3 13 "ShipOffice$Happening" "day" "I", Cond.fieldLink RX3 16 "ShipOffice$Happening" "told" "I", Cond.fieldLink RX3 19 "ShipOffice$Happening" "way" "I", Cond.fieldLink RX3 22 "ShipOffice$Happening" "port" "I", Cond.fieldLink RX3 25 "ShipOffice$Happening" "before" "LShipOffice$Happening;"]
def wsX10_left : List Cond := .code yX10_left cX10_left 7 (some .int) :: ((wsX10_left_r1 ++ wsX10_left_r2) ++ wsX100 ++ wsX10 ++ wsX30)
def wsX10_died_r1 : List Cond := [Cond.fieldLink RX10 166 "ShipOffice$Agreement" "isDead" "Z", Cond.methodLink RX10 154 yX10_agreementAt, Cond.instanceMethod yX10_agreementAt, Cond.selects RX10 yX10_agreementAt yX10_agreementAt, Cond.initialized RX10, Cond.code yX10_agreementAt cX10_agreementAt 2 (some (.object "ShipOffice$Agreement")), Cond.fieldLink RX10 115 "ShipOffice" "agreementCount" "I", Cond.fieldLink RX10 23 "ShipOffice" "agreements" "[LShipOffice$Agreement;", Cond.methodLink RX10 69 yX10_refuse, Cond.instanceMethod yX10_refuse, Cond.selects RX10 yX10_refuse yX10_refuse, Cond.code yX10_refuse cX10_refuse 2 (some .int), Cond.fieldLink RX10 66 "ShipOffice" "refusals" "[I", Cond.methodLink RX10 158 yX10_tidingRefusal, Cond.instanceMethod yX10_tidingRefusal, Cond.selects RX10 yX10_tidingRefusal yX10_tidingRefusal, Cond.code yX10_tidingRefusal cX10_tidingRefusal 3 (some .int), Cond.fieldLink RX10 126 "ShipOffice$Agreement" "offDay" "I", Cond.constant RX10 114 (1000000), Cond.fieldLink RX10 255 "ShipOffice$Agreement" "signedOn" "I", Cond.fieldLink RX10 73 "ShipOffice" "now" "I", Cond.fieldLink RX10 139 "ShipOffice" "happeningCount" "I", Cond.methodLink RX10 162 yX10_addTiding, Cond.instanceMethod yX10_addTiding]
def wsX10_died_r2 : List Cond := [Cond.selects RX10 yX10_addTiding yX10_addTiding, Cond.code yX10_addTiding cX10_addTiding 6 (some .int), Cond.classLink RX10 142 RX3, Cond.instantiable RX3 6, Cond.initialized RX3, Cond.fieldLink RX10 368 "ShipOffice$Agreement" "tidings" "LShipOffice$Happening;", Cond.methodLink RX10 148 yX3_init, Cond.instanceMethod yX3_init, Cond.code yX3_init cX3_init 7 none, Cond.methodLink RX3 1 objectInit, Cond.instanceMethod objectInit, Cond.code objectInit ⟨#[0xb1]⟩ 1 none, Cond.fieldLink RX3 7 "ShipOffice$Happening" "kind" "I", Cond.fieldLink RX3 13 "ShipOffice$Happening" "day" "I", Cond.fieldLink RX3 16 "ShipOffice$Happening" "told" "I", Cond.fieldLink RX3 19 "ShipOffice$Happening" "way" "I", Cond.fieldLink RX3 22 "ShipOffice$Happening" "port" "I", Cond.fieldLink RX3 25 "ShipOffice$Happening" "before" "LShipOffice$Happening;"]
def wsX10_died : List Cond := .code yX10_died cX10_died 5 (some .int) :: ((wsX10_died_r1 ++ wsX10_died_r2) ++ wsX10 ++ wsX100 ++ wsX30)
def wsX10_back_r1 : List Cond := [Cond.methodLink RX10 154 yX10_agreementAt, Cond.instanceMethod yX10_agreementAt, Cond.selects RX10 yX10_agreementAt yX10_agreementAt, Cond.initialized RX10, Cond.code yX10_agreementAt cX10_agreementAt 2 (some (.object "ShipOffice$Agreement")), Cond.fieldLink RX10 115 "ShipOffice" "agreementCount" "I", Cond.fieldLink RX10 23 "ShipOffice" "agreements" "[LShipOffice$Agreement;", Cond.methodLink RX10 69 yX10_refuse, Cond.instanceMethod yX10_refuse, Cond.selects RX10 yX10_refuse yX10_refuse, Cond.code yX10_refuse cX10_refuse 2 (some .int), Cond.fieldLink RX10 66 "ShipOffice" "refusals" "[I", Cond.methodLink RX10 158 yX10_tidingRefusal, Cond.instanceMethod yX10_tidingRefusal, Cond.selects RX10 yX10_tidingRefusal yX10_tidingRefusal, Cond.code yX10_tidingRefusal cX10_tidingRefusal 3 (some .int), Cond.fieldLink RX10 126 "ShipOffice$Agreement" "offDay" "I", Cond.constant RX10 114 (1000000), Cond.fieldLink RX10 255 "ShipOffice$Agreement" "signedOn" "I", Cond.fieldLink RX10 73 "ShipOffice" "now" "I", Cond.fieldLink RX10 139 "ShipOffice" "happeningCount" "I", Cond.methodLink RX10 162 yX10_addTiding, Cond.instanceMethod yX10_addTiding, Cond.selects RX10 yX10_addTiding yX10_addTiding]
def wsX10_back_r2 : List Cond := [Cond.code yX10_addTiding cX10_addTiding 6 (some .int), Cond.classLink RX10 142 RX3, Cond.instantiable RX3 6, Cond.initialized RX3, Cond.fieldLink RX10 368 "ShipOffice$Agreement" "tidings" "LShipOffice$Happening;", Cond.methodLink RX10 148 yX3_init, Cond.instanceMethod yX3_init, Cond.code yX3_init cX3_init 7 none, Cond.methodLink RX3 1 objectInit, Cond.instanceMethod objectInit, Cond.code objectInit ⟨#[0xb1]⟩ 1 none, Cond.fieldLink RX3 7 "ShipOffice$Happening" "kind" "I", Cond.fieldLink RX3 13 "ShipOffice$Happening" "day" "I", Cond.fieldLink RX3 16 "ShipOffice$Happening" "told" "I", Cond.fieldLink RX3 19 "ShipOffice$Happening" "way" "I", Cond.fieldLink RX3 22 "ShipOffice$Happening" "port" "I", Cond.fieldLink RX3 25 "ShipOffice$Happening" "before" "LShipOffice$Happening;"]
def wsX10_back : List Cond := .code yX10_back cX10_back 5 (some .int) :: ((wsX10_back_r1 ++ wsX10_back_r2) ++ wsX100 ++ wsX10 ++ wsX30)
def wsX10_manAt : List Cond := .code yX10_manAt cX10_manAt 2 (some (.object "ShipOffice$Man")) :: ([.fieldLink RX10 86 "ShipOffice" "manCount" "I", .fieldLink RX10 11 "ShipOffice" "men" "[LShipOffice$Man;"] ++ wsX100)
def wsX10_sign_r1 : List Cond := [Cond.fieldLink RX10 115 "ShipOffice" "agreementCount" "I", Cond.fieldLink RX10 126 "ShipOffice$Agreement" "offDay" "I", Cond.constant RX10 114 (1000000), Cond.classLink RX10 21 RX1, Cond.instantiable RX1 18, Cond.initialized RX1, Cond.fieldLink RX10 73 "ShipOffice" "now" "I", Cond.fieldLink RX10 223 "ShipOffice$Agreement" "wage" "I", Cond.fieldLink RX10 226 "ShipOffice$Agreement" "rank" "I", Cond.fieldLink RX10 23 "ShipOffice" "agreements" "[LShipOffice$Agreement;", Cond.methodLink RX10 205 yX10_manAt, Cond.instanceMethod yX10_manAt, Cond.selects RX10 yX10_manAt yX10_manAt, Cond.initialized RX10, Cond.code yX10_manAt cX10_manAt 2 (some (.object "ShipOffice$Man")), Cond.fieldLink RX10 86 "ShipOffice" "manCount" "I", Cond.fieldLink RX10 11 "ShipOffice" "men" "[LShipOffice$Man;", Cond.methodLink RX10 103 yX10_voyageAt, Cond.instanceMethod yX10_voyageAt, Cond.selects RX10 yX10_voyageAt yX10_voyageAt, Cond.code yX10_voyageAt cX10_voyageAt 2 (some (.object "ShipOffice$Voyage")), Cond.fieldLink RX10 99 "ShipOffice" "voyageCount" "I", Cond.fieldLink RX10 17 "ShipOffice" "voyages" "[LShipOffice$Voyage;", Cond.methodLink RX10 154 yX10_agreementAt]
def wsX10_sign_r2 : List Cond := [Cond.instanceMethod yX10_agreementAt, Cond.selects RX10 yX10_agreementAt yX10_agreementAt, Cond.code yX10_agreementAt cX10_agreementAt 2 (some (.object "ShipOffice$Agreement")), Cond.methodLink RX10 69 yX10_refuse, Cond.instanceMethod yX10_refuse, Cond.selects RX10 yX10_refuse yX10_refuse, Cond.code yX10_refuse cX10_refuse 2 (some .int), Cond.fieldLink RX10 66 "ShipOffice" "refusals" "[I", Cond.methodLink RX10 209 yX9_takesHands, Cond.instanceMethod yX9_takesHands, Cond.selects RX9 yX9_takesHands yX9_takesHands, Cond.initialized RX9, Cond.code yX9_takesHands cX9_takesHands 1 (some .boolean), Cond.fieldLink RX9 37 "ShipOffice$Voyage" "isOver" "Z", Cond.fieldLink RX9 16 "ShipOffice$Voyage" "sailedTold" "I", Cond.constant RX9 9 (1000000), Cond.fieldLink RX9 22 "ShipOffice$Voyage" "lostTold" "I", Cond.methodLink RX10 212 yX10_isFree, Cond.instanceMethod yX10_isFree, Cond.selects RX10 yX10_isFree yX10_isFree, Cond.code yX10_isFree cX10_isFree 3 (some .boolean), Cond.fieldLink RX10 299 "ShipOffice$Agreement" "man" "LShipOffice$Man;", Cond.methodLink RX10 122 yX1_goesOn, Cond.instanceMethod yX1_goesOn]
def wsX10_sign_r3 : List Cond := [Cond.selects RX1 yX1_goesOn yX1_goesOn, Cond.code yX1_goesOn cX1_goesOn 1 (some .boolean), Cond.fieldLink RX1 10 "ShipOffice$Agreement" "offDay" "I", Cond.constant RX1 9 (1000000), Cond.fieldLink RX1 44 "ShipOffice$Agreement" "isDead" "Z", Cond.fieldLink RX1 33 "ShipOffice$Agreement" "voyage" "LShipOffice$Voyage;", Cond.fieldLink RX1 48 "ShipOffice$Voyage" "lostTold" "I", Cond.methodLink RX10 216 yX10_signWorth, Cond.instanceMethod yX10_signWorth, Cond.selects RX10 yX10_signWorth yX10_signWorth, Cond.code yX10_signWorth cX10_signWorth 4 (some .int), Cond.fieldLink RX10 59 "ShipOffice" "letters" "[I", Cond.fieldLink RX10 30 "ShipOffice" "law" "LShipOffice$Law;", Cond.methodLink RX10 393 yJ7_fill_53178, Cond.static yJ7_fill_53178, Cond.initialized RJ7, Cond.code yJ7_fill_53178 cJ7_fill_53178 4 none, Cond.methodLink RX10 397 yX6_yearsOn, Cond.instanceMethod yX6_yearsOn, Cond.selects RX6 yX6_yearsOn yX6_yearsOn, Cond.initialized RX6, Cond.code yX6_yearsOn cX6_yearsOn 2 (some .int), Cond.fieldLink RX6 25 "ShipOffice$Man" "born" "I", Cond.methodLink RX10 400 yX5_inForce]
def wsX10_sign_r4 : List Cond := [Cond.instanceMethod yX5_inForce, Cond.selects RX5 yX5_inForce yX5_inForce, Cond.initialized RX5, Cond.code yX5_inForce cX5_inForce 6 (some (.object "ShipOffice$Act")), Cond.fieldLink RX5 17 "ShipOffice$Law" "customs" "[LShipOffice$Act;", Cond.fieldLink RX5 23 "ShipOffice$Law" "actCount" "I", Cond.fieldLink RX5 11 "ShipOffice$Law" "acts" "[LShipOffice$Act;", Cond.fieldLink RX5 27 "ShipOffice$Act" "purpose" "I", Cond.fieldLink RX5 30 "ShipOffice$Act" "day" "I", Cond.methodLink RX10 404 yX0_worth, Cond.instanceMethod yX0_worth, Cond.selects RX0 yX0_worth yX0_worth, Cond.initialized RX0, Cond.code yX0_worth cX0_worth 8 (some .int), Cond.fieldLink RX0 16 "ShipOffice$Act" "code" "[I", Cond.fieldLink RX0 20 "ShipOffice$Act" "stack" "[I", Cond.methodLink RX0 36 yX0_joined, Cond.static yX0_joined, Cond.code yX0_joined cX0_joined 5 (some .int), Cond.methodLink RX0 40 yX0_held, Cond.static yX0_held, Cond.code yX0_held cX0_held 2 (some .int), Cond.constantLong RX0 44 (1000000000), Cond.constant RX0 46 (1000000000)]
def wsX10_sign_r5 : List Cond := [Cond.constantLong RX0 47 (-1000000000), Cond.constant RX0 49 (-1000000000), Cond.methodLink RX10 220 yX1_init, Cond.instanceMethod yX1_init, Cond.code yX1_init cX1_init 5 none, Cond.methodLink RX1 3 objectInit, Cond.instanceMethod objectInit, Cond.code objectInit ⟨#[0xb1]⟩ 1 none, Cond.classLink RX1 16 RX2, Cond.fieldLink RX1 18 "ShipOffice$Agreement" "fines" "[LShipOffice$Fine;", Cond.arrayClass .int, Cond.fieldLink RX1 22 "ShipOffice$Agreement" "shortTold" "[I", Cond.fieldLink RX1 26 "ShipOffice$Agreement" "shortSum" "[I", Cond.fieldLink RX1 29 "ShipOffice$Agreement" "man" "LShipOffice$Man;", Cond.fieldLink RX1 37 "ShipOffice$Agreement" "signedOn" "I", Cond.fieldLink RX1 40 "ShipOffice$Agreement" "paper" "LShipOffice$Agreement;"]
def wsX10_sign : List Cond := .code yX10_sign cX10_sign 11 (some .int) :: ((wsX10_sign_r1 ++ (wsX10_sign_r2 ++ (wsX10_sign_r3 ++ (wsX10_sign_r4 ++ wsX10_sign_r5)))) ++ wsX100 ++ wsX10 ++ wsX90 ++ wsX60 ++ wsX50 ++ wsX00)
def wsX10_off_r1 : List Cond := [Cond.fieldLink RX10 73 "ShipOffice" "now" "I", Cond.fieldLink RX10 126 "ShipOffice$Agreement" "offDay" "I", Cond.methodLink RX10 154 yX10_agreementAt, Cond.instanceMethod yX10_agreementAt, Cond.selects RX10 yX10_agreementAt yX10_agreementAt, Cond.initialized RX10, Cond.code yX10_agreementAt cX10_agreementAt 2 (some (.object "ShipOffice$Agreement")), Cond.fieldLink RX10 115 "ShipOffice" "agreementCount" "I", Cond.fieldLink RX10 23 "ShipOffice" "agreements" "[LShipOffice$Agreement;", Cond.methodLink RX10 77 yX10_isPort, Cond.static yX10_isPort, Cond.code yX10_isPort cX10_isPort 1 (some .boolean), Cond.methodLink RX10 69 yX10_refuse, Cond.instanceMethod yX10_refuse, Cond.selects RX10 yX10_refuse yX10_refuse, Cond.code yX10_refuse cX10_refuse 2 (some .int), Cond.fieldLink RX10 66 "ShipOffice" "refusals" "[I", Cond.methodLink RX10 122 yX1_goesOn, Cond.instanceMethod yX1_goesOn, Cond.selects RX1 yX1_goesOn yX1_goesOn, Cond.initialized RX1, Cond.code yX1_goesOn cX1_goesOn 1 (some .boolean), Cond.fieldLink RX1 10 "ShipOffice$Agreement" "offDay" "I", Cond.constant RX1 9 (1000000)]
def wsX10_off_r2 : List Cond := [Cond.fieldLink RX1 44 "ShipOffice$Agreement" "isDead" "Z", Cond.fieldLink RX1 33 "ShipOffice$Agreement" "voyage" "LShipOffice$Voyage;", Cond.fieldLink RX1 48 "ShipOffice$Voyage" "lostTold" "I"]
def wsX10_off : List Cond := .code yX10_off cX10_off 4 (some .int) :: ((wsX10_off_r1 ++ wsX10_off_r2) ++ wsX100 ++ wsX10 ++ wsX90)
def wsX10_state_r1 : List Cond := [Cond.fieldLink RX10 30 "ShipOffice" "law" "LShipOffice$Law;", Cond.methodLink RX10 154 yX10_agreementAt, Cond.instanceMethod yX10_agreementAt, Cond.selects RX10 yX10_agreementAt yX10_agreementAt, Cond.initialized RX10, Cond.code yX10_agreementAt cX10_agreementAt 2 (some (.object "ShipOffice$Agreement")), Cond.fieldLink RX10 115 "ShipOffice" "agreementCount" "I", Cond.fieldLink RX10 23 "ShipOffice" "agreements" "[LShipOffice$Agreement;", Cond.methodLink RX10 69 yX10_refuse, Cond.instanceMethod yX10_refuse, Cond.selects RX10 yX10_refuse yX10_refuse, Cond.code yX10_refuse cX10_refuse 2 (some .int), Cond.fieldLink RX10 66 "ShipOffice" "refusals" "[I", Cond.methodLink RX10 229 yX10_askRefusal, Cond.instanceMethod yX10_askRefusal, Cond.selects RX10 yX10_askRefusal yX10_askRefusal, Cond.code yX10_askRefusal cX10_askRefusal 3 (some .int), Cond.fieldLink RX10 73 "ShipOffice" "now" "I", Cond.methodLink RX10 233 yX1_stateOn, Cond.instanceMethod yX1_stateOn, Cond.selects RX1 yX1_stateOn yX1_stateOn, Cond.initialized RX1, Cond.code yX1_stateOn cX1_stateOn 5 (some .int), Cond.fieldLink RX1 37 "ShipOffice$Agreement" "signedOn" "I"]
def wsX10_state_r2 : List Cond := [Cond.fieldLink RX1 33 "ShipOffice$Agreement" "voyage" "LShipOffice$Voyage;", Cond.fieldLink RX1 44 "ShipOffice$Agreement" "isDead" "Z", Cond.fieldLink RX1 10 "ShipOffice$Agreement" "offDay" "I", Cond.fieldLink RX1 64 "ShipOffice$Happening" "kind" "I", Cond.fieldLink RX1 82 "ShipOffice$Act" "plainWorth" "I", Cond.methodLink RX1 53 yX9_lostBy, Cond.instanceMethod yX9_lostBy, Cond.selects RX9 yX9_lostBy yX9_lostBy, Cond.initialized RX9, Cond.code yX9_lostBy cX9_lostBy 3 (some .boolean), Cond.fieldLink RX9 22 "ShipOffice$Voyage" "lostTold" "I", Cond.fieldLink RX9 19 "ShipOffice$Voyage" "lostDay" "I", Cond.methodLink RX1 57 yX1_diedBy, Cond.instanceMethod yX1_diedBy, Cond.selects RX1 yX1_diedBy yX1_diedBy, Cond.code yX1_diedBy cX1_diedBy 4 (some .boolean), Cond.fieldLink RX1 87 "ShipOffice$Agreement" "tidings" "LShipOffice$Happening;", Cond.fieldLink RX1 91 "ShipOffice$Happening" "told" "I", Cond.fieldLink RX1 94 "ShipOffice$Happening" "day" "I", Cond.fieldLink RX1 97 "ShipOffice$Happening" "before" "LShipOffice$Happening;", Cond.methodLink RX1 60 yX1_lastMove, Cond.instanceMethod yX1_lastMove, Cond.selects RX1 yX1_lastMove yX1_lastMove, Cond.code yX1_lastMove cX1_lastMove 6 (some (.object "ShipOffice$Happening"))]
def wsX10_state_r3 : List Cond := [Cond.methodLink RX1 69 yX9_sailedBy, Cond.instanceMethod yX9_sailedBy, Cond.selects RX9 yX9_sailedBy yX9_sailedBy, Cond.code yX9_sailedBy cX9_sailedBy 3 (some .boolean), Cond.fieldLink RX9 16 "ShipOffice$Voyage" "sailedTold" "I", Cond.fieldLink RX9 10 "ShipOffice$Voyage" "sailedDay" "I", Cond.methodLink RX1 72 yX9_lastHeard, Cond.instanceMethod yX9_lastHeard, Cond.selects RX9 yX9_lastHeard yX9_lastHeard, Cond.code yX9_lastHeard cX9_lastHeard 5 (some .int), Cond.fieldLink RX9 41 "ShipOffice$Voyage" "heardOf" "LShipOffice$Happening;", Cond.fieldLink RX9 45 "ShipOffice$Happening" "told" "I", Cond.fieldLink RX9 50 "ShipOffice$Happening" "day" "I", Cond.fieldLink RX9 53 "ShipOffice$Happening" "before" "LShipOffice$Happening;", Cond.methodLink RX1 76 yX5_inForce, Cond.instanceMethod yX5_inForce, Cond.selects RX5 yX5_inForce yX5_inForce, Cond.initialized RX5, Cond.code yX5_inForce cX5_inForce 6 (some (.object "ShipOffice$Act")), Cond.fieldLink RX5 17 "ShipOffice$Law" "customs" "[LShipOffice$Act;", Cond.fieldLink RX5 23 "ShipOffice$Law" "actCount" "I", Cond.fieldLink RX5 11 "ShipOffice$Law" "acts" "[LShipOffice$Act;", Cond.fieldLink RX5 27 "ShipOffice$Act" "purpose" "I", Cond.fieldLink RX5 30 "ShipOffice$Act" "day" "I"]
def wsX10_state : List Cond := .code yX10_state cX10_state 6 (some .int) :: ((wsX10_state_r1 ++ (wsX10_state_r2 ++ wsX10_state_r3)) ++ wsX100 ++ wsX10 ++ wsX30 ++ wsX00 ++ wsX90 ++ wsX50)
def wsX10_earns_r1 : List Cond := [Cond.fieldLink RX10 30 "ShipOffice" "law" "LShipOffice$Law;", Cond.methodLink RX10 154 yX10_agreementAt, Cond.instanceMethod yX10_agreementAt, Cond.selects RX10 yX10_agreementAt yX10_agreementAt, Cond.initialized RX10, Cond.code yX10_agreementAt cX10_agreementAt 2 (some (.object "ShipOffice$Agreement")), Cond.fieldLink RX10 115 "ShipOffice" "agreementCount" "I", Cond.fieldLink RX10 23 "ShipOffice" "agreements" "[LShipOffice$Agreement;", Cond.methodLink RX10 69 yX10_refuse, Cond.instanceMethod yX10_refuse, Cond.selects RX10 yX10_refuse yX10_refuse, Cond.code yX10_refuse cX10_refuse 2 (some .int), Cond.fieldLink RX10 66 "ShipOffice" "refusals" "[I", Cond.methodLink RX10 229 yX10_askRefusal, Cond.instanceMethod yX10_askRefusal, Cond.selects RX10 yX10_askRefusal yX10_askRefusal, Cond.code yX10_askRefusal cX10_askRefusal 3 (some .int), Cond.fieldLink RX10 73 "ShipOffice" "now" "I", Cond.methodLink RX10 237 yX1_earningDays, Cond.instanceMethod yX1_earningDays, Cond.selects RX1 yX1_earningDays yX1_earningDays, Cond.initialized RX1, Cond.code yX1_earningDays cX1_earningDays 5 (some .int), Cond.fieldLink RX1 33 "ShipOffice$Agreement" "voyage" "LShipOffice$Voyage;"]
def wsX10_earns_r2 : List Cond := [Cond.methodLink RX1 100 yX1_stateOn, Cond.instanceMethod yX1_stateOn, Cond.selects RX1 yX1_stateOn yX1_stateOn, Cond.code yX1_stateOn cX1_stateOn 5 (some .int), Cond.fieldLink RX1 37 "ShipOffice$Agreement" "signedOn" "I", Cond.fieldLink RX1 44 "ShipOffice$Agreement" "isDead" "Z", Cond.fieldLink RX1 10 "ShipOffice$Agreement" "offDay" "I", Cond.fieldLink RX1 64 "ShipOffice$Happening" "kind" "I", Cond.fieldLink RX1 82 "ShipOffice$Act" "plainWorth" "I", Cond.methodLink RX1 53 yX9_lostBy, Cond.instanceMethod yX9_lostBy, Cond.selects RX9 yX9_lostBy yX9_lostBy, Cond.initialized RX9, Cond.code yX9_lostBy cX9_lostBy 3 (some .boolean), Cond.fieldLink RX9 22 "ShipOffice$Voyage" "lostTold" "I", Cond.fieldLink RX9 19 "ShipOffice$Voyage" "lostDay" "I", Cond.methodLink RX1 57 yX1_diedBy, Cond.instanceMethod yX1_diedBy, Cond.selects RX1 yX1_diedBy yX1_diedBy, Cond.code yX1_diedBy cX1_diedBy 4 (some .boolean), Cond.fieldLink RX1 87 "ShipOffice$Agreement" "tidings" "LShipOffice$Happening;", Cond.fieldLink RX1 91 "ShipOffice$Happening" "told" "I", Cond.fieldLink RX1 94 "ShipOffice$Happening" "day" "I", Cond.fieldLink RX1 97 "ShipOffice$Happening" "before" "LShipOffice$Happening;"]
def wsX10_earns_r3 : List Cond := [Cond.methodLink RX1 60 yX1_lastMove, Cond.instanceMethod yX1_lastMove, Cond.selects RX1 yX1_lastMove yX1_lastMove, Cond.code yX1_lastMove cX1_lastMove 6 (some (.object "ShipOffice$Happening")), Cond.methodLink RX1 69 yX9_sailedBy, Cond.instanceMethod yX9_sailedBy, Cond.selects RX9 yX9_sailedBy yX9_sailedBy, Cond.code yX9_sailedBy cX9_sailedBy 3 (some .boolean), Cond.fieldLink RX9 16 "ShipOffice$Voyage" "sailedTold" "I", Cond.fieldLink RX9 10 "ShipOffice$Voyage" "sailedDay" "I", Cond.methodLink RX1 72 yX9_lastHeard, Cond.instanceMethod yX9_lastHeard, Cond.selects RX9 yX9_lastHeard yX9_lastHeard, Cond.code yX9_lastHeard cX9_lastHeard 5 (some .int), Cond.fieldLink RX9 41 "ShipOffice$Voyage" "heardOf" "LShipOffice$Happening;", Cond.fieldLink RX9 45 "ShipOffice$Happening" "told" "I", Cond.fieldLink RX9 50 "ShipOffice$Happening" "day" "I", Cond.fieldLink RX9 53 "ShipOffice$Happening" "before" "LShipOffice$Happening;", Cond.methodLink RX1 76 yX5_inForce, Cond.instanceMethod yX5_inForce, Cond.selects RX5 yX5_inForce yX5_inForce, Cond.initialized RX5, Cond.code yX5_inForce cX5_inForce 6 (some (.object "ShipOffice$Act")), Cond.fieldLink RX5 17 "ShipOffice$Law" "customs" "[LShipOffice$Act;"]
def wsX10_earns_r4 : List Cond := [Cond.fieldLink RX5 23 "ShipOffice$Law" "actCount" "I", Cond.fieldLink RX5 11 "ShipOffice$Law" "acts" "[LShipOffice$Act;", Cond.fieldLink RX5 27 "ShipOffice$Act" "purpose" "I", Cond.fieldLink RX5 30 "ShipOffice$Act" "day" "I", Cond.methodLink RX1 104 yX1_daysIn, Cond.instanceMethod yX1_daysIn, Cond.selects RX1 yX1_daysIn yX1_daysIn, Cond.code yX1_daysIn cX1_daysIn 10 (some .int), Cond.methodLink RX1 111 Lib.Math.min.name, Cond.static Lib.Math.min.name, Cond.initialized "java/lang/Math", Cond.code Lib.Math.min.name Lib.Math.min.code 2 (some .int), Cond.methodLink RX1 108 yX1_nextChange, Cond.instanceMethod yX1_nextChange, Cond.selects RX1 yX1_nextChange yX1_nextChange, Cond.code yX1_nextChange cX1_nextChange 6 (some .int), Cond.constant RX1 9 (1000000), Cond.methodLink RX1 116 yX1_nearer, Cond.static yX1_nearer, Cond.code yX1_nearer cX1_nearer 3 (some .int), Cond.methodLink RX1 120 yX9_nextTold, Cond.instanceMethod yX9_nextTold, Cond.selects RX9 yX9_nextTold yX9_nextTold, Cond.code yX9_nextTold cX9_nextTold 5 (some .int)]
def wsX10_earns_r5 : List Cond := [Cond.constant RX9 9 (1000000), Cond.methodLink RX1 123 yX5_nextPresume, Cond.instanceMethod yX5_nextPresume, Cond.selects RX5 yX5_nextPresume yX5_nextPresume, Cond.code yX5_nextPresume cX5_nextPresume 4 (some .int), Cond.constant RX5 33 (1000000)]
def wsX10_earns : List Cond := .code yX10_earns cX10_earns 6 (some .int) :: ((wsX10_earns_r1 ++ (wsX10_earns_r2 ++ (wsX10_earns_r3 ++ (wsX10_earns_r4 ++ wsX10_earns_r5)))) ++ wsX100 ++ wsX10 ++ wsX30 ++ wsX00 ++ wsX90 ++ wsX50)
def wsX10_advance_r1 : List Cond := [Cond.fieldLink RX10 240 "ShipOffice$Agreement" "note" "I", Cond.fieldLink RX10 73 "ShipOffice" "now" "I", Cond.fieldLink RX10 30 "ShipOffice" "law" "LShipOffice$Law;", Cond.constant RX10 85 (99999), Cond.methodLink RX10 154 yX10_agreementAt, Cond.instanceMethod yX10_agreementAt, Cond.selects RX10 yX10_agreementAt yX10_agreementAt, Cond.initialized RX10, Cond.code yX10_agreementAt cX10_agreementAt 2 (some (.object "ShipOffice$Agreement")), Cond.fieldLink RX10 115 "ShipOffice" "agreementCount" "I", Cond.fieldLink RX10 23 "ShipOffice" "agreements" "[LShipOffice$Agreement;", Cond.methodLink RX10 69 yX10_refuse, Cond.instanceMethod yX10_refuse, Cond.selects RX10 yX10_refuse yX10_refuse, Cond.code yX10_refuse cX10_refuse 2 (some .int), Cond.fieldLink RX10 66 "ShipOffice" "refusals" "[I", Cond.methodLink RX10 233 yX1_stateOn, Cond.instanceMethod yX1_stateOn, Cond.selects RX1 yX1_stateOn yX1_stateOn, Cond.initialized RX1, Cond.code yX1_stateOn cX1_stateOn 5 (some .int), Cond.fieldLink RX1 37 "ShipOffice$Agreement" "signedOn" "I", Cond.fieldLink RX1 33 "ShipOffice$Agreement" "voyage" "LShipOffice$Voyage;", Cond.fieldLink RX1 44 "ShipOffice$Agreement" "isDead" "Z"]
def wsX10_advance_r2 : List Cond := [Cond.fieldLink RX1 10 "ShipOffice$Agreement" "offDay" "I", Cond.fieldLink RX1 64 "ShipOffice$Happening" "kind" "I", Cond.fieldLink RX1 82 "ShipOffice$Act" "plainWorth" "I", Cond.methodLink RX1 53 yX9_lostBy, Cond.instanceMethod yX9_lostBy, Cond.selects RX9 yX9_lostBy yX9_lostBy, Cond.initialized RX9, Cond.code yX9_lostBy cX9_lostBy 3 (some .boolean), Cond.fieldLink RX9 22 "ShipOffice$Voyage" "lostTold" "I", Cond.fieldLink RX9 19 "ShipOffice$Voyage" "lostDay" "I", Cond.methodLink RX1 57 yX1_diedBy, Cond.instanceMethod yX1_diedBy, Cond.selects RX1 yX1_diedBy yX1_diedBy, Cond.code yX1_diedBy cX1_diedBy 4 (some .boolean), Cond.fieldLink RX1 87 "ShipOffice$Agreement" "tidings" "LShipOffice$Happening;", Cond.fieldLink RX1 91 "ShipOffice$Happening" "told" "I", Cond.fieldLink RX1 94 "ShipOffice$Happening" "day" "I", Cond.fieldLink RX1 97 "ShipOffice$Happening" "before" "LShipOffice$Happening;", Cond.methodLink RX1 60 yX1_lastMove, Cond.instanceMethod yX1_lastMove, Cond.selects RX1 yX1_lastMove yX1_lastMove, Cond.code yX1_lastMove cX1_lastMove 6 (some (.object "ShipOffice$Happening")), Cond.methodLink RX1 69 yX9_sailedBy, Cond.instanceMethod yX9_sailedBy]
def wsX10_advance_r3 : List Cond := [Cond.selects RX9 yX9_sailedBy yX9_sailedBy, Cond.code yX9_sailedBy cX9_sailedBy 3 (some .boolean), Cond.fieldLink RX9 16 "ShipOffice$Voyage" "sailedTold" "I", Cond.fieldLink RX9 10 "ShipOffice$Voyage" "sailedDay" "I", Cond.methodLink RX1 72 yX9_lastHeard, Cond.instanceMethod yX9_lastHeard, Cond.selects RX9 yX9_lastHeard yX9_lastHeard, Cond.code yX9_lastHeard cX9_lastHeard 5 (some .int), Cond.fieldLink RX9 41 "ShipOffice$Voyage" "heardOf" "LShipOffice$Happening;", Cond.fieldLink RX9 45 "ShipOffice$Happening" "told" "I", Cond.fieldLink RX9 50 "ShipOffice$Happening" "day" "I", Cond.fieldLink RX9 53 "ShipOffice$Happening" "before" "LShipOffice$Happening;", Cond.methodLink RX1 76 yX5_inForce, Cond.instanceMethod yX5_inForce, Cond.selects RX5 yX5_inForce yX5_inForce, Cond.initialized RX5, Cond.code yX5_inForce cX5_inForce 6 (some (.object "ShipOffice$Act")), Cond.fieldLink RX5 17 "ShipOffice$Law" "customs" "[LShipOffice$Act;", Cond.fieldLink RX5 23 "ShipOffice$Law" "actCount" "I", Cond.fieldLink RX5 11 "ShipOffice$Law" "acts" "[LShipOffice$Act;", Cond.fieldLink RX5 27 "ShipOffice$Act" "purpose" "I", Cond.fieldLink RX5 30 "ShipOffice$Act" "day" "I"]
def wsX10_advance : List Cond := .code yX10_advance cX10_advance 4 (some .int) :: ((wsX10_advance_r1 ++ (wsX10_advance_r2 ++ wsX10_advance_r3)) ++ wsX10 ++ wsX100 ++ wsX30 ++ wsX00 ++ wsX90 ++ wsX50)
def wsX10_sold : List Cond := .code yX10_sold cX10_sold 4 (some .int) :: ([.fieldLink RX10 240 "ShipOffice$Agreement" "note" "I", .fieldLink RX10 243 "ShipOffice$Agreement" "given" "I", .methodLink RX10 154 yX10_agreementAt, .instanceMethod yX10_agreementAt, .selects RX10 yX10_agreementAt yX10_agreementAt, .initialized RX10, .code yX10_agreementAt cX10_agreementAt 2 (some (.object "ShipOffice$Agreement")), .fieldLink RX10 115 "ShipOffice" "agreementCount" "I", .fieldLink RX10 23 "ShipOffice" "agreements" "[LShipOffice$Agreement;", .methodLink RX10 69 yX10_refuse, .instanceMethod yX10_refuse, .selects RX10 yX10_refuse yX10_refuse, .code yX10_refuse cX10_refuse 2 (some .int), .fieldLink RX10 66 "ShipOffice" "refusals" "[I"] ++ wsX10 ++ wsX100)
def wsX10_allot_r1 : List Cond := [Cond.fieldLink RX10 246 "ShipOffice$Agreement" "allotment" "I", Cond.fieldLink RX10 73 "ShipOffice" "now" "I", Cond.fieldLink RX10 223 "ShipOffice$Agreement" "wage" "I", Cond.constantLong RX10 253 (100), Cond.methodLink RX10 154 yX10_agreementAt, Cond.instanceMethod yX10_agreementAt, Cond.selects RX10 yX10_agreementAt yX10_agreementAt, Cond.initialized RX10, Cond.code yX10_agreementAt cX10_agreementAt 2 (some (.object "ShipOffice$Agreement")), Cond.fieldLink RX10 115 "ShipOffice" "agreementCount" "I", Cond.fieldLink RX10 23 "ShipOffice" "agreements" "[LShipOffice$Agreement;", Cond.methodLink RX10 69 yX10_refuse, Cond.instanceMethod yX10_refuse, Cond.selects RX10 yX10_refuse yX10_refuse, Cond.code yX10_refuse cX10_refuse 2 (some .int), Cond.fieldLink RX10 66 "ShipOffice" "refusals" "[I", Cond.methodLink RX10 122 yX1_goesOn, Cond.instanceMethod yX1_goesOn, Cond.selects RX1 yX1_goesOn yX1_goesOn, Cond.initialized RX1, Cond.code yX1_goesOn cX1_goesOn 1 (some .boolean), Cond.fieldLink RX1 10 "ShipOffice$Agreement" "offDay" "I", Cond.constant RX1 9 (1000000), Cond.fieldLink RX1 44 "ShipOffice$Agreement" "isDead" "Z"]
def wsX10_allot_r2 : List Cond := [Cond.fieldLink RX1 33 "ShipOffice$Agreement" "voyage" "LShipOffice$Voyage;", Cond.fieldLink RX1 48 "ShipOffice$Voyage" "lostTold" "I", Cond.methodLink RX10 249 yX10_worthFor, Cond.instanceMethod yX10_worthFor, Cond.selects RX10 yX10_worthFor yX10_worthFor, Cond.code yX10_worthFor cX10_worthFor 8 (some .int), Cond.fieldLink RX10 30 "ShipOffice" "law" "LShipOffice$Law;", Cond.fieldLink RX10 59 "ShipOffice" "letters" "[I", Cond.fieldLink RX10 226 "ShipOffice$Agreement" "rank" "I", Cond.fieldLink RX10 299 "ShipOffice$Agreement" "man" "LShipOffice$Man;", Cond.fieldLink RX10 118 "ShipOffice$Agreement" "voyage" "LShipOffice$Voyage;", Cond.methodLink RX10 400 yX5_inForce, Cond.instanceMethod yX5_inForce, Cond.selects RX5 yX5_inForce yX5_inForce, Cond.initialized RX5, Cond.code yX5_inForce cX5_inForce 6 (some (.object "ShipOffice$Act")), Cond.fieldLink RX5 17 "ShipOffice$Law" "customs" "[LShipOffice$Act;", Cond.fieldLink RX5 23 "ShipOffice$Law" "actCount" "I", Cond.fieldLink RX5 11 "ShipOffice$Law" "acts" "[LShipOffice$Act;", Cond.fieldLink RX5 27 "ShipOffice$Act" "purpose" "I", Cond.fieldLink RX5 30 "ShipOffice$Act" "day" "I", Cond.methodLink RX10 397 yX6_yearsOn, Cond.instanceMethod yX6_yearsOn, Cond.selects RX6 yX6_yearsOn yX6_yearsOn]
def wsX10_allot_r3 : List Cond := [Cond.initialized RX6, Cond.code yX6_yearsOn cX6_yearsOn 2 (some .int), Cond.fieldLink RX6 25 "ShipOffice$Man" "born" "I", Cond.methodLink RX10 408 yX0_uses, Cond.instanceMethod yX0_uses, Cond.selects RX0 yX0_uses yX0_uses, Cond.initialized RX0, Cond.code yX0_uses cX0_uses 6 (some .boolean), Cond.fieldLink RX0 16 "ShipOffice$Act" "code" "[I", Cond.methodLink RX10 411 yX1_daysIn, Cond.instanceMethod yX1_daysIn, Cond.selects RX1 yX1_daysIn yX1_daysIn, Cond.code yX1_daysIn cX1_daysIn 10 (some .int), Cond.fieldLink RX1 37 "ShipOffice$Agreement" "signedOn" "I", Cond.methodLink RX1 111 Lib.Math.min.name, Cond.static Lib.Math.min.name, Cond.initialized "java/lang/Math", Cond.code Lib.Math.min.name Lib.Math.min.code 2 (some .int), Cond.methodLink RX1 100 yX1_stateOn, Cond.instanceMethod yX1_stateOn, Cond.selects RX1 yX1_stateOn yX1_stateOn, Cond.code yX1_stateOn cX1_stateOn 5 (some .int), Cond.fieldLink RX1 64 "ShipOffice$Happening" "kind" "I", Cond.fieldLink RX1 82 "ShipOffice$Act" "plainWorth" "I"]
def wsX10_allot_r4 : List Cond := [Cond.methodLink RX1 53 yX9_lostBy, Cond.instanceMethod yX9_lostBy, Cond.selects RX9 yX9_lostBy yX9_lostBy, Cond.initialized RX9, Cond.code yX9_lostBy cX9_lostBy 3 (some .boolean), Cond.fieldLink RX9 22 "ShipOffice$Voyage" "lostTold" "I", Cond.fieldLink RX9 19 "ShipOffice$Voyage" "lostDay" "I", Cond.methodLink RX1 57 yX1_diedBy, Cond.instanceMethod yX1_diedBy, Cond.selects RX1 yX1_diedBy yX1_diedBy, Cond.code yX1_diedBy cX1_diedBy 4 (some .boolean), Cond.fieldLink RX1 87 "ShipOffice$Agreement" "tidings" "LShipOffice$Happening;", Cond.fieldLink RX1 91 "ShipOffice$Happening" "told" "I", Cond.fieldLink RX1 94 "ShipOffice$Happening" "day" "I", Cond.fieldLink RX1 97 "ShipOffice$Happening" "before" "LShipOffice$Happening;", Cond.methodLink RX1 60 yX1_lastMove, Cond.instanceMethod yX1_lastMove, Cond.selects RX1 yX1_lastMove yX1_lastMove, Cond.code yX1_lastMove cX1_lastMove 6 (some (.object "ShipOffice$Happening")), Cond.methodLink RX1 69 yX9_sailedBy, Cond.instanceMethod yX9_sailedBy, Cond.selects RX9 yX9_sailedBy yX9_sailedBy, Cond.code yX9_sailedBy cX9_sailedBy 3 (some .boolean), Cond.fieldLink RX9 16 "ShipOffice$Voyage" "sailedTold" "I"]
def wsX10_allot_r5 : List Cond := [Cond.fieldLink RX9 10 "ShipOffice$Voyage" "sailedDay" "I", Cond.methodLink RX1 72 yX9_lastHeard, Cond.instanceMethod yX9_lastHeard, Cond.selects RX9 yX9_lastHeard yX9_lastHeard, Cond.code yX9_lastHeard cX9_lastHeard 5 (some .int), Cond.fieldLink RX9 41 "ShipOffice$Voyage" "heardOf" "LShipOffice$Happening;", Cond.fieldLink RX9 45 "ShipOffice$Happening" "told" "I", Cond.fieldLink RX9 50 "ShipOffice$Happening" "day" "I", Cond.fieldLink RX9 53 "ShipOffice$Happening" "before" "LShipOffice$Happening;", Cond.methodLink RX1 76 yX5_inForce, Cond.methodLink RX1 108 yX1_nextChange, Cond.instanceMethod yX1_nextChange, Cond.selects RX1 yX1_nextChange yX1_nextChange, Cond.code yX1_nextChange cX1_nextChange 6 (some .int), Cond.methodLink RX1 116 yX1_nearer, Cond.static yX1_nearer, Cond.code yX1_nearer cX1_nearer 3 (some .int), Cond.methodLink RX1 120 yX9_nextTold, Cond.instanceMethod yX9_nextTold, Cond.selects RX9 yX9_nextTold yX9_nextTold, Cond.code yX9_nextTold cX9_nextTold 5 (some .int), Cond.constant RX9 9 (1000000), Cond.methodLink RX1 123 yX5_nextPresume, Cond.instanceMethod yX5_nextPresume]
def wsX10_allot_r6 : List Cond := [Cond.selects RX5 yX5_nextPresume yX5_nextPresume, Cond.code yX5_nextPresume cX5_nextPresume 4 (some .int), Cond.constant RX5 33 (1000000), Cond.methodLink RX10 307 yX10_menAboard, Cond.instanceMethod yX10_menAboard, Cond.selects RX10 yX10_menAboard yX10_menAboard, Cond.code yX10_menAboard cX10_menAboard 6 (some .int), Cond.methodLink RX10 233 yX1_stateOn, Cond.methodLink RX10 415 yX9_daysUnheard, Cond.instanceMethod yX9_daysUnheard, Cond.selects RX9 yX9_daysUnheard yX9_daysUnheard, Cond.code yX9_daysUnheard cX9_daysUnheard 4 (some .int), Cond.methodLink RX9 56 yX9_lastHeard, Cond.methodLink RX10 404 yX0_worth, Cond.instanceMethod yX0_worth, Cond.selects RX0 yX0_worth yX0_worth, Cond.code yX0_worth cX0_worth 8 (some .int), Cond.fieldLink RX0 20 "ShipOffice$Act" "stack" "[I", Cond.methodLink RX0 36 yX0_joined, Cond.static yX0_joined, Cond.code yX0_joined cX0_joined 5 (some .int), Cond.methodLink RX0 40 yX0_held, Cond.static yX0_held, Cond.code yX0_held cX0_held 2 (some .int)]
def wsX10_allot_r7 : List Cond := [Cond.constantLong RX0 44 (1000000000), Cond.constant RX0 46 (1000000000), Cond.constantLong RX0 47 (-1000000000), Cond.constant RX0 49 (-1000000000)]
def wsX10_allot : List Cond := .code yX10_allot cX10_allot 6 (some .int) :: ((wsX10_allot_r1 ++ (wsX10_allot_r2 ++ (wsX10_allot_r3 ++ (wsX10_allot_r4 ++ (wsX10_allot_r5 ++ (wsX10_allot_r6 ++ wsX10_allot_r7)))))) ++ wsX10 ++ wsX100 ++ wsX90 ++ wsX50 ++ wsX00 ++ wsX60 ++ wsX30)
def wsX10_fine_r1 : List Cond := [Cond.fieldLink RX10 126 "ShipOffice$Agreement" "offDay" "I", Cond.constant RX10 114 (1000000), Cond.fieldLink RX10 255 "ShipOffice$Agreement" "signedOn" "I", Cond.fieldLink RX10 73 "ShipOffice" "now" "I", Cond.fieldLink RX10 258 "ShipOffice$Agreement" "fineCount" "I", Cond.fieldLink RX10 261 "ShipOffice$Agreement" "fines" "[LShipOffice$Fine;", Cond.classLink RX10 265 RX2, Cond.instantiable RX2 3, Cond.initialized RX2, Cond.methodLink RX10 154 yX10_agreementAt, Cond.instanceMethod yX10_agreementAt, Cond.selects RX10 yX10_agreementAt yX10_agreementAt, Cond.initialized RX10, Cond.code yX10_agreementAt cX10_agreementAt 2 (some (.object "ShipOffice$Agreement")), Cond.fieldLink RX10 115 "ShipOffice" "agreementCount" "I", Cond.fieldLink RX10 23 "ShipOffice" "agreements" "[LShipOffice$Agreement;", Cond.methodLink RX10 69 yX10_refuse, Cond.instanceMethod yX10_refuse, Cond.selects RX10 yX10_refuse yX10_refuse, Cond.code yX10_refuse cX10_refuse 2 (some .int), Cond.fieldLink RX10 66 "ShipOffice" "refusals" "[I", Cond.methodLink RX10 267 yX2_init, Cond.instanceMethod yX2_init, Cond.code yX2_init cX2_init 4 none]
def wsX10_fine_r2 : List Cond := [Cond.methodLink RX2 1 objectInit, Cond.instanceMethod objectInit, Cond.code objectInit ⟨#[0xb1]⟩ 1 none, Cond.fieldLink RX2 7 "ShipOffice$Fine" "day" "I", Cond.fieldLink RX2 13 "ShipOffice$Fine" "sum" "I", Cond.fieldLink RX2 16 "ShipOffice$Fine" "isRead" "Z"]
def wsX10_fine : List Cond := .code yX10_fine cX10_fine 6 (some .int) :: ((wsX10_fine_r1 ++ wsX10_fine_r2) ++ wsX10 ++ wsX100 ++ wsX20)
def wsX10_fineAt : List Cond := .code yX10_fineAt cX10_fineAt 2 (some (.object "ShipOffice$Fine")) :: ([.fieldLink RX10 258 "ShipOffice$Agreement" "fineCount" "I", .fieldLink RX10 261 "ShipOffice$Agreement" "fines" "[LShipOffice$Fine;"] ++ wsX10)
def wsX10_read : List Cond := .code yX10_read cX10_read 4 (some .int) :: ([.fieldLink RX10 274 "ShipOffice$Fine" "isRead" "Z", .fieldLink RX10 277 "ShipOffice$Fine" "day" "I", .fieldLink RX10 73 "ShipOffice" "now" "I", .methodLink RX10 154 yX10_agreementAt, .instanceMethod yX10_agreementAt, .selects RX10 yX10_agreementAt yX10_agreementAt, .initialized RX10, .code yX10_agreementAt cX10_agreementAt 2 (some (.object "ShipOffice$Agreement")), .fieldLink RX10 115 "ShipOffice" "agreementCount" "I", .fieldLink RX10 23 "ShipOffice" "agreements" "[LShipOffice$Agreement;", .methodLink RX10 270 yX10_fineAt, .static yX10_fineAt, .code yX10_fineAt cX10_fineAt 2 (some (.object "ShipOffice$Fine")), .fieldLink RX10 258 "ShipOffice$Agreement" "fineCount" "I", .fieldLink RX10 261 "ShipOffice$Agreement" "fines" "[LShipOffice$Fine;", .methodLink RX10 69 yX10_refuse, .instanceMethod yX10_refuse, .selects RX10 yX10_refuse yX10_refuse, .code yX10_refuse cX10_refuse 2 (some .int), .fieldLink RX10 66 "ShipOffice" "refusals" "[I"] ++ wsX20 ++ wsX100 ++ wsX10)
def wsX10_stands_r1 : List Cond := [Cond.fieldLink RX10 73 "ShipOffice" "now" "I", Cond.methodLink RX10 154 yX10_agreementAt, Cond.instanceMethod yX10_agreementAt, Cond.selects RX10 yX10_agreementAt yX10_agreementAt, Cond.initialized RX10, Cond.code yX10_agreementAt cX10_agreementAt 2 (some (.object "ShipOffice$Agreement")), Cond.fieldLink RX10 115 "ShipOffice" "agreementCount" "I", Cond.fieldLink RX10 23 "ShipOffice" "agreements" "[LShipOffice$Agreement;", Cond.methodLink RX10 270 yX10_fineAt, Cond.static yX10_fineAt, Cond.code yX10_fineAt cX10_fineAt 2 (some (.object "ShipOffice$Fine")), Cond.fieldLink RX10 258 "ShipOffice$Agreement" "fineCount" "I", Cond.fieldLink RX10 261 "ShipOffice$Agreement" "fines" "[LShipOffice$Fine;", Cond.methodLink RX10 69 yX10_refuse, Cond.instanceMethod yX10_refuse, Cond.selects RX10 yX10_refuse yX10_refuse, Cond.code yX10_refuse cX10_refuse 2 (some .int), Cond.fieldLink RX10 66 "ShipOffice" "refusals" "[I", Cond.methodLink RX10 280 yX10_standing, Cond.instanceMethod yX10_standing, Cond.selects RX10 yX10_standing yX10_standing, Cond.code yX10_standing cX10_standing 5 (some .int), Cond.fieldLink RX10 277 "ShipOffice$Fine" "day" "I", Cond.fieldLink RX10 418 "ShipOffice$Fine" "sum" "I"]
def wsX10_stands_r2 : List Cond := [Cond.fieldLink RX10 274 "ShipOffice$Fine" "isRead" "Z", Cond.methodLink RX10 378 Lib.Math.min.name, Cond.static Lib.Math.min.name, Cond.initialized "java/lang/Math", Cond.code Lib.Math.min.name Lib.Math.min.code 2 (some .int), Cond.methodLink RX10 383 Lib.Math.max.name, Cond.static Lib.Math.max.name, Cond.code Lib.Math.max.name Lib.Math.max.code 2 (some .int), Cond.methodLink RX10 249 yX10_worthFor, Cond.instanceMethod yX10_worthFor, Cond.selects RX10 yX10_worthFor yX10_worthFor, Cond.code yX10_worthFor cX10_worthFor 8 (some .int), Cond.fieldLink RX10 30 "ShipOffice" "law" "LShipOffice$Law;", Cond.fieldLink RX10 59 "ShipOffice" "letters" "[I", Cond.fieldLink RX10 223 "ShipOffice$Agreement" "wage" "I", Cond.fieldLink RX10 226 "ShipOffice$Agreement" "rank" "I", Cond.fieldLink RX10 299 "ShipOffice$Agreement" "man" "LShipOffice$Man;", Cond.fieldLink RX10 118 "ShipOffice$Agreement" "voyage" "LShipOffice$Voyage;", Cond.methodLink RX10 400 yX5_inForce, Cond.instanceMethod yX5_inForce, Cond.selects RX5 yX5_inForce yX5_inForce, Cond.initialized RX5, Cond.code yX5_inForce cX5_inForce 6 (some (.object "ShipOffice$Act")), Cond.fieldLink RX5 17 "ShipOffice$Law" "customs" "[LShipOffice$Act;"]
def wsX10_stands_r3 : List Cond := [Cond.fieldLink RX5 23 "ShipOffice$Law" "actCount" "I", Cond.fieldLink RX5 11 "ShipOffice$Law" "acts" "[LShipOffice$Act;", Cond.fieldLink RX5 27 "ShipOffice$Act" "purpose" "I", Cond.fieldLink RX5 30 "ShipOffice$Act" "day" "I", Cond.methodLink RX10 397 yX6_yearsOn, Cond.instanceMethod yX6_yearsOn, Cond.selects RX6 yX6_yearsOn yX6_yearsOn, Cond.initialized RX6, Cond.code yX6_yearsOn cX6_yearsOn 2 (some .int), Cond.fieldLink RX6 25 "ShipOffice$Man" "born" "I", Cond.methodLink RX10 408 yX0_uses, Cond.instanceMethod yX0_uses, Cond.selects RX0 yX0_uses yX0_uses, Cond.initialized RX0, Cond.code yX0_uses cX0_uses 6 (some .boolean), Cond.fieldLink RX0 16 "ShipOffice$Act" "code" "[I", Cond.methodLink RX10 411 yX1_daysIn, Cond.instanceMethod yX1_daysIn, Cond.selects RX1 yX1_daysIn yX1_daysIn, Cond.initialized RX1, Cond.code yX1_daysIn cX1_daysIn 10 (some .int), Cond.fieldLink RX1 37 "ShipOffice$Agreement" "signedOn" "I", Cond.methodLink RX1 111 Lib.Math.min.name, Cond.methodLink RX1 100 yX1_stateOn]
def wsX10_stands_r4 : List Cond := [Cond.instanceMethod yX1_stateOn, Cond.selects RX1 yX1_stateOn yX1_stateOn, Cond.code yX1_stateOn cX1_stateOn 5 (some .int), Cond.fieldLink RX1 33 "ShipOffice$Agreement" "voyage" "LShipOffice$Voyage;", Cond.fieldLink RX1 44 "ShipOffice$Agreement" "isDead" "Z", Cond.fieldLink RX1 10 "ShipOffice$Agreement" "offDay" "I", Cond.fieldLink RX1 64 "ShipOffice$Happening" "kind" "I", Cond.fieldLink RX1 82 "ShipOffice$Act" "plainWorth" "I", Cond.methodLink RX1 53 yX9_lostBy, Cond.instanceMethod yX9_lostBy, Cond.selects RX9 yX9_lostBy yX9_lostBy, Cond.initialized RX9, Cond.code yX9_lostBy cX9_lostBy 3 (some .boolean), Cond.fieldLink RX9 22 "ShipOffice$Voyage" "lostTold" "I", Cond.fieldLink RX9 19 "ShipOffice$Voyage" "lostDay" "I", Cond.methodLink RX1 57 yX1_diedBy, Cond.instanceMethod yX1_diedBy, Cond.selects RX1 yX1_diedBy yX1_diedBy, Cond.code yX1_diedBy cX1_diedBy 4 (some .boolean), Cond.fieldLink RX1 87 "ShipOffice$Agreement" "tidings" "LShipOffice$Happening;", Cond.fieldLink RX1 91 "ShipOffice$Happening" "told" "I", Cond.fieldLink RX1 94 "ShipOffice$Happening" "day" "I", Cond.fieldLink RX1 97 "ShipOffice$Happening" "before" "LShipOffice$Happening;", Cond.methodLink RX1 60 yX1_lastMove]
def wsX10_stands_r5 : List Cond := [Cond.instanceMethod yX1_lastMove, Cond.selects RX1 yX1_lastMove yX1_lastMove, Cond.code yX1_lastMove cX1_lastMove 6 (some (.object "ShipOffice$Happening")), Cond.methodLink RX1 69 yX9_sailedBy, Cond.instanceMethod yX9_sailedBy, Cond.selects RX9 yX9_sailedBy yX9_sailedBy, Cond.code yX9_sailedBy cX9_sailedBy 3 (some .boolean), Cond.fieldLink RX9 16 "ShipOffice$Voyage" "sailedTold" "I", Cond.fieldLink RX9 10 "ShipOffice$Voyage" "sailedDay" "I", Cond.methodLink RX1 72 yX9_lastHeard, Cond.instanceMethod yX9_lastHeard, Cond.selects RX9 yX9_lastHeard yX9_lastHeard, Cond.code yX9_lastHeard cX9_lastHeard 5 (some .int), Cond.fieldLink RX9 41 "ShipOffice$Voyage" "heardOf" "LShipOffice$Happening;", Cond.fieldLink RX9 45 "ShipOffice$Happening" "told" "I", Cond.fieldLink RX9 50 "ShipOffice$Happening" "day" "I", Cond.fieldLink RX9 53 "ShipOffice$Happening" "before" "LShipOffice$Happening;", Cond.methodLink RX1 76 yX5_inForce, Cond.methodLink RX1 108 yX1_nextChange, Cond.instanceMethod yX1_nextChange, Cond.selects RX1 yX1_nextChange yX1_nextChange, Cond.code yX1_nextChange cX1_nextChange 6 (some .int), Cond.constant RX1 9 (1000000), Cond.methodLink RX1 116 yX1_nearer]
def wsX10_stands_r6 : List Cond := [Cond.static yX1_nearer, Cond.code yX1_nearer cX1_nearer 3 (some .int), Cond.methodLink RX1 120 yX9_nextTold, Cond.instanceMethod yX9_nextTold, Cond.selects RX9 yX9_nextTold yX9_nextTold, Cond.code yX9_nextTold cX9_nextTold 5 (some .int), Cond.constant RX9 9 (1000000), Cond.methodLink RX1 123 yX5_nextPresume, Cond.instanceMethod yX5_nextPresume, Cond.selects RX5 yX5_nextPresume yX5_nextPresume, Cond.code yX5_nextPresume cX5_nextPresume 4 (some .int), Cond.constant RX5 33 (1000000), Cond.methodLink RX10 307 yX10_menAboard, Cond.instanceMethod yX10_menAboard, Cond.selects RX10 yX10_menAboard yX10_menAboard, Cond.code yX10_menAboard cX10_menAboard 6 (some .int), Cond.methodLink RX10 233 yX1_stateOn, Cond.methodLink RX10 415 yX9_daysUnheard, Cond.instanceMethod yX9_daysUnheard, Cond.selects RX9 yX9_daysUnheard yX9_daysUnheard, Cond.code yX9_daysUnheard cX9_daysUnheard 4 (some .int), Cond.methodLink RX9 56 yX9_lastHeard, Cond.methodLink RX10 404 yX0_worth, Cond.instanceMethod yX0_worth]
def wsX10_stands_r7 : List Cond := [Cond.selects RX0 yX0_worth yX0_worth, Cond.code yX0_worth cX0_worth 8 (some .int), Cond.fieldLink RX0 20 "ShipOffice$Act" "stack" "[I", Cond.methodLink RX0 36 yX0_joined, Cond.static yX0_joined, Cond.code yX0_joined cX0_joined 5 (some .int), Cond.methodLink RX0 40 yX0_held, Cond.static yX0_held, Cond.code yX0_held cX0_held 2 (some .int), Cond.constantLong RX0 44 (1000000000), Cond.constant RX0 46 (1000000000), Cond.constantLong RX0 47 (-1000000000), Cond.constant RX0 49 (-1000000000)]
def wsX10_stands : List Cond := .code yX10_stands cX10_stands 6 (some .int) :: ((wsX10_stands_r1 ++ (wsX10_stands_r2 ++ (wsX10_stands_r3 ++ (wsX10_stands_r4 ++ (wsX10_stands_r5 ++ (wsX10_stands_r6 ++ wsX10_stands_r7)))))) ++ wsX100 ++ wsX10 ++ wsX20 ++ wsX50 ++ wsX00 ++ wsX60 ++ wsX30 ++ wsX90)
def wsX10_rations : List Cond := .code yX10_rations cX10_rations 5 (some .int) :: ([.fieldLink RX10 284 "ShipOffice$Agreement" "shortDays" "I", .fieldLink RX10 287 "ShipOffice$Agreement" "shortCount" "I", .fieldLink RX10 73 "ShipOffice" "now" "I", .methodLink RX10 154 yX10_agreementAt, .instanceMethod yX10_agreementAt, .selects RX10 yX10_agreementAt yX10_agreementAt, .initialized RX10, .code yX10_agreementAt cX10_agreementAt 2 (some (.object "ShipOffice$Agreement")), .fieldLink RX10 115 "ShipOffice" "agreementCount" "I", .fieldLink RX10 23 "ShipOffice" "agreements" "[LShipOffice$Agreement;", .methodLink RX10 69 yX10_refuse, .instanceMethod yX10_refuse, .selects RX10 yX10_refuse yX10_refuse, .code yX10_refuse cX10_refuse 2 (some .int), .fieldLink RX10 66 "ShipOffice" "refusals" "[I", .methodLink RX10 290 yX1_addShort, .instanceMethod yX1_addShort, .selects RX1 yX1_addShort yX1_addShort, .initialized RX1, .code yX1_addShort cX1_addShort 4 none, .fieldLink RX1 136 "ShipOffice$Agreement" "shortCount" "I", .fieldLink RX1 22 "ShipOffice$Agreement" "shortTold" "[I", .fieldLink RX1 26 "ShipOffice$Agreement" "shortSum" "[I", .fieldLink RX1 139 "ShipOffice$Agreement" "shortDays" "I"] ++ wsX10 ++ wsX100)
def wsX10_owed_r1 : List Cond := [Cond.constant RX10 294 (1000000000), Cond.methodLink RX10 154 yX10_agreementAt, Cond.instanceMethod yX10_agreementAt, Cond.selects RX10 yX10_agreementAt yX10_agreementAt, Cond.initialized RX10, Cond.code yX10_agreementAt cX10_agreementAt 2 (some (.object "ShipOffice$Agreement")), Cond.fieldLink RX10 115 "ShipOffice" "agreementCount" "I", Cond.fieldLink RX10 23 "ShipOffice" "agreements" "[LShipOffice$Agreement;", Cond.methodLink RX10 69 yX10_refuse, Cond.instanceMethod yX10_refuse, Cond.selects RX10 yX10_refuse yX10_refuse, Cond.code yX10_refuse cX10_refuse 2 (some .int), Cond.fieldLink RX10 66 "ShipOffice" "refusals" "[I", Cond.methodLink RX10 229 yX10_askRefusal, Cond.instanceMethod yX10_askRefusal, Cond.selects RX10 yX10_askRefusal yX10_askRefusal, Cond.code yX10_askRefusal cX10_askRefusal 3 (some .int), Cond.fieldLink RX10 73 "ShipOffice" "now" "I", Cond.methodLink RX10 295 yX10_owedOn, Cond.instanceMethod yX10_owedOn, Cond.selects RX10 yX10_owedOn yX10_owedOn, Cond.code yX10_owedOn cX10_owedOn 9 (some .int), Cond.fieldLink RX10 255 "ShipOffice$Agreement" "signedOn" "I", Cond.fieldLink RX10 223 "ShipOffice$Agreement" "wage" "I"]
def wsX10_owed_r2 : List Cond := [Cond.fieldLink RX10 30 "ShipOffice" "law" "LShipOffice$Law;", Cond.fieldLink RX10 258 "ShipOffice$Agreement" "fineCount" "I", Cond.fieldLink RX10 261 "ShipOffice$Agreement" "fines" "[LShipOffice$Fine;", Cond.fieldLink RX10 277 "ShipOffice$Fine" "day" "I", Cond.fieldLink RX10 326 "ShipOffice$Happening" "way" "I", Cond.methodLink RX10 378 Lib.Math.min.name, Cond.static Lib.Math.min.name, Cond.initialized "java/lang/Math", Cond.code Lib.Math.min.name Lib.Math.min.code 2 (some .int), Cond.methodLink RX10 383 Lib.Math.max.name, Cond.static Lib.Math.max.name, Cond.code Lib.Math.max.name Lib.Math.max.code 2 (some .int), Cond.constantLong RX10 253 (100), Cond.methodLink RX10 237 yX1_earningDays, Cond.instanceMethod yX1_earningDays, Cond.selects RX1 yX1_earningDays yX1_earningDays, Cond.initialized RX1, Cond.code yX1_earningDays cX1_earningDays 5 (some .int), Cond.fieldLink RX1 33 "ShipOffice$Agreement" "voyage" "LShipOffice$Voyage;", Cond.methodLink RX1 100 yX1_stateOn, Cond.instanceMethod yX1_stateOn, Cond.selects RX1 yX1_stateOn yX1_stateOn, Cond.code yX1_stateOn cX1_stateOn 5 (some .int), Cond.fieldLink RX1 37 "ShipOffice$Agreement" "signedOn" "I"]
def wsX10_owed_r3 : List Cond := [Cond.fieldLink RX1 44 "ShipOffice$Agreement" "isDead" "Z", Cond.fieldLink RX1 10 "ShipOffice$Agreement" "offDay" "I", Cond.fieldLink RX1 64 "ShipOffice$Happening" "kind" "I", Cond.fieldLink RX1 82 "ShipOffice$Act" "plainWorth" "I", Cond.methodLink RX1 53 yX9_lostBy, Cond.instanceMethod yX9_lostBy, Cond.selects RX9 yX9_lostBy yX9_lostBy, Cond.initialized RX9, Cond.code yX9_lostBy cX9_lostBy 3 (some .boolean), Cond.fieldLink RX9 22 "ShipOffice$Voyage" "lostTold" "I", Cond.fieldLink RX9 19 "ShipOffice$Voyage" "lostDay" "I", Cond.methodLink RX1 57 yX1_diedBy, Cond.instanceMethod yX1_diedBy, Cond.selects RX1 yX1_diedBy yX1_diedBy, Cond.code yX1_diedBy cX1_diedBy 4 (some .boolean), Cond.fieldLink RX1 87 "ShipOffice$Agreement" "tidings" "LShipOffice$Happening;", Cond.fieldLink RX1 91 "ShipOffice$Happening" "told" "I", Cond.fieldLink RX1 94 "ShipOffice$Happening" "day" "I", Cond.fieldLink RX1 97 "ShipOffice$Happening" "before" "LShipOffice$Happening;", Cond.methodLink RX1 60 yX1_lastMove, Cond.instanceMethod yX1_lastMove, Cond.selects RX1 yX1_lastMove yX1_lastMove, Cond.code yX1_lastMove cX1_lastMove 6 (some (.object "ShipOffice$Happening")), Cond.methodLink RX1 69 yX9_sailedBy]
def wsX10_owed_r4 : List Cond := [Cond.instanceMethod yX9_sailedBy, Cond.selects RX9 yX9_sailedBy yX9_sailedBy, Cond.code yX9_sailedBy cX9_sailedBy 3 (some .boolean), Cond.fieldLink RX9 16 "ShipOffice$Voyage" "sailedTold" "I", Cond.fieldLink RX9 10 "ShipOffice$Voyage" "sailedDay" "I", Cond.methodLink RX1 72 yX9_lastHeard, Cond.instanceMethod yX9_lastHeard, Cond.selects RX9 yX9_lastHeard yX9_lastHeard, Cond.code yX9_lastHeard cX9_lastHeard 5 (some .int), Cond.fieldLink RX9 41 "ShipOffice$Voyage" "heardOf" "LShipOffice$Happening;", Cond.fieldLink RX9 45 "ShipOffice$Happening" "told" "I", Cond.fieldLink RX9 50 "ShipOffice$Happening" "day" "I", Cond.fieldLink RX9 53 "ShipOffice$Happening" "before" "LShipOffice$Happening;", Cond.methodLink RX1 76 yX5_inForce, Cond.instanceMethod yX5_inForce, Cond.selects RX5 yX5_inForce yX5_inForce, Cond.initialized RX5, Cond.code yX5_inForce cX5_inForce 6 (some (.object "ShipOffice$Act")), Cond.fieldLink RX5 17 "ShipOffice$Law" "customs" "[LShipOffice$Act;", Cond.fieldLink RX5 23 "ShipOffice$Law" "actCount" "I", Cond.fieldLink RX5 11 "ShipOffice$Law" "acts" "[LShipOffice$Act;", Cond.fieldLink RX5 27 "ShipOffice$Act" "purpose" "I", Cond.fieldLink RX5 30 "ShipOffice$Act" "day" "I", Cond.methodLink RX1 104 yX1_daysIn]
def wsX10_owed_r5 : List Cond := [Cond.instanceMethod yX1_daysIn, Cond.selects RX1 yX1_daysIn yX1_daysIn, Cond.code yX1_daysIn cX1_daysIn 10 (some .int), Cond.methodLink RX1 111 Lib.Math.min.name, Cond.methodLink RX1 108 yX1_nextChange, Cond.instanceMethod yX1_nextChange, Cond.selects RX1 yX1_nextChange yX1_nextChange, Cond.code yX1_nextChange cX1_nextChange 6 (some .int), Cond.constant RX1 9 (1000000), Cond.methodLink RX1 116 yX1_nearer, Cond.static yX1_nearer, Cond.code yX1_nearer cX1_nearer 3 (some .int), Cond.methodLink RX1 120 yX9_nextTold, Cond.instanceMethod yX9_nextTold, Cond.selects RX9 yX9_nextTold yX9_nextTold, Cond.code yX9_nextTold cX9_nextTold 5 (some .int), Cond.constant RX9 9 (1000000), Cond.methodLink RX1 123 yX5_nextPresume, Cond.instanceMethod yX5_nextPresume, Cond.selects RX5 yX5_nextPresume yX5_nextPresume, Cond.code yX5_nextPresume cX5_nextPresume 4 (some .int), Cond.constant RX5 33 (1000000), Cond.methodLink RX10 421 yX1_notePaid, Cond.instanceMethod yX1_notePaid]
def wsX10_owed_r6 : List Cond := [Cond.selects RX1 yX1_notePaid yX1_notePaid, Cond.code yX1_notePaid cX1_notePaid 4 (some .int), Cond.fieldLink RX1 127 "ShipOffice$Agreement" "note" "I", Cond.fieldLink RX1 130 "ShipOffice$Voyage" "sailedDay" "I", Cond.methodLink RX10 424 yX1_allotmentsPaid, Cond.instanceMethod yX1_allotmentsPaid, Cond.selects RX1 yX1_allotmentsPaid yX1_allotmentsPaid, Cond.code yX1_allotmentsPaid cX1_allotmentsPaid 6 (some .int), Cond.fieldLink RX1 133 "ShipOffice$Agreement" "allotment" "I", Cond.methodLink RX10 280 yX10_standing, Cond.instanceMethod yX10_standing, Cond.selects RX10 yX10_standing yX10_standing, Cond.code yX10_standing cX10_standing 5 (some .int), Cond.fieldLink RX10 418 "ShipOffice$Fine" "sum" "I", Cond.fieldLink RX10 274 "ShipOffice$Fine" "isRead" "Z", Cond.methodLink RX10 249 yX10_worthFor, Cond.instanceMethod yX10_worthFor, Cond.selects RX10 yX10_worthFor yX10_worthFor, Cond.code yX10_worthFor cX10_worthFor 8 (some .int), Cond.fieldLink RX10 59 "ShipOffice" "letters" "[I", Cond.fieldLink RX10 226 "ShipOffice$Agreement" "rank" "I", Cond.fieldLink RX10 299 "ShipOffice$Agreement" "man" "LShipOffice$Man;", Cond.fieldLink RX10 118 "ShipOffice$Agreement" "voyage" "LShipOffice$Voyage;", Cond.methodLink RX10 400 yX5_inForce]
def wsX10_owed_r7 : List Cond := [Cond.methodLink RX10 397 yX6_yearsOn, Cond.instanceMethod yX6_yearsOn, Cond.selects RX6 yX6_yearsOn yX6_yearsOn, Cond.initialized RX6, Cond.code yX6_yearsOn cX6_yearsOn 2 (some .int), Cond.fieldLink RX6 25 "ShipOffice$Man" "born" "I", Cond.methodLink RX10 408 yX0_uses, Cond.instanceMethod yX0_uses, Cond.selects RX0 yX0_uses yX0_uses, Cond.initialized RX0, Cond.code yX0_uses cX0_uses 6 (some .boolean), Cond.fieldLink RX0 16 "ShipOffice$Act" "code" "[I", Cond.methodLink RX10 411 yX1_daysIn, Cond.methodLink RX10 307 yX10_menAboard, Cond.instanceMethod yX10_menAboard, Cond.selects RX10 yX10_menAboard yX10_menAboard, Cond.code yX10_menAboard cX10_menAboard 6 (some .int), Cond.methodLink RX10 233 yX1_stateOn, Cond.methodLink RX10 415 yX9_daysUnheard, Cond.instanceMethod yX9_daysUnheard, Cond.selects RX9 yX9_daysUnheard yX9_daysUnheard, Cond.code yX9_daysUnheard cX9_daysUnheard 4 (some .int), Cond.methodLink RX9 56 yX9_lastHeard, Cond.methodLink RX10 404 yX0_worth]
def wsX10_owed_r8 : List Cond := [Cond.instanceMethod yX0_worth, Cond.selects RX0 yX0_worth yX0_worth, Cond.code yX0_worth cX0_worth 8 (some .int), Cond.fieldLink RX0 20 "ShipOffice$Act" "stack" "[I", Cond.methodLink RX0 36 yX0_joined, Cond.static yX0_joined, Cond.code yX0_joined cX0_joined 5 (some .int), Cond.methodLink RX0 40 yX0_held, Cond.static yX0_held, Cond.code yX0_held cX0_held 2 (some .int), Cond.constantLong RX0 44 (1000000000), Cond.constant RX0 46 (1000000000), Cond.constantLong RX0 47 (-1000000000), Cond.constant RX0 49 (-1000000000), Cond.methodLink RX10 427 yX1_shortPence, Cond.instanceMethod yX1_shortPence, Cond.selects RX1 yX1_shortPence yX1_shortPence, Cond.code yX1_shortPence cX1_shortPence 4 (some .int), Cond.fieldLink RX1 136 "ShipOffice$Agreement" "shortCount" "I", Cond.fieldLink RX1 22 "ShipOffice$Agreement" "shortTold" "[I", Cond.fieldLink RX1 26 "ShipOffice$Agreement" "shortSum" "[I", Cond.methodLink RX10 322 yX1_leavingOn, Cond.instanceMethod yX1_leavingOn, Cond.selects RX1 yX1_leavingOn yX1_leavingOn]
def wsX10_owed_r9 : List Cond := [Cond.code yX1_leavingOn cX1_leavingOn 4 (some (.object "ShipOffice$Happening"))]
def wsX10_owed : List Cond := .code yX10_owed cX10_owed 6 (some .int) :: ((wsX10_owed_r1 ++ (wsX10_owed_r2 ++ (wsX10_owed_r3 ++ (wsX10_owed_r4 ++ (wsX10_owed_r5 ++ (wsX10_owed_r6 ++ (wsX10_owed_r7 ++ (wsX10_owed_r8 ++ wsX10_owed_r9)))))))) ++ wsX100 ++ wsX10 ++ wsX20 ++ wsX30 ++ wsX00 ++ wsX90 ++ wsX50 ++ wsX60)
def wsX10_agreementOf_r1 : List Cond := [Cond.fieldLink RX10 299 "ShipOffice$Agreement" "man" "LShipOffice$Man;", Cond.fieldLink RX10 303 "ShipOffice$Man" "number" "I", Cond.fieldLink RX10 118 "ShipOffice$Agreement" "voyage" "LShipOffice$Voyage;", Cond.fieldLink RX10 306 "ShipOffice$Voyage" "number" "I", Cond.fieldLink RX10 223 "ShipOffice$Agreement" "wage" "I", Cond.fieldLink RX10 226 "ShipOffice$Agreement" "rank" "I", Cond.fieldLink RX10 255 "ShipOffice$Agreement" "signedOn" "I", Cond.fieldLink RX10 126 "ShipOffice$Agreement" "offDay" "I", Cond.constant RX10 114 (1000000), Cond.fieldLink RX10 240 "ShipOffice$Agreement" "note" "I", Cond.fieldLink RX10 243 "ShipOffice$Agreement" "given" "I", Cond.fieldLink RX10 246 "ShipOffice$Agreement" "allotment" "I", Cond.methodLink RX10 154 yX10_agreementAt, Cond.instanceMethod yX10_agreementAt, Cond.selects RX10 yX10_agreementAt yX10_agreementAt, Cond.initialized RX10, Cond.code yX10_agreementAt cX10_agreementAt 2 (some (.object "ShipOffice$Agreement")), Cond.fieldLink RX10 115 "ShipOffice" "agreementCount" "I", Cond.fieldLink RX10 23 "ShipOffice" "agreements" "[LShipOffice$Agreement;", Cond.methodLink RX10 69 yX10_refuse, Cond.instanceMethod yX10_refuse, Cond.selects RX10 yX10_refuse yX10_refuse, Cond.code yX10_refuse cX10_refuse 2 (some .int), Cond.fieldLink RX10 66 "ShipOffice" "refusals" "[I"]
def wsX10_agreementOf_r2 : List Cond := [Cond.methodLink RX10 122 yX1_goesOn, Cond.instanceMethod yX1_goesOn, Cond.selects RX1 yX1_goesOn yX1_goesOn, Cond.initialized RX1, Cond.code yX1_goesOn cX1_goesOn 1 (some .boolean), Cond.fieldLink RX1 10 "ShipOffice$Agreement" "offDay" "I", Cond.constant RX1 9 (1000000), Cond.fieldLink RX1 44 "ShipOffice$Agreement" "isDead" "Z", Cond.fieldLink RX1 33 "ShipOffice$Agreement" "voyage" "LShipOffice$Voyage;", Cond.fieldLink RX1 48 "ShipOffice$Voyage" "lostTold" "I"]
def wsX10_agreementOf : List Cond := .code yX10_agreementOf cX10_agreementOf 4 (some .int) :: ((wsX10_agreementOf_r1 ++ wsX10_agreementOf_r2) ++ wsX10 ++ wsX60 ++ wsX90 ++ wsX100)
def wsX10_aboard_r1 : List Cond := [Cond.methodLink RX10 103 yX10_voyageAt, Cond.instanceMethod yX10_voyageAt, Cond.selects RX10 yX10_voyageAt yX10_voyageAt, Cond.initialized RX10, Cond.code yX10_voyageAt cX10_voyageAt 2 (some (.object "ShipOffice$Voyage")), Cond.fieldLink RX10 99 "ShipOffice" "voyageCount" "I", Cond.fieldLink RX10 17 "ShipOffice" "voyages" "[LShipOffice$Voyage;", Cond.methodLink RX10 69 yX10_refuse, Cond.instanceMethod yX10_refuse, Cond.selects RX10 yX10_refuse yX10_refuse, Cond.code yX10_refuse cX10_refuse 2 (some .int), Cond.fieldLink RX10 66 "ShipOffice" "refusals" "[I", Cond.methodLink RX10 229 yX10_askRefusal, Cond.instanceMethod yX10_askRefusal, Cond.selects RX10 yX10_askRefusal yX10_askRefusal, Cond.code yX10_askRefusal cX10_askRefusal 3 (some .int), Cond.fieldLink RX10 73 "ShipOffice" "now" "I", Cond.methodLink RX10 307 yX10_menAboard, Cond.instanceMethod yX10_menAboard, Cond.selects RX10 yX10_menAboard yX10_menAboard, Cond.code yX10_menAboard cX10_menAboard 6 (some .int), Cond.fieldLink RX10 115 "ShipOffice" "agreementCount" "I", Cond.fieldLink RX10 23 "ShipOffice" "agreements" "[LShipOffice$Agreement;", Cond.fieldLink RX10 118 "ShipOffice$Agreement" "voyage" "LShipOffice$Voyage;"]
def wsX10_aboard_r2 : List Cond := [Cond.fieldLink RX10 30 "ShipOffice" "law" "LShipOffice$Law;", Cond.methodLink RX10 233 yX1_stateOn, Cond.instanceMethod yX1_stateOn, Cond.selects RX1 yX1_stateOn yX1_stateOn, Cond.initialized RX1, Cond.code yX1_stateOn cX1_stateOn 5 (some .int), Cond.fieldLink RX1 37 "ShipOffice$Agreement" "signedOn" "I", Cond.fieldLink RX1 33 "ShipOffice$Agreement" "voyage" "LShipOffice$Voyage;", Cond.fieldLink RX1 44 "ShipOffice$Agreement" "isDead" "Z", Cond.fieldLink RX1 10 "ShipOffice$Agreement" "offDay" "I", Cond.fieldLink RX1 64 "ShipOffice$Happening" "kind" "I", Cond.fieldLink RX1 82 "ShipOffice$Act" "plainWorth" "I", Cond.methodLink RX1 53 yX9_lostBy, Cond.instanceMethod yX9_lostBy, Cond.selects RX9 yX9_lostBy yX9_lostBy, Cond.initialized RX9, Cond.code yX9_lostBy cX9_lostBy 3 (some .boolean), Cond.fieldLink RX9 22 "ShipOffice$Voyage" "lostTold" "I", Cond.fieldLink RX9 19 "ShipOffice$Voyage" "lostDay" "I", Cond.methodLink RX1 57 yX1_diedBy, Cond.instanceMethod yX1_diedBy, Cond.selects RX1 yX1_diedBy yX1_diedBy, Cond.code yX1_diedBy cX1_diedBy 4 (some .boolean), Cond.fieldLink RX1 87 "ShipOffice$Agreement" "tidings" "LShipOffice$Happening;"]
def wsX10_aboard_r3 : List Cond := [Cond.fieldLink RX1 91 "ShipOffice$Happening" "told" "I", Cond.fieldLink RX1 94 "ShipOffice$Happening" "day" "I", Cond.fieldLink RX1 97 "ShipOffice$Happening" "before" "LShipOffice$Happening;", Cond.methodLink RX1 60 yX1_lastMove, Cond.instanceMethod yX1_lastMove, Cond.selects RX1 yX1_lastMove yX1_lastMove, Cond.code yX1_lastMove cX1_lastMove 6 (some (.object "ShipOffice$Happening")), Cond.methodLink RX1 69 yX9_sailedBy, Cond.instanceMethod yX9_sailedBy, Cond.selects RX9 yX9_sailedBy yX9_sailedBy, Cond.code yX9_sailedBy cX9_sailedBy 3 (some .boolean), Cond.fieldLink RX9 16 "ShipOffice$Voyage" "sailedTold" "I", Cond.fieldLink RX9 10 "ShipOffice$Voyage" "sailedDay" "I", Cond.methodLink RX1 72 yX9_lastHeard, Cond.instanceMethod yX9_lastHeard, Cond.selects RX9 yX9_lastHeard yX9_lastHeard, Cond.code yX9_lastHeard cX9_lastHeard 5 (some .int), Cond.fieldLink RX9 41 "ShipOffice$Voyage" "heardOf" "LShipOffice$Happening;", Cond.fieldLink RX9 45 "ShipOffice$Happening" "told" "I", Cond.fieldLink RX9 50 "ShipOffice$Happening" "day" "I", Cond.fieldLink RX9 53 "ShipOffice$Happening" "before" "LShipOffice$Happening;", Cond.methodLink RX1 76 yX5_inForce, Cond.instanceMethod yX5_inForce, Cond.selects RX5 yX5_inForce yX5_inForce]
def wsX10_aboard_r4 : List Cond := [Cond.initialized RX5, Cond.code yX5_inForce cX5_inForce 6 (some (.object "ShipOffice$Act")), Cond.fieldLink RX5 17 "ShipOffice$Law" "customs" "[LShipOffice$Act;", Cond.fieldLink RX5 23 "ShipOffice$Law" "actCount" "I", Cond.fieldLink RX5 11 "ShipOffice$Law" "acts" "[LShipOffice$Act;", Cond.fieldLink RX5 27 "ShipOffice$Act" "purpose" "I", Cond.fieldLink RX5 30 "ShipOffice$Act" "day" "I"]
def wsX10_aboard : List Cond := .code yX10_aboard cX10_aboard 6 (some .int) :: ((wsX10_aboard_r1 ++ (wsX10_aboard_r2 ++ (wsX10_aboard_r3 ++ wsX10_aboard_r4))) ++ wsX100 ++ wsX10 ++ wsX30 ++ wsX00 ++ wsX90 ++ wsX50)
def wsX10_group : List Cond := .code yX10_group cX10_group 3 (some .int) :: ([.fieldLink RX10 311 "ShipOffice$Man" "leastAlike" "I", .methodLink RX10 205 yX10_manAt, .instanceMethod yX10_manAt, .selects RX10 yX10_manAt yX10_manAt, .initialized RX10, .code yX10_manAt cX10_manAt 2 (some (.object "ShipOffice$Man")), .fieldLink RX10 86 "ShipOffice" "manCount" "I", .fieldLink RX10 11 "ShipOffice" "men" "[LShipOffice$Man;", .methodLink RX10 69 yX10_refuse, .instanceMethod yX10_refuse, .selects RX10 yX10_refuse yX10_refuse, .code yX10_refuse cX10_refuse 2 (some .int), .fieldLink RX10 66 "ShipOffice" "refusals" "[I"] ++ wsX60 ++ wsX100)
def wsX10_borrowed_r1 : List Cond := [Cond.fieldLink RX10 314 "ShipOffice$Agreement" "paper" "LShipOffice$Agreement;", Cond.fieldLink RX10 299 "ShipOffice$Agreement" "man" "LShipOffice$Man;", Cond.fieldLink RX10 311 "ShipOffice$Man" "leastAlike" "I", Cond.methodLink RX10 154 yX10_agreementAt, Cond.instanceMethod yX10_agreementAt, Cond.selects RX10 yX10_agreementAt yX10_agreementAt, Cond.initialized RX10, Cond.code yX10_agreementAt cX10_agreementAt 2 (some (.object "ShipOffice$Agreement")), Cond.fieldLink RX10 115 "ShipOffice" "agreementCount" "I", Cond.fieldLink RX10 23 "ShipOffice" "agreements" "[LShipOffice$Agreement;", Cond.methodLink RX10 69 yX10_refuse, Cond.instanceMethod yX10_refuse, Cond.selects RX10 yX10_refuse yX10_refuse, Cond.code yX10_refuse cX10_refuse 2 (some .int), Cond.fieldLink RX10 66 "ShipOffice" "refusals" "[I", Cond.methodLink RX10 318 yX10_isShownTwice, Cond.instanceMethod yX10_isShownTwice, Cond.selects RX10 yX10_isShownTwice yX10_isShownTwice, Cond.code yX10_isShownTwice cX10_isShownTwice 4 (some .boolean), Cond.fieldLink RX10 255 "ShipOffice$Agreement" "signedOn" "I", Cond.methodLink RX10 389 yX10_lastDay, Cond.instanceMethod yX10_lastDay, Cond.selects RX10 yX10_lastDay yX10_lastDay, Cond.code yX10_lastDay cX10_lastDay 2 (some .int)]
def wsX10_borrowed_r2 : List Cond := [Cond.fieldLink RX10 126 "ShipOffice$Agreement" "offDay" "I", Cond.constant RX10 114 (1000000), Cond.fieldLink RX10 73 "ShipOffice" "now" "I"]
def wsX10_borrowed : List Cond := .code yX10_borrowed cX10_borrowed 3 (some .int) :: ((wsX10_borrowed_r1 ++ wsX10_borrowed_r2) ++ wsX10 ++ wsX60 ++ wsX100)
def wsX10_home_r1 : List Cond := [Cond.fieldLink RX10 115 "ShipOffice" "agreementCount" "I", Cond.fieldLink RX10 23 "ShipOffice" "agreements" "[LShipOffice$Agreement;", Cond.fieldLink RX10 299 "ShipOffice$Agreement" "man" "LShipOffice$Man;", Cond.fieldLink RX10 73 "ShipOffice" "now" "I", Cond.fieldLink RX10 30 "ShipOffice" "law" "LShipOffice$Law;", Cond.fieldLink RX10 326 "ShipOffice$Happening" "way" "I", Cond.fieldLink RX10 44 "ShipOffice" "sea" "LShipOffice$Sea;", Cond.fieldLink RX10 329 "ShipOffice$Happening" "port" "I", Cond.fieldLink RX10 118 "ShipOffice$Agreement" "voyage" "LShipOffice$Voyage;", Cond.fieldLink RX10 332 "ShipOffice$Voyage" "port" "I", Cond.methodLink RX10 205 yX10_manAt, Cond.instanceMethod yX10_manAt, Cond.selects RX10 yX10_manAt yX10_manAt, Cond.initialized RX10, Cond.code yX10_manAt cX10_manAt 2 (some (.object "ShipOffice$Man")), Cond.fieldLink RX10 86 "ShipOffice" "manCount" "I", Cond.fieldLink RX10 11 "ShipOffice" "men" "[LShipOffice$Man;", Cond.methodLink RX10 69 yX10_refuse, Cond.instanceMethod yX10_refuse, Cond.selects RX10 yX10_refuse yX10_refuse, Cond.code yX10_refuse cX10_refuse 2 (some .int), Cond.fieldLink RX10 66 "ShipOffice" "refusals" "[I", Cond.methodLink RX10 322 yX1_leavingOn, Cond.instanceMethod yX1_leavingOn]
def wsX10_home_r2 : List Cond := [Cond.selects RX1 yX1_leavingOn yX1_leavingOn, Cond.initialized RX1, Cond.code yX1_leavingOn cX1_leavingOn 4 (some (.object "ShipOffice$Happening")), Cond.methodLink RX1 100 yX1_stateOn, Cond.instanceMethod yX1_stateOn, Cond.selects RX1 yX1_stateOn yX1_stateOn, Cond.code yX1_stateOn cX1_stateOn 5 (some .int), Cond.fieldLink RX1 37 "ShipOffice$Agreement" "signedOn" "I", Cond.fieldLink RX1 33 "ShipOffice$Agreement" "voyage" "LShipOffice$Voyage;", Cond.fieldLink RX1 44 "ShipOffice$Agreement" "isDead" "Z", Cond.fieldLink RX1 10 "ShipOffice$Agreement" "offDay" "I", Cond.fieldLink RX1 64 "ShipOffice$Happening" "kind" "I", Cond.fieldLink RX1 82 "ShipOffice$Act" "plainWorth" "I", Cond.methodLink RX1 53 yX9_lostBy, Cond.instanceMethod yX9_lostBy, Cond.selects RX9 yX9_lostBy yX9_lostBy, Cond.initialized RX9, Cond.code yX9_lostBy cX9_lostBy 3 (some .boolean), Cond.fieldLink RX9 22 "ShipOffice$Voyage" "lostTold" "I", Cond.fieldLink RX9 19 "ShipOffice$Voyage" "lostDay" "I", Cond.methodLink RX1 57 yX1_diedBy, Cond.instanceMethod yX1_diedBy, Cond.selects RX1 yX1_diedBy yX1_diedBy, Cond.code yX1_diedBy cX1_diedBy 4 (some .boolean)]
def wsX10_home_r3 : List Cond := [Cond.fieldLink RX1 87 "ShipOffice$Agreement" "tidings" "LShipOffice$Happening;", Cond.fieldLink RX1 91 "ShipOffice$Happening" "told" "I", Cond.fieldLink RX1 94 "ShipOffice$Happening" "day" "I", Cond.fieldLink RX1 97 "ShipOffice$Happening" "before" "LShipOffice$Happening;", Cond.methodLink RX1 60 yX1_lastMove, Cond.instanceMethod yX1_lastMove, Cond.selects RX1 yX1_lastMove yX1_lastMove, Cond.code yX1_lastMove cX1_lastMove 6 (some (.object "ShipOffice$Happening")), Cond.methodLink RX1 69 yX9_sailedBy, Cond.instanceMethod yX9_sailedBy, Cond.selects RX9 yX9_sailedBy yX9_sailedBy, Cond.code yX9_sailedBy cX9_sailedBy 3 (some .boolean), Cond.fieldLink RX9 16 "ShipOffice$Voyage" "sailedTold" "I", Cond.fieldLink RX9 10 "ShipOffice$Voyage" "sailedDay" "I", Cond.methodLink RX1 72 yX9_lastHeard, Cond.instanceMethod yX9_lastHeard, Cond.selects RX9 yX9_lastHeard yX9_lastHeard, Cond.code yX9_lastHeard cX9_lastHeard 5 (some .int), Cond.fieldLink RX9 41 "ShipOffice$Voyage" "heardOf" "LShipOffice$Happening;", Cond.fieldLink RX9 45 "ShipOffice$Happening" "told" "I", Cond.fieldLink RX9 50 "ShipOffice$Happening" "day" "I", Cond.fieldLink RX9 53 "ShipOffice$Happening" "before" "LShipOffice$Happening;", Cond.methodLink RX1 76 yX5_inForce, Cond.instanceMethod yX5_inForce]
def wsX10_home_r4 : List Cond := [Cond.selects RX5 yX5_inForce yX5_inForce, Cond.initialized RX5, Cond.code yX5_inForce cX5_inForce 6 (some (.object "ShipOffice$Act")), Cond.fieldLink RX5 17 "ShipOffice$Law" "customs" "[LShipOffice$Act;", Cond.fieldLink RX5 23 "ShipOffice$Law" "actCount" "I", Cond.fieldLink RX5 11 "ShipOffice$Law" "acts" "[LShipOffice$Act;", Cond.fieldLink RX5 27 "ShipOffice$Act" "purpose" "I", Cond.fieldLink RX5 30 "ShipOffice$Act" "day" "I", Cond.methodLink RX10 333 yX7_way, Cond.instanceMethod yX7_way, Cond.selects RX7 yX7_way yX7_way, Cond.initialized RX7, Cond.code yX7_way cX7_way 4 (some .int), Cond.fieldLink RX7 15 "ShipOffice$Sea" "least" "[I", Cond.constant RX7 18 (1000000), Cond.methodLink RX7 19 yJ7_fill_53178, Cond.static yJ7_fill_53178, Cond.initialized RJ7, Cond.code yJ7_fill_53178 cJ7_fill_53178 4 none, Cond.methodLink RX7 25 yX7_shorten, Cond.instanceMethod yX7_shorten, Cond.selects RX7 yX7_shorten yX7_shorten, Cond.code yX7_shorten cX7_shorten 4 none, Cond.fieldLink RX7 9 "ShipOffice$Sea" "miles" "[I"]
def wsX10_home : List Cond := .code yX10_home cX10_home 6 (some .int) :: ((wsX10_home_r1 ++ (wsX10_home_r2 ++ (wsX10_home_r3 ++ wsX10_home_r4))) ++ wsX100 ++ wsX10 ++ wsX30 ++ wsX90 ++ wsX00 ++ wsX50 ++ wsX70)
def wsX10_ask : List Cond := .code yX10_ask cX10_ask 6 (some .int) :: ([.fieldLink RX10 335 "ShipOffice$Man" "wages" "[I", .methodLink RX10 205 yX10_manAt, .instanceMethod yX10_manAt, .selects RX10 yX10_manAt yX10_manAt, .initialized RX10, .code yX10_manAt cX10_manAt 2 (some (.object "ShipOffice$Man")), .fieldLink RX10 86 "ShipOffice" "manCount" "I", .fieldLink RX10 11 "ShipOffice" "men" "[LShipOffice$Man;", .methodLink RX10 69 yX10_refuse, .instanceMethod yX10_refuse, .selects RX10 yX10_refuse yX10_refuse, .code yX10_refuse cX10_refuse 2 (some .int), .fieldLink RX10 66 "ShipOffice" "refusals" "[I"] ++ wsX60 ++ wsX100)
def wsX10_check_r1 : List Cond := [Cond.fieldLink RX10 353 "ShipOffice" "rowCount" "I", Cond.fieldLink RX10 115 "ShipOffice" "agreementCount" "I", Cond.fieldLink RX10 23 "ShipOffice" "agreements" "[LShipOffice$Agreement;", Cond.fieldLink RX10 118 "ShipOffice$Agreement" "voyage" "LShipOffice$Voyage;", Cond.fieldLink RX10 63 "ShipOffice" "row" "[I", Cond.methodLink RX10 103 yX10_voyageAt, Cond.instanceMethod yX10_voyageAt, Cond.selects RX10 yX10_voyageAt yX10_voyageAt, Cond.initialized RX10, Cond.code yX10_voyageAt cX10_voyageAt 2 (some (.object "ShipOffice$Voyage")), Cond.fieldLink RX10 99 "ShipOffice" "voyageCount" "I", Cond.fieldLink RX10 17 "ShipOffice" "voyages" "[LShipOffice$Voyage;", Cond.methodLink RX10 69 yX10_refuse, Cond.instanceMethod yX10_refuse, Cond.selects RX10 yX10_refuse yX10_refuse, Cond.code yX10_refuse cX10_refuse 2 (some .int), Cond.fieldLink RX10 66 "ShipOffice" "refusals" "[I", Cond.methodLink RX10 229 yX10_askRefusal, Cond.instanceMethod yX10_askRefusal, Cond.selects RX10 yX10_askRefusal yX10_askRefusal, Cond.code yX10_askRefusal cX10_askRefusal 3 (some .int), Cond.fieldLink RX10 73 "ShipOffice" "now" "I", Cond.methodLink RX10 295 yX10_owedOn, Cond.instanceMethod yX10_owedOn]
def wsX10_check_r2 : List Cond := [Cond.selects RX10 yX10_owedOn yX10_owedOn, Cond.code yX10_owedOn cX10_owedOn 9 (some .int), Cond.fieldLink RX10 255 "ShipOffice$Agreement" "signedOn" "I", Cond.fieldLink RX10 223 "ShipOffice$Agreement" "wage" "I", Cond.fieldLink RX10 30 "ShipOffice" "law" "LShipOffice$Law;", Cond.fieldLink RX10 258 "ShipOffice$Agreement" "fineCount" "I", Cond.fieldLink RX10 261 "ShipOffice$Agreement" "fines" "[LShipOffice$Fine;", Cond.fieldLink RX10 277 "ShipOffice$Fine" "day" "I", Cond.fieldLink RX10 326 "ShipOffice$Happening" "way" "I", Cond.methodLink RX10 378 Lib.Math.min.name, Cond.static Lib.Math.min.name, Cond.initialized "java/lang/Math", Cond.code Lib.Math.min.name Lib.Math.min.code 2 (some .int), Cond.methodLink RX10 383 Lib.Math.max.name, Cond.static Lib.Math.max.name, Cond.code Lib.Math.max.name Lib.Math.max.code 2 (some .int), Cond.constantLong RX10 253 (100), Cond.methodLink RX10 237 yX1_earningDays, Cond.instanceMethod yX1_earningDays, Cond.selects RX1 yX1_earningDays yX1_earningDays, Cond.initialized RX1, Cond.code yX1_earningDays cX1_earningDays 5 (some .int), Cond.fieldLink RX1 33 "ShipOffice$Agreement" "voyage" "LShipOffice$Voyage;", Cond.methodLink RX1 100 yX1_stateOn]
def wsX10_check_r3 : List Cond := [Cond.instanceMethod yX1_stateOn, Cond.selects RX1 yX1_stateOn yX1_stateOn, Cond.code yX1_stateOn cX1_stateOn 5 (some .int), Cond.fieldLink RX1 37 "ShipOffice$Agreement" "signedOn" "I", Cond.fieldLink RX1 44 "ShipOffice$Agreement" "isDead" "Z", Cond.fieldLink RX1 10 "ShipOffice$Agreement" "offDay" "I", Cond.fieldLink RX1 64 "ShipOffice$Happening" "kind" "I", Cond.fieldLink RX1 82 "ShipOffice$Act" "plainWorth" "I", Cond.methodLink RX1 53 yX9_lostBy, Cond.instanceMethod yX9_lostBy, Cond.selects RX9 yX9_lostBy yX9_lostBy, Cond.initialized RX9, Cond.code yX9_lostBy cX9_lostBy 3 (some .boolean), Cond.fieldLink RX9 22 "ShipOffice$Voyage" "lostTold" "I", Cond.fieldLink RX9 19 "ShipOffice$Voyage" "lostDay" "I", Cond.methodLink RX1 57 yX1_diedBy, Cond.instanceMethod yX1_diedBy, Cond.selects RX1 yX1_diedBy yX1_diedBy, Cond.code yX1_diedBy cX1_diedBy 4 (some .boolean), Cond.fieldLink RX1 87 "ShipOffice$Agreement" "tidings" "LShipOffice$Happening;", Cond.fieldLink RX1 91 "ShipOffice$Happening" "told" "I", Cond.fieldLink RX1 94 "ShipOffice$Happening" "day" "I", Cond.fieldLink RX1 97 "ShipOffice$Happening" "before" "LShipOffice$Happening;", Cond.methodLink RX1 60 yX1_lastMove]
def wsX10_check_r4 : List Cond := [Cond.instanceMethod yX1_lastMove, Cond.selects RX1 yX1_lastMove yX1_lastMove, Cond.code yX1_lastMove cX1_lastMove 6 (some (.object "ShipOffice$Happening")), Cond.methodLink RX1 69 yX9_sailedBy, Cond.instanceMethod yX9_sailedBy, Cond.selects RX9 yX9_sailedBy yX9_sailedBy, Cond.code yX9_sailedBy cX9_sailedBy 3 (some .boolean), Cond.fieldLink RX9 16 "ShipOffice$Voyage" "sailedTold" "I", Cond.fieldLink RX9 10 "ShipOffice$Voyage" "sailedDay" "I", Cond.methodLink RX1 72 yX9_lastHeard, Cond.instanceMethod yX9_lastHeard, Cond.selects RX9 yX9_lastHeard yX9_lastHeard, Cond.code yX9_lastHeard cX9_lastHeard 5 (some .int), Cond.fieldLink RX9 41 "ShipOffice$Voyage" "heardOf" "LShipOffice$Happening;", Cond.fieldLink RX9 45 "ShipOffice$Happening" "told" "I", Cond.fieldLink RX9 50 "ShipOffice$Happening" "day" "I", Cond.fieldLink RX9 53 "ShipOffice$Happening" "before" "LShipOffice$Happening;", Cond.methodLink RX1 76 yX5_inForce, Cond.instanceMethod yX5_inForce, Cond.selects RX5 yX5_inForce yX5_inForce, Cond.initialized RX5, Cond.code yX5_inForce cX5_inForce 6 (some (.object "ShipOffice$Act")), Cond.fieldLink RX5 17 "ShipOffice$Law" "customs" "[LShipOffice$Act;", Cond.fieldLink RX5 23 "ShipOffice$Law" "actCount" "I"]
def wsX10_check_r5 : List Cond := [Cond.fieldLink RX5 11 "ShipOffice$Law" "acts" "[LShipOffice$Act;", Cond.fieldLink RX5 27 "ShipOffice$Act" "purpose" "I", Cond.fieldLink RX5 30 "ShipOffice$Act" "day" "I", Cond.methodLink RX1 104 yX1_daysIn, Cond.instanceMethod yX1_daysIn, Cond.selects RX1 yX1_daysIn yX1_daysIn, Cond.code yX1_daysIn cX1_daysIn 10 (some .int), Cond.methodLink RX1 111 Lib.Math.min.name, Cond.methodLink RX1 108 yX1_nextChange, Cond.instanceMethod yX1_nextChange, Cond.selects RX1 yX1_nextChange yX1_nextChange, Cond.code yX1_nextChange cX1_nextChange 6 (some .int), Cond.constant RX1 9 (1000000), Cond.methodLink RX1 116 yX1_nearer, Cond.static yX1_nearer, Cond.code yX1_nearer cX1_nearer 3 (some .int), Cond.methodLink RX1 120 yX9_nextTold, Cond.instanceMethod yX9_nextTold, Cond.selects RX9 yX9_nextTold yX9_nextTold, Cond.code yX9_nextTold cX9_nextTold 5 (some .int), Cond.constant RX9 9 (1000000), Cond.methodLink RX1 123 yX5_nextPresume, Cond.instanceMethod yX5_nextPresume, Cond.selects RX5 yX5_nextPresume yX5_nextPresume]
def wsX10_check_r6 : List Cond := [Cond.code yX5_nextPresume cX5_nextPresume 4 (some .int), Cond.constant RX5 33 (1000000), Cond.methodLink RX10 421 yX1_notePaid, Cond.instanceMethod yX1_notePaid, Cond.selects RX1 yX1_notePaid yX1_notePaid, Cond.code yX1_notePaid cX1_notePaid 4 (some .int), Cond.fieldLink RX1 127 "ShipOffice$Agreement" "note" "I", Cond.fieldLink RX1 130 "ShipOffice$Voyage" "sailedDay" "I", Cond.methodLink RX10 424 yX1_allotmentsPaid, Cond.instanceMethod yX1_allotmentsPaid, Cond.selects RX1 yX1_allotmentsPaid yX1_allotmentsPaid, Cond.code yX1_allotmentsPaid cX1_allotmentsPaid 6 (some .int), Cond.fieldLink RX1 133 "ShipOffice$Agreement" "allotment" "I", Cond.methodLink RX10 280 yX10_standing, Cond.instanceMethod yX10_standing, Cond.selects RX10 yX10_standing yX10_standing, Cond.code yX10_standing cX10_standing 5 (some .int), Cond.fieldLink RX10 418 "ShipOffice$Fine" "sum" "I", Cond.fieldLink RX10 274 "ShipOffice$Fine" "isRead" "Z", Cond.methodLink RX10 249 yX10_worthFor, Cond.instanceMethod yX10_worthFor, Cond.selects RX10 yX10_worthFor yX10_worthFor, Cond.code yX10_worthFor cX10_worthFor 8 (some .int), Cond.fieldLink RX10 59 "ShipOffice" "letters" "[I"]
def wsX10_check_r7 : List Cond := [Cond.fieldLink RX10 226 "ShipOffice$Agreement" "rank" "I", Cond.fieldLink RX10 299 "ShipOffice$Agreement" "man" "LShipOffice$Man;", Cond.methodLink RX10 400 yX5_inForce, Cond.methodLink RX10 397 yX6_yearsOn, Cond.instanceMethod yX6_yearsOn, Cond.selects RX6 yX6_yearsOn yX6_yearsOn, Cond.initialized RX6, Cond.code yX6_yearsOn cX6_yearsOn 2 (some .int), Cond.fieldLink RX6 25 "ShipOffice$Man" "born" "I", Cond.methodLink RX10 408 yX0_uses, Cond.instanceMethod yX0_uses, Cond.selects RX0 yX0_uses yX0_uses, Cond.initialized RX0, Cond.code yX0_uses cX0_uses 6 (some .boolean), Cond.fieldLink RX0 16 "ShipOffice$Act" "code" "[I", Cond.methodLink RX10 411 yX1_daysIn, Cond.methodLink RX10 307 yX10_menAboard, Cond.instanceMethod yX10_menAboard, Cond.selects RX10 yX10_menAboard yX10_menAboard, Cond.code yX10_menAboard cX10_menAboard 6 (some .int), Cond.methodLink RX10 233 yX1_stateOn, Cond.methodLink RX10 415 yX9_daysUnheard, Cond.instanceMethod yX9_daysUnheard, Cond.selects RX9 yX9_daysUnheard yX9_daysUnheard]
def wsX10_check_r8 : List Cond := [Cond.code yX9_daysUnheard cX9_daysUnheard 4 (some .int), Cond.methodLink RX9 56 yX9_lastHeard, Cond.methodLink RX10 404 yX0_worth, Cond.instanceMethod yX0_worth, Cond.selects RX0 yX0_worth yX0_worth, Cond.code yX0_worth cX0_worth 8 (some .int), Cond.fieldLink RX0 20 "ShipOffice$Act" "stack" "[I", Cond.methodLink RX0 36 yX0_joined, Cond.static yX0_joined, Cond.code yX0_joined cX0_joined 5 (some .int), Cond.methodLink RX0 40 yX0_held, Cond.static yX0_held, Cond.code yX0_held cX0_held 2 (some .int), Cond.constantLong RX0 44 (1000000000), Cond.constant RX0 46 (1000000000), Cond.constantLong RX0 47 (-1000000000), Cond.constant RX0 49 (-1000000000), Cond.methodLink RX10 427 yX1_shortPence, Cond.instanceMethod yX1_shortPence, Cond.selects RX1 yX1_shortPence yX1_shortPence, Cond.code yX1_shortPence cX1_shortPence 4 (some .int), Cond.fieldLink RX1 136 "ShipOffice$Agreement" "shortCount" "I", Cond.fieldLink RX1 22 "ShipOffice$Agreement" "shortTold" "[I", Cond.fieldLink RX1 26 "ShipOffice$Agreement" "shortSum" "[I"]
def wsX10_check_r9 : List Cond := [Cond.methodLink RX10 322 yX1_leavingOn, Cond.instanceMethod yX1_leavingOn, Cond.selects RX1 yX1_leavingOn yX1_leavingOn, Cond.code yX1_leavingOn cX1_leavingOn 4 (some (.object "ShipOffice$Happening"))]
def wsX10_check : List Cond := .code yX10_check cX10_check 9 (some .int) :: ((wsX10_check_r1 ++ (wsX10_check_r2 ++ (wsX10_check_r3 ++ (wsX10_check_r4 ++ (wsX10_check_r5 ++ (wsX10_check_r6 ++ (wsX10_check_r7 ++ (wsX10_check_r8 ++ wsX10_check_r9)))))))) ++ wsX100 ++ wsX10 ++ wsX20 ++ wsX30 ++ wsX00 ++ wsX90 ++ wsX50 ++ wsX60)
set_option maxRecDepth 20000 in
theorem ggX10_ended_X10_voyageAt : GoodIn wsX10_ended wsX10_voyageAt := goodIn_r _ [13, 14, 15, 44, 45, 46, 47, 48, 49, 50, 51, 52, 53, 54, 55, 56, 57, 58, 59] (by decide +kernel) (by decide +kernel)
set_option maxRecDepth 20000 in
theorem gX10_ended_X10_voyageAt : GoodIn wsX10_ended (wsV RX10 103 RX10 yX10_voyageAt wsX10_voyageAt) := goodIn_app (goodIn_of _ (by decide +kernel)) ggX10_ended_X10_voyageAt
set_option maxRecDepth 20000 in
theorem ggX10_ended_X10_refuse : GoodIn wsX10_ended wsX10_refuse := goodIn_r _ [22, 23, 44, 45, 46, 47, 48, 49, 50, 51, 52, 53, 54, 55, 56, 57, 58, 59] (by decide +kernel) (by decide +kernel)
set_option maxRecDepth 20000 in
theorem gX10_ended_X10_refuse : GoodIn wsX10_ended (wsV RX10 69 RX10 yX10_refuse wsX10_refuse) := goodIn_app (goodIn_of _ (by decide +kernel)) ggX10_ended_X10_refuse
theorem dX10_ended_0 : decode cX10_ended 0 = .ok (.aload_n 0, 1) := by decide +kernel
theorem dX10_ended_1 : decode cX10_ended 1 = .ok (.iload_n 1, 1) := by decide +kernel
theorem dX10_ended_2 : decode cX10_ended 2 = .ok (.invokevirtual 103, 3) := by decide +kernel
theorem dX10_ended_5 : decode cX10_ended 5 = .ok (.astore_n 3, 1) := by decide +kernel
theorem dX10_ended_6 : decode cX10_ended 6 = .ok (.aload_n 3, 1) := by decide +kernel
theorem dX10_ended_7 : decode cX10_ended 7 = .ok (.ifnull 10, 3) := by decide +kernel
theorem dX10_ended_17 : decode cX10_ended 17 = .ok (.aload_n 0, 1) := by decide +kernel
theorem dX10_ended_18 : decode cX10_ended 18 = .ok (.iconst (-1), 1) := by decide +kernel
theorem dX10_ended_19 : decode cX10_ended 19 = .ok (.invokevirtual 69, 3) := by decide +kernel
theorem dX10_ended_22 : decode cX10_ended 22 = .ok (.ireturn, 1) := by decide +kernel
set_option maxRecDepth 20000 in
theorem ggX10_sailed_X10_voyageAt : GoodIn wsX10_sailed wsX10_voyageAt := goodIn_r _ [10, 11, 12, 34, 35, 36, 37, 38, 39, 40, 41, 42, 43, 44, 45, 46, 47, 48, 49] (by decide +kernel) (by decide +kernel)
set_option maxRecDepth 20000 in
theorem gX10_sailed_X10_voyageAt : GoodIn wsX10_sailed (wsV RX10 103 RX10 yX10_voyageAt wsX10_voyageAt) := goodIn_app (goodIn_of _ (by decide +kernel)) ggX10_sailed_X10_voyageAt
set_option maxRecDepth 20000 in
theorem ggX10_sailed_X10_refuse : GoodIn wsX10_sailed wsX10_refuse := goodIn_r _ [16, 17, 34, 35, 36, 37, 38, 39, 40, 41, 42, 43, 44, 45, 46, 47, 48, 49] (by decide +kernel) (by decide +kernel)
set_option maxRecDepth 20000 in
theorem gX10_sailed_X10_refuse : GoodIn wsX10_sailed (wsV RX10 69 RX10 yX10_refuse wsX10_refuse) := goodIn_app (goodIn_of _ (by decide +kernel)) ggX10_sailed_X10_refuse
theorem dX10_sailed_0 : decode cX10_sailed 0 = .ok (.aload_n 0, 1) := by decide +kernel
theorem dX10_sailed_1 : decode cX10_sailed 1 = .ok (.iload_n 1, 1) := by decide +kernel
theorem dX10_sailed_2 : decode cX10_sailed 2 = .ok (.invokevirtual 103, 3) := by decide +kernel
theorem dX10_sailed_5 : decode cX10_sailed 5 = .ok (.astore_n 3, 1) := by decide +kernel
theorem dX10_sailed_6 : decode cX10_sailed 6 = .ok (.aload_n 3, 1) := by decide +kernel
theorem dX10_sailed_7 : decode cX10_sailed 7 = .ok (.ifnonnull 9, 3) := by decide +kernel
theorem dX10_sailed_10 : decode cX10_sailed 10 = .ok (.aload_n 0, 1) := by decide +kernel
theorem dX10_sailed_11 : decode cX10_sailed 11 = .ok (.iconst (-1), 1) := by decide +kernel
theorem dX10_sailed_12 : decode cX10_sailed 12 = .ok (.invokevirtual 69, 3) := by decide +kernel
theorem dX10_sailed_15 : decode cX10_sailed 15 = .ok (.ireturn, 1) := by decide +kernel
set_option maxRecDepth 20000 in
theorem ggX10_heard_X10_voyageAt : GoodIn wsX10_heard wsX10_voyageAt := goodIn_r _ [11, 12, 13, 43, 44, 45, 46, 47, 48, 49, 50, 51, 52, 53, 54, 55, 56, 57, 58] (by decide +kernel) (by decide +kernel)
set_option maxRecDepth 20000 in
theorem gX10_heard_X10_voyageAt : GoodIn wsX10_heard (wsV RX10 103 RX10 yX10_voyageAt wsX10_voyageAt) := goodIn_app (goodIn_of _ (by decide +kernel)) ggX10_heard_X10_voyageAt
set_option maxRecDepth 20000 in
theorem ggX10_heard_X10_refuse : GoodIn wsX10_heard wsX10_refuse := goodIn_r _ [17, 18, 43, 44, 45, 46, 47, 48, 49, 50, 51, 52, 53, 54, 55, 56, 57, 58] (by decide +kernel) (by decide +kernel)
set_option maxRecDepth 20000 in
theorem gX10_heard_X10_refuse : GoodIn wsX10_heard (wsV RX10 69 RX10 yX10_refuse wsX10_refuse) := goodIn_app (goodIn_of _ (by decide +kernel)) ggX10_heard_X10_refuse
theorem dX10_heard_0 : decode cX10_heard 0 = .ok (.aload_n 0, 1) := by decide +kernel
theorem dX10_heard_1 : decode cX10_heard 1 = .ok (.iload_n 1, 1) := by decide +kernel
theorem dX10_heard_2 : decode cX10_heard 2 = .ok (.invokevirtual 103, 3) := by decide +kernel
theorem dX10_heard_5 : decode cX10_heard 5 = .ok (.astore_n 3, 1) := by decide +kernel
theorem dX10_heard_6 : decode cX10_heard 6 = .ok (.aload_n 3, 1) := by decide +kernel
theorem dX10_heard_7 : decode cX10_heard 7 = .ok (.ifnonnull 9, 3) := by decide +kernel
theorem dX10_heard_10 : decode cX10_heard 10 = .ok (.aload_n 0, 1) := by decide +kernel
theorem dX10_heard_11 : decode cX10_heard 11 = .ok (.iconst (-1), 1) := by decide +kernel
theorem dX10_heard_12 : decode cX10_heard 12 = .ok (.invokevirtual 69, 3) := by decide +kernel
theorem dX10_heard_15 : decode cX10_heard 15 = .ok (.ireturn, 1) := by decide +kernel
set_option maxRecDepth 20000 in
theorem ggX10_lost_X10_voyageAt : GoodIn wsX10_lost wsX10_voyageAt := goodIn_r _ [10, 11, 12, 34, 35, 36, 37, 38, 39, 40, 41, 42, 43, 44, 45, 46, 47, 48, 49] (by decide +kernel) (by decide +kernel)
set_option maxRecDepth 20000 in
theorem gX10_lost_X10_voyageAt : GoodIn wsX10_lost (wsV RX10 103 RX10 yX10_voyageAt wsX10_voyageAt) := goodIn_app (goodIn_of _ (by decide +kernel)) ggX10_lost_X10_voyageAt
set_option maxRecDepth 20000 in
theorem ggX10_lost_X10_refuse : GoodIn wsX10_lost wsX10_refuse := goodIn_r _ [16, 17, 34, 35, 36, 37, 38, 39, 40, 41, 42, 43, 44, 45, 46, 47, 48, 49] (by decide +kernel) (by decide +kernel)
set_option maxRecDepth 20000 in
theorem gX10_lost_X10_refuse : GoodIn wsX10_lost (wsV RX10 69 RX10 yX10_refuse wsX10_refuse) := goodIn_app (goodIn_of _ (by decide +kernel)) ggX10_lost_X10_refuse
theorem dX10_lost_0 : decode cX10_lost 0 = .ok (.aload_n 0, 1) := by decide +kernel
theorem dX10_lost_1 : decode cX10_lost 1 = .ok (.iload_n 1, 1) := by decide +kernel
theorem dX10_lost_2 : decode cX10_lost 2 = .ok (.invokevirtual 103, 3) := by decide +kernel
theorem dX10_lost_5 : decode cX10_lost 5 = .ok (.astore_n 3, 1) := by decide +kernel
theorem dX10_lost_6 : decode cX10_lost 6 = .ok (.aload_n 3, 1) := by decide +kernel
theorem dX10_lost_7 : decode cX10_lost 7 = .ok (.ifnonnull 9, 3) := by decide +kernel
theorem dX10_lost_10 : decode cX10_lost 10 = .ok (.aload_n 0, 1) := by decide +kernel
theorem dX10_lost_11 : decode cX10_lost 11 = .ok (.iconst (-1), 1) := by decide +kernel
theorem dX10_lost_12 : decode cX10_lost 12 = .ok (.invokevirtual 69, 3) := by decide +kernel
theorem dX10_lost_15 : decode cX10_lost 15 = .ok (.ireturn, 1) := by decide +kernel
set_option maxRecDepth 20000 in
theorem ggX10_left_X10_agreementAt : GoodIn wsX10_left wsX10_agreementAt := goodIn_r _ [5, 6, 7, 45, 46, 47, 48, 49, 50, 51, 52, 53, 54, 55, 56, 57, 58, 59, 60] (by decide +kernel) (by decide +kernel)
set_option maxRecDepth 20000 in
theorem gX10_left_X10_agreementAt : GoodIn wsX10_left (wsV RX10 154 RX10 yX10_agreementAt wsX10_agreementAt) := goodIn_app (goodIn_of _ (by decide +kernel)) ggX10_left_X10_agreementAt
set_option maxRecDepth 20000 in
theorem ggX10_left_X10_refuse : GoodIn wsX10_left wsX10_refuse := goodIn_r _ [14, 15, 45, 46, 47, 48, 49, 50, 51, 52, 53, 54, 55, 56, 57, 58, 59, 60] (by decide +kernel) (by decide +kernel)
set_option maxRecDepth 20000 in
theorem gX10_left_X10_refuse : GoodIn wsX10_left (wsV RX10 69 RX10 yX10_refuse wsX10_refuse) := goodIn_app (goodIn_of _ (by decide +kernel)) ggX10_left_X10_refuse
theorem dX10_left_0 : decode cX10_left 0 = .ok (.aload_n 0, 1) := by decide +kernel
theorem dX10_left_1 : decode cX10_left 1 = .ok (.iload_n 1, 1) := by decide +kernel
theorem dX10_left_2 : decode cX10_left 2 = .ok (.invokevirtual 154, 3) := by decide +kernel
theorem dX10_left_5 : decode cX10_left 5 = .ok (.astore 5, 2) := by decide +kernel
theorem dX10_left_7 : decode cX10_left 7 = .ok (.aload 5, 2) := by decide +kernel
theorem dX10_left_9 : decode cX10_left 9 = .ok (.ifnull 11, 3) := by decide +kernel
theorem dX10_left_20 : decode cX10_left 20 = .ok (.aload_n 0, 1) := by decide +kernel
theorem dX10_left_21 : decode cX10_left 21 = .ok (.iconst (-1), 1) := by decide +kernel
theorem dX10_left_22 : decode cX10_left 22 = .ok (.invokevirtual 69, 3) := by decide +kernel
theorem dX10_left_25 : decode cX10_left 25 = .ok (.ireturn, 1) := by decide +kernel
set_option maxRecDepth 20000 in
theorem ggX10_died_X10_agreementAt : GoodIn wsX10_died wsX10_agreementAt := goodIn_r _ [6, 7, 8, 61, 62, 63, 64, 65, 66, 67, 68, 69, 70, 71, 72, 73, 74, 75, 76] (by decide +kernel) (by decide +kernel)
set_option maxRecDepth 20000 in
theorem gX10_died_X10_agreementAt : GoodIn wsX10_died (wsV RX10 154 RX10 yX10_agreementAt wsX10_agreementAt) := goodIn_app (goodIn_of _ (by decide +kernel)) ggX10_died_X10_agreementAt
set_option maxRecDepth 20000 in
theorem ggX10_died_X10_refuse : GoodIn wsX10_died wsX10_refuse := goodIn_r _ [12, 13, 61, 62, 63, 64, 65, 66, 67, 68, 69, 70, 71, 72, 73, 74, 75, 76] (by decide +kernel) (by decide +kernel)
set_option maxRecDepth 20000 in
theorem gX10_died_X10_refuse : GoodIn wsX10_died (wsV RX10 69 RX10 yX10_refuse wsX10_refuse) := goodIn_app (goodIn_of _ (by decide +kernel)) ggX10_died_X10_refuse
theorem dX10_died_0 : decode cX10_died 0 = .ok (.aload_n 0, 1) := by decide +kernel
theorem dX10_died_1 : decode cX10_died 1 = .ok (.iload_n 1, 1) := by decide +kernel
theorem dX10_died_2 : decode cX10_died 2 = .ok (.invokevirtual 154, 3) := by decide +kernel
theorem dX10_died_5 : decode cX10_died 5 = .ok (.astore_n 3, 1) := by decide +kernel
theorem dX10_died_6 : decode cX10_died 6 = .ok (.aload_n 3, 1) := by decide +kernel
theorem dX10_died_7 : decode cX10_died 7 = .ok (.ifnonnull 9, 3) := by decide +kernel
theorem dX10_died_10 : decode cX10_died 10 = .ok (.aload_n 0, 1) := by decide +kernel
theorem dX10_died_11 : decode cX10_died 11 = .ok (.iconst (-1), 1) := by decide +kernel
theorem dX10_died_12 : decode cX10_died 12 = .ok (.invokevirtual 69, 3) := by decide +kernel
theorem dX10_died_15 : decode cX10_died 15 = .ok (.ireturn, 1) := by decide +kernel
set_option maxRecDepth 20000 in
theorem ggX10_back_X10_agreementAt : GoodIn wsX10_back wsX10_agreementAt := goodIn_r _ [5, 6, 7, 42, 43, 44, 45, 46, 47, 48, 49, 50, 51, 52, 53, 54, 55, 56, 57] (by decide +kernel) (by decide +kernel)
set_option maxRecDepth 20000 in
theorem gX10_back_X10_agreementAt : GoodIn wsX10_back (wsV RX10 154 RX10 yX10_agreementAt wsX10_agreementAt) := goodIn_app (goodIn_of _ (by decide +kernel)) ggX10_back_X10_agreementAt
set_option maxRecDepth 20000 in
theorem ggX10_back_X10_refuse : GoodIn wsX10_back wsX10_refuse := goodIn_r _ [11, 12, 42, 43, 44, 45, 46, 47, 48, 49, 50, 51, 52, 53, 54, 55, 56, 57] (by decide +kernel) (by decide +kernel)
set_option maxRecDepth 20000 in
theorem gX10_back_X10_refuse : GoodIn wsX10_back (wsV RX10 69 RX10 yX10_refuse wsX10_refuse) := goodIn_app (goodIn_of _ (by decide +kernel)) ggX10_back_X10_refuse
theorem dX10_back_0 : decode cX10_back 0 = .ok (.aload_n 0, 1) := by decide +kernel
theorem dX10_back_1 : decode cX10_back 1 = .ok (.iload_n 1, 1) := by decide +kernel
theorem dX10_back_2 : decode cX10_back 2 = .ok (.invokevirtual 154, 3) := by decide +kernel
theorem dX10_back_5 : decode cX10_back 5 = .ok (.astore_n 3, 1) := by decide +kernel
theorem dX10_back_6 : decode cX10_back 6 = .ok (.aload_n 3, 1) := by decide +kernel
theorem dX10_back_7 : decode cX10_back 7 = .ok (.ifnonnull 9, 3) := by decide +kernel
theorem dX10_back_10 : decode cX10_back 10 = .ok (.aload_n 0, 1) := by decide +kernel
theorem dX10_back_11 : decode cX10_back 11 = .ok (.iconst (-1), 1) := by decide +kernel
theorem dX10_back_12 : decode cX10_back 12 = .ok (.invokevirtual 69, 3) := by decide +kernel
theorem dX10_back_15 : decode cX10_back 15 = .ok (.ireturn, 1) := by decide +kernel
set_option maxRecDepth 20000 in
theorem ggX10_sign_X10_manAt : GoodIn wsX10_sign wsX10_manAt := goodIn_r _ [15, 16, 17, 113, 114, 115, 116, 117, 118, 119, 120, 121, 122, 123, 124, 125, 126, 127, 128] (by decide +kernel) (by decide +kernel)
set_option maxRecDepth 20000 in
theorem gX10_sign_X10_manAt : GoodIn wsX10_sign (wsV RX10 205 RX10 yX10_manAt wsX10_manAt) := goodIn_app (goodIn_of _ (by decide +kernel)) ggX10_sign_X10_manAt
set_option maxRecDepth 20000 in
theorem ggX10_sign_X10_voyageAt : GoodIn wsX10_sign wsX10_voyageAt := goodIn_r _ [21, 22, 23, 113, 114, 115, 116, 117, 118, 119, 120, 121, 122, 123, 124, 125, 126, 127, 128] (by decide +kernel) (by decide +kernel)
set_option maxRecDepth 20000 in
theorem gX10_sign_X10_voyageAt : GoodIn wsX10_sign (wsV RX10 103 RX10 yX10_voyageAt wsX10_voyageAt) := goodIn_app (goodIn_of _ (by decide +kernel)) ggX10_sign_X10_voyageAt
set_option maxRecDepth 20000 in
theorem ggX10_sign_X10_agreementAt : GoodIn wsX10_sign wsX10_agreementAt := goodIn_r _ [27, 1, 10, 113, 114, 115, 116, 117, 118, 119, 120, 121, 122, 123, 124, 125, 126, 127, 128] (by decide +kernel) (by decide +kernel)
set_option maxRecDepth 20000 in
theorem gX10_sign_X10_agreementAt : GoodIn wsX10_sign (wsV RX10 154 RX10 yX10_agreementAt wsX10_agreementAt) := goodIn_app (goodIn_of _ (by decide +kernel)) ggX10_sign_X10_agreementAt
set_option maxRecDepth 20000 in
theorem ggX10_sign_X10_refuse : GoodIn wsX10_sign wsX10_refuse := goodIn_r _ [31, 32, 113, 114, 115, 116, 117, 118, 119, 120, 121, 122, 123, 124, 125, 126, 127, 128] (by decide +kernel) (by decide +kernel)
set_option maxRecDepth 20000 in
theorem gX10_sign_X10_refuse : GoodIn wsX10_sign (wsV RX10 69 RX10 yX10_refuse wsX10_refuse) := goodIn_app (goodIn_of _ (by decide +kernel)) ggX10_sign_X10_refuse
theorem dX10_sign_0 : decode cX10_sign 0 = .ok (.aload_n 0, 1) := by decide +kernel
theorem dX10_sign_1 : decode cX10_sign 1 = .ok (.iload_n 1, 1) := by decide +kernel
theorem dX10_sign_2 : decode cX10_sign 2 = .ok (.invokevirtual 205, 3) := by decide +kernel
theorem dX10_sign_5 : decode cX10_sign 5 = .ok (.astore 6, 2) := by decide +kernel
theorem dX10_sign_7 : decode cX10_sign 7 = .ok (.aload_n 0, 1) := by decide +kernel
theorem dX10_sign_8 : decode cX10_sign 8 = .ok (.iload_n 2, 1) := by decide +kernel
theorem dX10_sign_9 : decode cX10_sign 9 = .ok (.invokevirtual 103, 3) := by decide +kernel
theorem dX10_sign_12 : decode cX10_sign 12 = .ok (.astore 7, 2) := by decide +kernel
theorem dX10_sign_14 : decode cX10_sign 14 = .ok (.aload_n 0, 1) := by decide +kernel
theorem dX10_sign_15 : decode cX10_sign 15 = .ok (.iload 5, 2) := by decide +kernel
theorem dX10_sign_17 : decode cX10_sign 17 = .ok (.invokevirtual 154, 3) := by decide +kernel
theorem dX10_sign_20 : decode cX10_sign 20 = .ok (.astore 8, 2) := by decide +kernel
theorem dX10_sign_22 : decode cX10_sign 22 = .ok (.aload 6, 2) := by decide +kernel
theorem dX10_sign_24 : decode cX10_sign 24 = .ok (.ifnull 19, 3) := by decide +kernel
theorem dX10_sign_43 : decode cX10_sign 43 = .ok (.aload_n 0, 1) := by decide +kernel
theorem dX10_sign_44 : decode cX10_sign 44 = .ok (.iconst (-1), 1) := by decide +kernel
theorem dX10_sign_45 : decode cX10_sign 45 = .ok (.invokevirtual 69, 3) := by decide +kernel
theorem dX10_sign_48 : decode cX10_sign 48 = .ok (.ireturn, 1) := by decide +kernel
set_option maxRecDepth 20000 in
theorem ggX10_off_X10_agreementAt : GoodIn wsX10_off wsX10_agreementAt := goodIn_r _ [7, 8, 9, 28, 29, 30, 31, 32, 33, 34, 35, 36, 37, 38, 39, 40, 41, 42, 43] (by decide +kernel) (by decide +kernel)
set_option maxRecDepth 20000 in
theorem gX10_off_X10_agreementAt : GoodIn wsX10_off (wsV RX10 154 RX10 yX10_agreementAt wsX10_agreementAt) := goodIn_app (goodIn_of _ (by decide +kernel)) ggX10_off_X10_agreementAt
set_option maxRecDepth 20000 in
theorem ggX10_off_X10_refuse : GoodIn wsX10_off wsX10_refuse := goodIn_r _ [16, 17, 28, 29, 30, 31, 32, 33, 34, 35, 36, 37, 38, 39, 40, 41, 42, 43] (by decide +kernel) (by decide +kernel)
set_option maxRecDepth 20000 in
theorem gX10_off_X10_refuse : GoodIn wsX10_off (wsV RX10 69 RX10 yX10_refuse wsX10_refuse) := goodIn_app (goodIn_of _ (by decide +kernel)) ggX10_off_X10_refuse
theorem dX10_off_0 : decode cX10_off 0 = .ok (.aload_n 0, 1) := by decide +kernel
theorem dX10_off_1 : decode cX10_off 1 = .ok (.iload_n 1, 1) := by decide +kernel
theorem dX10_off_2 : decode cX10_off 2 = .ok (.invokevirtual 154, 3) := by decide +kernel
theorem dX10_off_5 : decode cX10_off 5 = .ok (.astore_n 3, 1) := by decide +kernel
theorem dX10_off_6 : decode cX10_off 6 = .ok (.aload_n 3, 1) := by decide +kernel
theorem dX10_off_7 : decode cX10_off 7 = .ok (.ifnull 10, 3) := by decide +kernel
theorem dX10_off_17 : decode cX10_off 17 = .ok (.aload_n 0, 1) := by decide +kernel
theorem dX10_off_18 : decode cX10_off 18 = .ok (.iconst (-1), 1) := by decide +kernel
theorem dX10_off_19 : decode cX10_off 19 = .ok (.invokevirtual 69, 3) := by decide +kernel
theorem dX10_off_22 : decode cX10_off 22 = .ok (.ireturn, 1) := by decide +kernel
set_option maxRecDepth 20000 in
theorem ggX10_state_X10_agreementAt : GoodIn wsX10_state wsX10_agreementAt := goodIn_r _ [6, 7, 8, 73, 74, 75, 76, 77, 78, 79, 80, 81, 82, 83, 84, 85, 86, 87, 88] (by decide +kernel) (by decide +kernel)
set_option maxRecDepth 20000 in
theorem gX10_state_X10_agreementAt : GoodIn wsX10_state (wsV RX10 154 RX10 yX10_agreementAt wsX10_agreementAt) := goodIn_app (goodIn_of _ (by decide +kernel)) ggX10_state_X10_agreementAt
set_option maxRecDepth 20000 in
theorem ggX10_state_X10_refuse : GoodIn wsX10_state wsX10_refuse := goodIn_r _ [12, 13, 73, 74, 75, 76, 77, 78, 79, 80, 81, 82, 83, 84, 85, 86, 87, 88] (by decide +kernel) (by decide +kernel)
set_option maxRecDepth 20000 in
theorem gX10_state_X10_refuse : GoodIn wsX10_state (wsV RX10 69 RX10 yX10_refuse wsX10_refuse) := goodIn_app (goodIn_of _ (by decide +kernel)) ggX10_state_X10_refuse
theorem dX10_state_0 : decode cX10_state 0 = .ok (.aload_n 0, 1) := by decide +kernel
theorem dX10_state_1 : decode cX10_state 1 = .ok (.iload_n 1, 1) := by decide +kernel
theorem dX10_state_2 : decode cX10_state 2 = .ok (.invokevirtual 154, 3) := by decide +kernel
theorem dX10_state_5 : decode cX10_state 5 = .ok (.astore 4, 2) := by decide +kernel
theorem dX10_state_7 : decode cX10_state 7 = .ok (.aload 4, 2) := by decide +kernel
theorem dX10_state_9 : decode cX10_state 9 = .ok (.ifnonnull 9, 3) := by decide +kernel
theorem dX10_state_12 : decode cX10_state 12 = .ok (.aload_n 0, 1) := by decide +kernel
theorem dX10_state_13 : decode cX10_state 13 = .ok (.iconst (-1), 1) := by decide +kernel
theorem dX10_state_14 : decode cX10_state 14 = .ok (.invokevirtual 69, 3) := by decide +kernel
theorem dX10_state_17 : decode cX10_state 17 = .ok (.ireturn, 1) := by decide +kernel
set_option maxRecDepth 20000 in
theorem ggX10_earns_X10_agreementAt : GoodIn wsX10_earns wsX10_agreementAt := goodIn_r _ [6, 7, 8, 103, 104, 105, 106, 107, 108, 109, 110, 111, 112, 113, 114, 115, 116, 117, 118] (by decide +kernel) (by decide +kernel)
set_option maxRecDepth 20000 in
theorem gX10_earns_X10_agreementAt : GoodIn wsX10_earns (wsV RX10 154 RX10 yX10_agreementAt wsX10_agreementAt) := goodIn_app (goodIn_of _ (by decide +kernel)) ggX10_earns_X10_agreementAt
set_option maxRecDepth 20000 in
theorem ggX10_earns_X10_refuse : GoodIn wsX10_earns wsX10_refuse := goodIn_r _ [12, 13, 103, 104, 105, 106, 107, 108, 109, 110, 111, 112, 113, 114, 115, 116, 117, 118] (by decide +kernel) (by decide +kernel)
set_option maxRecDepth 20000 in
theorem gX10_earns_X10_refuse : GoodIn wsX10_earns (wsV RX10 69 RX10 yX10_refuse wsX10_refuse) := goodIn_app (goodIn_of _ (by decide +kernel)) ggX10_earns_X10_refuse
theorem dX10_earns_0 : decode cX10_earns 0 = .ok (.aload_n 0, 1) := by decide +kernel
theorem dX10_earns_1 : decode cX10_earns 1 = .ok (.iload_n 1, 1) := by decide +kernel
theorem dX10_earns_2 : decode cX10_earns 2 = .ok (.invokevirtual 154, 3) := by decide +kernel
theorem dX10_earns_5 : decode cX10_earns 5 = .ok (.astore 4, 2) := by decide +kernel
theorem dX10_earns_7 : decode cX10_earns 7 = .ok (.aload 4, 2) := by decide +kernel
theorem dX10_earns_9 : decode cX10_earns 9 = .ok (.ifnonnull 9, 3) := by decide +kernel
theorem dX10_earns_12 : decode cX10_earns 12 = .ok (.aload_n 0, 1) := by decide +kernel
theorem dX10_earns_13 : decode cX10_earns 13 = .ok (.iconst (-1), 1) := by decide +kernel
theorem dX10_earns_14 : decode cX10_earns 14 = .ok (.invokevirtual 69, 3) := by decide +kernel
theorem dX10_earns_17 : decode cX10_earns 17 = .ok (.ireturn, 1) := by decide +kernel
set_option maxRecDepth 20000 in
theorem ggX10_advance_X10_agreementAt : GoodIn wsX10_advance wsX10_agreementAt := goodIn_r _ [9, 10, 11, 89, 90, 91, 92, 93, 94, 95, 96, 97, 98, 99, 100, 101, 102, 103, 104] (by decide +kernel) (by decide +kernel)
set_option maxRecDepth 20000 in
theorem gX10_advance_X10_agreementAt : GoodIn wsX10_advance (wsV RX10 154 RX10 yX10_agreementAt wsX10_agreementAt) := goodIn_app (goodIn_of _ (by decide +kernel)) ggX10_advance_X10_agreementAt
set_option maxRecDepth 20000 in
theorem ggX10_advance_X10_refuse : GoodIn wsX10_advance wsX10_refuse := goodIn_r _ [15, 16, 89, 90, 91, 92, 93, 94, 95, 96, 97, 98, 99, 100, 101, 102, 103, 104] (by decide +kernel) (by decide +kernel)
set_option maxRecDepth 20000 in
theorem gX10_advance_X10_refuse : GoodIn wsX10_advance (wsV RX10 69 RX10 yX10_refuse wsX10_refuse) := goodIn_app (goodIn_of _ (by decide +kernel)) ggX10_advance_X10_refuse
theorem dX10_advance_0 : decode cX10_advance 0 = .ok (.aload_n 0, 1) := by decide +kernel
theorem dX10_advance_1 : decode cX10_advance 1 = .ok (.iload_n 1, 1) := by decide +kernel
theorem dX10_advance_2 : decode cX10_advance 2 = .ok (.invokevirtual 154, 3) := by decide +kernel
theorem dX10_advance_5 : decode cX10_advance 5 = .ok (.astore_n 3, 1) := by decide +kernel
theorem dX10_advance_6 : decode cX10_advance 6 = .ok (.aload_n 3, 1) := by decide +kernel
theorem dX10_advance_7 : decode cX10_advance 7 = .ok (.ifnonnull 9, 3) := by decide +kernel
theorem dX10_advance_10 : decode cX10_advance 10 = .ok (.aload_n 0, 1) := by decide +kernel
theorem dX10_advance_11 : decode cX10_advance 11 = .ok (.iconst (-1), 1) := by decide +kernel
theorem dX10_advance_12 : decode cX10_advance 12 = .ok (.invokevirtual 69, 3) := by decide +kernel
theorem dX10_advance_15 : decode cX10_advance 15 = .ok (.ireturn, 1) := by decide +kernel
set_option maxRecDepth 20000 in
theorem ggX10_sold_X10_agreementAt : GoodIn wsX10_sold wsX10_agreementAt := goodIn_r _ [7, 8, 9, 33, 34, 35, 36, 37, 38, 39, 40, 41, 42, 43, 44, 45, 46, 47, 48] (by decide +kernel) (by decide +kernel)
set_option maxRecDepth 20000 in
theorem gX10_sold_X10_agreementAt : GoodIn wsX10_sold (wsV RX10 154 RX10 yX10_agreementAt wsX10_agreementAt) := goodIn_app (goodIn_of _ (by decide +kernel)) ggX10_sold_X10_agreementAt
set_option maxRecDepth 20000 in
theorem ggX10_sold_X10_refuse : GoodIn wsX10_sold wsX10_refuse := goodIn_r _ [13, 14, 33, 34, 35, 36, 37, 38, 39, 40, 41, 42, 43, 44, 45, 46, 47, 48] (by decide +kernel) (by decide +kernel)
set_option maxRecDepth 20000 in
theorem gX10_sold_X10_refuse : GoodIn wsX10_sold (wsV RX10 69 RX10 yX10_refuse wsX10_refuse) := goodIn_app (goodIn_of _ (by decide +kernel)) ggX10_sold_X10_refuse
theorem dX10_sold_0 : decode cX10_sold 0 = .ok (.aload_n 0, 1) := by decide +kernel
theorem dX10_sold_1 : decode cX10_sold 1 = .ok (.iload_n 1, 1) := by decide +kernel
theorem dX10_sold_2 : decode cX10_sold 2 = .ok (.invokevirtual 154, 3) := by decide +kernel
theorem dX10_sold_5 : decode cX10_sold 5 = .ok (.astore_n 3, 1) := by decide +kernel
theorem dX10_sold_6 : decode cX10_sold 6 = .ok (.aload_n 3, 1) := by decide +kernel
theorem dX10_sold_7 : decode cX10_sold 7 = .ok (.ifnonnull 9, 3) := by decide +kernel
theorem dX10_sold_10 : decode cX10_sold 10 = .ok (.aload_n 0, 1) := by decide +kernel
theorem dX10_sold_11 : decode cX10_sold 11 = .ok (.iconst (-1), 1) := by decide +kernel
theorem dX10_sold_12 : decode cX10_sold 12 = .ok (.invokevirtual 69, 3) := by decide +kernel
theorem dX10_sold_15 : decode cX10_sold 15 = .ok (.ireturn, 1) := by decide +kernel
set_option maxRecDepth 20000 in
theorem ggX10_allot_X10_agreementAt : GoodIn wsX10_allot wsX10_agreementAt := goodIn_r _ [9, 10, 11, 167, 168, 169, 170, 171, 172, 173, 174, 175, 176, 177, 178, 179, 180, 181, 182] (by decide +kernel) (by decide +kernel)
set_option maxRecDepth 20000 in
theorem gX10_allot_X10_agreementAt : GoodIn wsX10_allot (wsV RX10 154 RX10 yX10_agreementAt wsX10_agreementAt) := goodIn_app (goodIn_of _ (by decide +kernel)) ggX10_allot_X10_agreementAt
set_option maxRecDepth 20000 in
theorem ggX10_allot_X10_refuse : GoodIn wsX10_allot wsX10_refuse := goodIn_r _ [15, 16, 167, 168, 169, 170, 171, 172, 173, 174, 175, 176, 177, 178, 179, 180, 181, 182] (by decide +kernel) (by decide +kernel)
set_option maxRecDepth 20000 in
theorem gX10_allot_X10_refuse : GoodIn wsX10_allot (wsV RX10 69 RX10 yX10_refuse wsX10_refuse) := goodIn_app (goodIn_of _ (by decide +kernel)) ggX10_allot_X10_refuse
theorem dX10_allot_0 : decode cX10_allot 0 = .ok (.aload_n 0, 1) := by decide +kernel
theorem dX10_allot_1 : decode cX10_allot 1 = .ok (.iload_n 1, 1) := by decide +kernel
theorem dX10_allot_2 : decode cX10_allot 2 = .ok (.invokevirtual 154, 3) := by decide +kernel
theorem dX10_allot_5 : decode cX10_allot 5 = .ok (.astore_n 3, 1) := by decide +kernel
theorem dX10_allot_6 : decode cX10_allot 6 = .ok (.aload_n 3, 1) := by decide +kernel
theorem dX10_allot_7 : decode cX10_allot 7 = .ok (.ifnonnull 9, 3) := by decide +kernel
theorem dX10_allot_10 : decode cX10_allot 10 = .ok (.aload_n 0, 1) := by decide +kernel
theorem dX10_allot_11 : decode cX10_allot 11 = .ok (.iconst (-1), 1) := by decide +kernel
theorem dX10_allot_12 : decode cX10_allot 12 = .ok (.invokevirtual 69, 3) := by decide +kernel
theorem dX10_allot_15 : decode cX10_allot 15 = .ok (.ireturn, 1) := by decide +kernel
set_option maxRecDepth 20000 in
theorem ggX10_fine_X10_agreementAt : GoodIn wsX10_fine wsX10_agreementAt := goodIn_r _ [14, 15, 16, 49, 50, 51, 52, 53, 54, 55, 56, 57, 58, 59, 60, 61, 62, 63, 64] (by decide +kernel) (by decide +kernel)
set_option maxRecDepth 20000 in
theorem gX10_fine_X10_agreementAt : GoodIn wsX10_fine (wsV RX10 154 RX10 yX10_agreementAt wsX10_agreementAt) := goodIn_app (goodIn_of _ (by decide +kernel)) ggX10_fine_X10_agreementAt
set_option maxRecDepth 20000 in
theorem ggX10_fine_X10_refuse : GoodIn wsX10_fine wsX10_refuse := goodIn_r _ [20, 21, 49, 50, 51, 52, 53, 54, 55, 56, 57, 58, 59, 60, 61, 62, 63, 64] (by decide +kernel) (by decide +kernel)
set_option maxRecDepth 20000 in
theorem gX10_fine_X10_refuse : GoodIn wsX10_fine (wsV RX10 69 RX10 yX10_refuse wsX10_refuse) := goodIn_app (goodIn_of _ (by decide +kernel)) ggX10_fine_X10_refuse
theorem dX10_fine_0 : decode cX10_fine 0 = .ok (.aload_n 0, 1) := by decide +kernel
theorem dX10_fine_1 : decode cX10_fine 1 = .ok (.iload_n 1, 1) := by decide +kernel
theorem dX10_fine_2 : decode cX10_fine 2 = .ok (.invokevirtual 154, 3) := by decide +kernel
theorem dX10_fine_5 : decode cX10_fine 5 = .ok (.astore 5, 2) := by decide +kernel
theorem dX10_fine_7 : decode cX10_fine 7 = .ok (.aload 5, 2) := by decide +kernel
theorem dX10_fine_9 : decode cX10_fine 9 = .ok (.ifnonnull 9, 3) := by decide +kernel
theorem dX10_fine_12 : decode cX10_fine 12 = .ok (.aload_n 0, 1) := by decide +kernel
theorem dX10_fine_13 : decode cX10_fine 13 = .ok (.iconst (-1), 1) := by decide +kernel
theorem dX10_fine_14 : decode cX10_fine 14 = .ok (.invokevirtual 69, 3) := by decide +kernel
theorem dX10_fine_17 : decode cX10_fine 17 = .ok (.ireturn, 1) := by decide +kernel
set_option maxRecDepth 20000 in
theorem ggX10_read_X10_agreementAt : GoodIn wsX10_read wsX10_agreementAt := goodIn_r _ [8, 9, 10, 24, 25, 26, 27, 28, 29, 30, 31, 32, 33, 34, 35, 36, 37, 38, 39] (by decide +kernel) (by decide +kernel)
set_option maxRecDepth 20000 in
theorem gX10_read_X10_agreementAt : GoodIn wsX10_read (wsV RX10 154 RX10 yX10_agreementAt wsX10_agreementAt) := goodIn_app (goodIn_of _ (by decide +kernel)) ggX10_read_X10_agreementAt
set_option maxRecDepth 20000 in
theorem ggX10_read_X10_fineAt : GoodIn wsX10_read wsX10_fineAt := goodIn_r _ [13, 14, 15, 40, 41, 42, 43, 44, 45, 46, 47, 48, 49, 50, 51, 52, 53, 54, 55, 56, 57] (by decide +kernel) (by decide +kernel)
set_option maxRecDepth 20000 in
theorem gX10_read_X10_fineAt : GoodIn wsX10_read (va_wsS RX10 270 yX10_fineAt wsX10_fineAt) := goodIn_app (goodIn_of _ (by decide +kernel)) ggX10_read_X10_fineAt
set_option maxRecDepth 20000 in
theorem ggX10_read_X10_refuse : GoodIn wsX10_read wsX10_refuse := goodIn_r _ [19, 20, 24, 25, 26, 27, 28, 29, 30, 31, 32, 33, 34, 35, 36, 37, 38, 39] (by decide +kernel) (by decide +kernel)
set_option maxRecDepth 20000 in
theorem gX10_read_X10_refuse : GoodIn wsX10_read (wsV RX10 69 RX10 yX10_refuse wsX10_refuse) := goodIn_app (goodIn_of _ (by decide +kernel)) ggX10_read_X10_refuse
theorem dX10_read_0 : decode cX10_read 0 = .ok (.aload_n 0, 1) := by decide +kernel
theorem dX10_read_1 : decode cX10_read 1 = .ok (.iload_n 1, 1) := by decide +kernel
theorem dX10_read_2 : decode cX10_read 2 = .ok (.invokevirtual 154, 3) := by decide +kernel
theorem dX10_read_5 : decode cX10_read 5 = .ok (.iload_n 2, 1) := by decide +kernel
theorem dX10_read_6 : decode cX10_read 6 = .ok (.invokestatic 270, 3) := by decide +kernel
theorem dX10_read_9 : decode cX10_read 9 = .ok (.astore_n 3, 1) := by decide +kernel
theorem dX10_read_10 : decode cX10_read 10 = .ok (.aload_n 3, 1) := by decide +kernel
theorem dX10_read_11 : decode cX10_read 11 = .ok (.ifnonnull 9, 3) := by decide +kernel
theorem dX10_read_14 : decode cX10_read 14 = .ok (.aload_n 0, 1) := by decide +kernel
theorem dX10_read_15 : decode cX10_read 15 = .ok (.iconst (-1), 1) := by decide +kernel
theorem dX10_read_16 : decode cX10_read 16 = .ok (.invokevirtual 69, 3) := by decide +kernel
theorem dX10_read_19 : decode cX10_read 19 = .ok (.ireturn, 1) := by decide +kernel
set_option maxRecDepth 20000 in
theorem ggX10_stands_X10_agreementAt : GoodIn wsX10_stands wsX10_agreementAt := goodIn_r _ [6, 7, 8, 158, 159, 160, 161, 162, 163, 164, 165, 166, 167, 168, 169, 170, 171, 172, 173] (by decide +kernel) (by decide +kernel)
set_option maxRecDepth 20000 in
theorem gX10_stands_X10_agreementAt : GoodIn wsX10_stands (wsV RX10 154 RX10 yX10_agreementAt wsX10_agreementAt) := goodIn_app (goodIn_of _ (by decide +kernel)) ggX10_stands_X10_agreementAt
set_option maxRecDepth 20000 in
theorem ggX10_stands_X10_fineAt : GoodIn wsX10_stands wsX10_fineAt := goodIn_r _ [11, 12, 13, 174, 175, 176, 177, 178, 179, 180, 181, 182, 183, 184, 185, 186, 187, 188, 189, 190, 191] (by decide +kernel) (by decide +kernel)
set_option maxRecDepth 20000 in
theorem gX10_stands_X10_fineAt : GoodIn wsX10_stands (va_wsS RX10 270 yX10_fineAt wsX10_fineAt) := goodIn_app (goodIn_of _ (by decide +kernel)) ggX10_stands_X10_fineAt
set_option maxRecDepth 20000 in
theorem ggX10_stands_X10_refuse : GoodIn wsX10_stands wsX10_refuse := goodIn_r _ [17, 18, 158, 159, 160, 161, 162, 163, 164, 165, 166, 167, 168, 169, 170, 171, 172, 173] (by decide +kernel) (by decide +kernel)
set_option maxRecDepth 20000 in
theorem gX10_stands_X10_refuse : GoodIn wsX10_stands (wsV RX10 69 RX10 yX10_refuse wsX10_refuse) := goodIn_app (goodIn_of _ (by decide +kernel)) ggX10_stands_X10_refuse
theorem dX10_stands_0 : decode cX10_stands 0 = .ok (.aload_n 0, 1) := by decide +kernel
theorem dX10_stands_1 : decode cX10_stands 1 = .ok (.iload_n 1, 1) := by decide +kernel
theorem dX10_stands_2 : decode cX10_stands 2 = .ok (.invokevirtual 154, 3) := by decide +kernel
theorem dX10_stands_5 : decode cX10_stands 5 = .ok (.astore 4, 2) := by decide +kernel
theorem dX10_stands_7 : decode cX10_stands 7 = .ok (.aload 4, 2) := by decide +kernel
theorem dX10_stands_9 : decode cX10_stands 9 = .ok (.iload_n 2, 1) := by decide +kernel
theorem dX10_stands_10 : decode cX10_stands 10 = .ok (.invokestatic 270, 3) := by decide +kernel
theorem dX10_stands_13 : decode cX10_stands 13 = .ok (.astore 5, 2) := by decide +kernel
theorem dX10_stands_15 : decode cX10_stands 15 = .ok (.aload 4, 2) := by decide +kernel
theorem dX10_stands_17 : decode cX10_stands 17 = .ok (.ifnull 8, 3) := by decide +kernel
theorem dX10_stands_25 : decode cX10_stands 25 = .ok (.aload_n 0, 1) := by decide +kernel
theorem dX10_stands_26 : decode cX10_stands 26 = .ok (.iconst (-1), 1) := by decide +kernel
theorem dX10_stands_27 : decode cX10_stands 27 = .ok (.invokevirtual 69, 3) := by decide +kernel
theorem dX10_stands_30 : decode cX10_stands 30 = .ok (.ireturn, 1) := by decide +kernel
set_option maxRecDepth 20000 in
theorem ggX10_rations_X10_agreementAt : GoodIn wsX10_rations wsX10_agreementAt := goodIn_r _ [8, 9, 10, 43, 44, 45, 46, 47, 48, 49, 50, 51, 52, 53, 54, 55, 56, 57, 58] (by decide +kernel) (by decide +kernel)
set_option maxRecDepth 20000 in
theorem gX10_rations_X10_agreementAt : GoodIn wsX10_rations (wsV RX10 154 RX10 yX10_agreementAt wsX10_agreementAt) := goodIn_app (goodIn_of _ (by decide +kernel)) ggX10_rations_X10_agreementAt
set_option maxRecDepth 20000 in
theorem ggX10_rations_X10_refuse : GoodIn wsX10_rations wsX10_refuse := goodIn_r _ [14, 15, 43, 44, 45, 46, 47, 48, 49, 50, 51, 52, 53, 54, 55, 56, 57, 58] (by decide +kernel) (by decide +kernel)
set_option maxRecDepth 20000 in
theorem gX10_rations_X10_refuse : GoodIn wsX10_rations (wsV RX10 69 RX10 yX10_refuse wsX10_refuse) := goodIn_app (goodIn_of _ (by decide +kernel)) ggX10_rations_X10_refuse
theorem dX10_rations_0 : decode cX10_rations 0 = .ok (.aload_n 0, 1) := by decide +kernel
theorem dX10_rations_1 : decode cX10_rations 1 = .ok (.iload_n 1, 1) := by decide +kernel
theorem dX10_rations_2 : decode cX10_rations 2 = .ok (.invokevirtual 154, 3) := by decide +kernel
theorem dX10_rations_5 : decode cX10_rations 5 = .ok (.astore 4, 2) := by decide +kernel
theorem dX10_rations_7 : decode cX10_rations 7 = .ok (.aload 4, 2) := by decide +kernel
theorem dX10_rations_9 : decode cX10_rations 9 = .ok (.ifnonnull 9, 3) := by decide +kernel
theorem dX10_rations_12 : decode cX10_rations 12 = .ok (.aload_n 0, 1) := by decide +kernel
theorem dX10_rations_13 : decode cX10_rations 13 = .ok (.iconst (-1), 1) := by decide +kernel
theorem dX10_rations_14 : decode cX10_rations 14 = .ok (.invokevirtual 69, 3) := by decide +kernel
theorem dX10_rations_17 : decode cX10_rations 17 = .ok (.ireturn, 1) := by decide +kernel
set_option maxRecDepth 20000 in
theorem ggX10_owed_X10_agreementAt : GoodIn wsX10_owed wsX10_agreementAt := goodIn_r _ [6, 7, 8, 194, 195, 196, 197, 198, 199, 200, 201, 202, 203, 204, 205, 206, 207, 208, 209] (by decide +kernel) (by decide +kernel)
set_option maxRecDepth 20000 in
theorem gX10_owed_X10_agreementAt : GoodIn wsX10_owed (wsV RX10 154 RX10 yX10_agreementAt wsX10_agreementAt) := goodIn_app (goodIn_of _ (by decide +kernel)) ggX10_owed_X10_agreementAt
set_option maxRecDepth 20000 in
theorem ggX10_owed_X10_refuse : GoodIn wsX10_owed wsX10_refuse := goodIn_r _ [12, 13, 194, 195, 196, 197, 198, 199, 200, 201, 202, 203, 204, 205, 206, 207, 208, 209] (by decide +kernel) (by decide +kernel)
set_option maxRecDepth 20000 in
theorem gX10_owed_X10_refuse : GoodIn wsX10_owed (wsV RX10 69 RX10 yX10_refuse wsX10_refuse) := goodIn_app (goodIn_of _ (by decide +kernel)) ggX10_owed_X10_refuse
theorem dX10_owed_0 : decode cX10_owed 0 = .ok (.aload_n 0, 1) := by decide +kernel
theorem dX10_owed_1 : decode cX10_owed 1 = .ok (.iload_n 1, 1) := by decide +kernel
theorem dX10_owed_2 : decode cX10_owed 2 = .ok (.invokevirtual 154, 3) := by decide +kernel
theorem dX10_owed_5 : decode cX10_owed 5 = .ok (.astore 4, 2) := by decide +kernel
theorem dX10_owed_7 : decode cX10_owed 7 = .ok (.aload 4, 2) := by decide +kernel
theorem dX10_owed_9 : decode cX10_owed 9 = .ok (.ifnonnull 13, 3) := by decide +kernel
theorem dX10_owed_12 : decode cX10_owed 12 = .ok (.ldc_w 294, 3) := by decide +kernel
theorem dX10_owed_15 : decode cX10_owed 15 = .ok (.aload_n 0, 1) := by decide +kernel
theorem dX10_owed_16 : decode cX10_owed 16 = .ok (.iconst (-1), 1) := by decide +kernel
theorem dX10_owed_17 : decode cX10_owed 17 = .ok (.invokevirtual 69, 3) := by decide +kernel
theorem dX10_owed_20 : decode cX10_owed 20 = .ok (.isub, 1) := by decide +kernel
theorem dX10_owed_21 : decode cX10_owed 21 = .ok (.ireturn, 1) := by decide +kernel
set_option maxRecDepth 20000 in
theorem ggX10_agreementOf_X10_agreementAt : GoodIn wsX10_agreementOf wsX10_agreementAt := goodIn_r _ [17, 18, 19, 69, 70, 71, 72, 73, 74, 75, 76, 77, 78, 79, 80, 81, 82, 83, 84] (by decide +kernel) (by decide +kernel)
set_option maxRecDepth 20000 in
theorem gX10_agreementOf_X10_agreementAt : GoodIn wsX10_agreementOf (wsV RX10 154 RX10 yX10_agreementAt wsX10_agreementAt) := goodIn_app (goodIn_of _ (by decide +kernel)) ggX10_agreementOf_X10_agreementAt
set_option maxRecDepth 20000 in
theorem ggX10_agreementOf_X10_refuse : GoodIn wsX10_agreementOf wsX10_refuse := goodIn_r _ [23, 24, 69, 70, 71, 72, 73, 74, 75, 76, 77, 78, 79, 80, 81, 82, 83, 84] (by decide +kernel) (by decide +kernel)
set_option maxRecDepth 20000 in
theorem gX10_agreementOf_X10_refuse : GoodIn wsX10_agreementOf (wsV RX10 69 RX10 yX10_refuse wsX10_refuse) := goodIn_app (goodIn_of _ (by decide +kernel)) ggX10_agreementOf_X10_refuse
theorem dX10_agreementOf_0 : decode cX10_agreementOf 0 = .ok (.aload_n 0, 1) := by decide +kernel
theorem dX10_agreementOf_1 : decode cX10_agreementOf 1 = .ok (.iload_n 1, 1) := by decide +kernel
theorem dX10_agreementOf_2 : decode cX10_agreementOf 2 = .ok (.invokevirtual 154, 3) := by decide +kernel
theorem dX10_agreementOf_5 : decode cX10_agreementOf 5 = .ok (.astore_n 3, 1) := by decide +kernel
theorem dX10_agreementOf_6 : decode cX10_agreementOf 6 = .ok (.aload_n 3, 1) := by decide +kernel
theorem dX10_agreementOf_7 : decode cX10_agreementOf 7 = .ok (.ifnonnull 9, 3) := by decide +kernel
theorem dX10_agreementOf_10 : decode cX10_agreementOf 10 = .ok (.aload_n 0, 1) := by decide +kernel
theorem dX10_agreementOf_11 : decode cX10_agreementOf 11 = .ok (.iconst (-1), 1) := by decide +kernel
theorem dX10_agreementOf_12 : decode cX10_agreementOf 12 = .ok (.invokevirtual 69, 3) := by decide +kernel
theorem dX10_agreementOf_15 : decode cX10_agreementOf 15 = .ok (.ireturn, 1) := by decide +kernel
set_option maxRecDepth 20000 in
theorem ggX10_aboard_X10_voyageAt : GoodIn wsX10_aboard wsX10_voyageAt := goodIn_r _ [5, 6, 7, 80, 81, 82, 83, 84, 85, 86, 87, 88, 89, 90, 91, 92, 93, 94, 95] (by decide +kernel) (by decide +kernel)
set_option maxRecDepth 20000 in
theorem gX10_aboard_X10_voyageAt : GoodIn wsX10_aboard (wsV RX10 103 RX10 yX10_voyageAt wsX10_voyageAt) := goodIn_app (goodIn_of _ (by decide +kernel)) ggX10_aboard_X10_voyageAt
set_option maxRecDepth 20000 in
theorem ggX10_aboard_X10_refuse : GoodIn wsX10_aboard wsX10_refuse := goodIn_r _ [11, 12, 80, 81, 82, 83, 84, 85, 86, 87, 88, 89, 90, 91, 92, 93, 94, 95] (by decide +kernel) (by decide +kernel)
set_option maxRecDepth 20000 in
theorem gX10_aboard_X10_refuse : GoodIn wsX10_aboard (wsV RX10 69 RX10 yX10_refuse wsX10_refuse) := goodIn_app (goodIn_of _ (by decide +kernel)) ggX10_aboard_X10_refuse
theorem dX10_aboard_0 : decode cX10_aboard 0 = .ok (.aload_n 0, 1) := by decide +kernel
theorem dX10_aboard_1 : decode cX10_aboard 1 = .ok (.iload_n 1, 1) := by decide +kernel
theorem dX10_aboard_2 : decode cX10_aboard 2 = .ok (.invokevirtual 103, 3) := by decide +kernel
theorem dX10_aboard_5 : decode cX10_aboard 5 = .ok (.astore 4, 2) := by decide +kernel
theorem dX10_aboard_7 : decode cX10_aboard 7 = .ok (.aload 4, 2) := by decide +kernel
theorem dX10_aboard_9 : decode cX10_aboard 9 = .ok (.ifnonnull 9, 3) := by decide +kernel
theorem dX10_aboard_12 : decode cX10_aboard 12 = .ok (.aload_n 0, 1) := by decide +kernel
theorem dX10_aboard_13 : decode cX10_aboard 13 = .ok (.iconst (-1), 1) := by decide +kernel
theorem dX10_aboard_14 : decode cX10_aboard 14 = .ok (.invokevirtual 69, 3) := by decide +kernel
theorem dX10_aboard_17 : decode cX10_aboard 17 = .ok (.ireturn, 1) := by decide +kernel
set_option maxRecDepth 20000 in
theorem ggX10_group_X10_manAt : GoodIn wsX10_group wsX10_manAt := goodIn_r _ [6, 7, 8, 20, 21, 22, 23, 24, 25, 26, 27, 28, 29, 30, 31, 32, 33, 34, 35] (by decide +kernel) (by decide +kernel)
set_option maxRecDepth 20000 in
theorem gX10_group_X10_manAt : GoodIn wsX10_group (wsV RX10 205 RX10 yX10_manAt wsX10_manAt) := goodIn_app (goodIn_of _ (by decide +kernel)) ggX10_group_X10_manAt
set_option maxRecDepth 20000 in
theorem ggX10_group_X10_refuse : GoodIn wsX10_group wsX10_refuse := goodIn_r _ [12, 13, 20, 21, 22, 23, 24, 25, 26, 27, 28, 29, 30, 31, 32, 33, 34, 35] (by decide +kernel) (by decide +kernel)
set_option maxRecDepth 20000 in
theorem gX10_group_X10_refuse : GoodIn wsX10_group (wsV RX10 69 RX10 yX10_refuse wsX10_refuse) := goodIn_app (goodIn_of _ (by decide +kernel)) ggX10_group_X10_refuse
theorem dX10_group_0 : decode cX10_group 0 = .ok (.aload_n 0, 1) := by decide +kernel
theorem dX10_group_1 : decode cX10_group 1 = .ok (.iload_n 1, 1) := by decide +kernel
theorem dX10_group_2 : decode cX10_group 2 = .ok (.invokevirtual 205, 3) := by decide +kernel
theorem dX10_group_5 : decode cX10_group 5 = .ok (.astore_n 2, 1) := by decide +kernel
theorem dX10_group_6 : decode cX10_group 6 = .ok (.aload_n 2, 1) := by decide +kernel
theorem dX10_group_7 : decode cX10_group 7 = .ok (.ifnonnull 11, 3) := by decide +kernel
theorem dX10_group_10 : decode cX10_group 10 = .ok (.aload_n 0, 1) := by decide +kernel
theorem dX10_group_11 : decode cX10_group 11 = .ok (.iconst (-1), 1) := by decide +kernel
theorem dX10_group_12 : decode cX10_group 12 = .ok (.invokevirtual 69, 3) := by decide +kernel
theorem dX10_group_15 : decode cX10_group 15 = .ok (.goto 7, 3) := by decide +kernel
theorem dX10_group_22 : decode cX10_group 22 = .ok (.ireturn, 1) := by decide +kernel
set_option maxRecDepth 20000 in
theorem ggX10_borrowed_X10_agreementAt : GoodIn wsX10_borrowed wsX10_agreementAt := goodIn_r _ [8, 9, 10, 52, 53, 54, 55, 56, 57, 58, 59, 60, 61, 62, 63, 64, 65, 66, 67] (by decide +kernel) (by decide +kernel)
set_option maxRecDepth 20000 in
theorem gX10_borrowed_X10_agreementAt : GoodIn wsX10_borrowed (wsV RX10 154 RX10 yX10_agreementAt wsX10_agreementAt) := goodIn_app (goodIn_of _ (by decide +kernel)) ggX10_borrowed_X10_agreementAt
set_option maxRecDepth 20000 in
theorem ggX10_borrowed_X10_refuse : GoodIn wsX10_borrowed wsX10_refuse := goodIn_r _ [14, 15, 52, 53, 54, 55, 56, 57, 58, 59, 60, 61, 62, 63, 64, 65, 66, 67] (by decide +kernel) (by decide +kernel)
set_option maxRecDepth 20000 in
theorem gX10_borrowed_X10_refuse : GoodIn wsX10_borrowed (wsV RX10 69 RX10 yX10_refuse wsX10_refuse) := goodIn_app (goodIn_of _ (by decide +kernel)) ggX10_borrowed_X10_refuse
theorem dX10_borrowed_0 : decode cX10_borrowed 0 = .ok (.aload_n 0, 1) := by decide +kernel
theorem dX10_borrowed_1 : decode cX10_borrowed 1 = .ok (.iload_n 1, 1) := by decide +kernel
theorem dX10_borrowed_2 : decode cX10_borrowed 2 = .ok (.invokevirtual 154, 3) := by decide +kernel
theorem dX10_borrowed_5 : decode cX10_borrowed 5 = .ok (.astore_n 2, 1) := by decide +kernel
theorem dX10_borrowed_6 : decode cX10_borrowed 6 = .ok (.aload_n 2, 1) := by decide +kernel
theorem dX10_borrowed_7 : decode cX10_borrowed 7 = .ok (.ifnonnull 9, 3) := by decide +kernel
theorem dX10_borrowed_10 : decode cX10_borrowed 10 = .ok (.aload_n 0, 1) := by decide +kernel
theorem dX10_borrowed_11 : decode cX10_borrowed 11 = .ok (.iconst (-1), 1) := by decide +kernel
theorem dX10_borrowed_12 : decode cX10_borrowed 12 = .ok (.invokevirtual 69, 3) := by decide +kernel
theorem dX10_borrowed_15 : decode cX10_borrowed 15 = .ok (.ireturn, 1) := by decide +kernel
set_option maxRecDepth 20000 in
theorem ggX10_home_X10_manAt : GoodIn wsX10_home wsX10_manAt := goodIn_r _ [15, 16, 17, 97, 98, 99, 100, 101, 102, 103, 104, 105, 106, 107, 108, 109, 110, 111, 112] (by decide +kernel) (by decide +kernel)
set_option maxRecDepth 20000 in
theorem gX10_home_X10_manAt : GoodIn wsX10_home (wsV RX10 205 RX10 yX10_manAt wsX10_manAt) := goodIn_app (goodIn_of _ (by decide +kernel)) ggX10_home_X10_manAt
set_option maxRecDepth 20000 in
theorem ggX10_home_X10_refuse : GoodIn wsX10_home wsX10_refuse := goodIn_r _ [21, 22, 97, 98, 99, 100, 101, 102, 103, 104, 105, 106, 107, 108, 109, 110, 111, 112] (by decide +kernel) (by decide +kernel)
set_option maxRecDepth 20000 in
theorem gX10_home_X10_refuse : GoodIn wsX10_home (wsV RX10 69 RX10 yX10_refuse wsX10_refuse) := goodIn_app (goodIn_of _ (by decide +kernel)) ggX10_home_X10_refuse
theorem dX10_home_0 : decode cX10_home 0 = .ok (.aload_n 0, 1) := by decide +kernel
theorem dX10_home_1 : decode cX10_home 1 = .ok (.iload_n 1, 1) := by decide +kernel
theorem dX10_home_2 : decode cX10_home 2 = .ok (.invokevirtual 205, 3) := by decide +kernel
theorem dX10_home_5 : decode cX10_home 5 = .ok (.astore_n 2, 1) := by decide +kernel
theorem dX10_home_6 : decode cX10_home 6 = .ok (.aload_n 2, 1) := by decide +kernel
theorem dX10_home_7 : decode cX10_home 7 = .ok (.ifnonnull 9, 3) := by decide +kernel
theorem dX10_home_10 : decode cX10_home 10 = .ok (.aload_n 0, 1) := by decide +kernel
theorem dX10_home_11 : decode cX10_home 11 = .ok (.iconst (-1), 1) := by decide +kernel
theorem dX10_home_12 : decode cX10_home 12 = .ok (.invokevirtual 69, 3) := by decide +kernel
theorem dX10_home_15 : decode cX10_home 15 = .ok (.ireturn, 1) := by decide +kernel
set_option maxRecDepth 20000 in
theorem ggX10_ask_X10_manAt : GoodIn wsX10_ask wsX10_manAt := goodIn_r _ [6, 7, 8, 20, 21, 22, 23, 24, 25, 26, 27, 28, 29, 30, 31, 32, 33, 34, 35] (by decide +kernel) (by decide +kernel)
set_option maxRecDepth 20000 in
theorem gX10_ask_X10_manAt : GoodIn wsX10_ask (wsV RX10 205 RX10 yX10_manAt wsX10_manAt) := goodIn_app (goodIn_of _ (by decide +kernel)) ggX10_ask_X10_manAt
set_option maxRecDepth 20000 in
theorem ggX10_ask_X10_refuse : GoodIn wsX10_ask wsX10_refuse := goodIn_r _ [12, 13, 20, 21, 22, 23, 24, 25, 26, 27, 28, 29, 30, 31, 32, 33, 34, 35] (by decide +kernel) (by decide +kernel)
set_option maxRecDepth 20000 in
theorem gX10_ask_X10_refuse : GoodIn wsX10_ask (wsV RX10 69 RX10 yX10_refuse wsX10_refuse) := goodIn_app (goodIn_of _ (by decide +kernel)) ggX10_ask_X10_refuse
theorem dX10_ask_0 : decode cX10_ask 0 = .ok (.aload_n 0, 1) := by decide +kernel
theorem dX10_ask_1 : decode cX10_ask 1 = .ok (.iload_n 1, 1) := by decide +kernel
theorem dX10_ask_2 : decode cX10_ask 2 = .ok (.invokevirtual 205, 3) := by decide +kernel
theorem dX10_ask_5 : decode cX10_ask 5 = .ok (.astore 4, 2) := by decide +kernel
theorem dX10_ask_7 : decode cX10_ask 7 = .ok (.aload 4, 2) := by decide +kernel
theorem dX10_ask_9 : decode cX10_ask 9 = .ok (.ifnonnull 9, 3) := by decide +kernel
theorem dX10_ask_12 : decode cX10_ask 12 = .ok (.aload_n 0, 1) := by decide +kernel
theorem dX10_ask_13 : decode cX10_ask 13 = .ok (.iconst (-1), 1) := by decide +kernel
theorem dX10_ask_14 : decode cX10_ask 14 = .ok (.invokevirtual 69, 3) := by decide +kernel
theorem dX10_ask_17 : decode cX10_ask 17 = .ok (.ireturn, 1) := by decide +kernel
set_option maxRecDepth 20000 in
theorem ggX10_check_X10_voyageAt : GoodIn wsX10_check wsX10_voyageAt := goodIn_r _ [10, 11, 12, 197, 198, 199, 200, 201, 202, 203, 204, 205, 206, 207, 208, 209, 210, 211, 212] (by decide +kernel) (by decide +kernel)
set_option maxRecDepth 20000 in
theorem gX10_check_X10_voyageAt : GoodIn wsX10_check (wsV RX10 103 RX10 yX10_voyageAt wsX10_voyageAt) := goodIn_app (goodIn_of _ (by decide +kernel)) ggX10_check_X10_voyageAt
set_option maxRecDepth 20000 in
theorem ggX10_check_X10_refuse : GoodIn wsX10_check wsX10_refuse := goodIn_r _ [16, 17, 197, 198, 199, 200, 201, 202, 203, 204, 205, 206, 207, 208, 209, 210, 211, 212] (by decide +kernel) (by decide +kernel)
set_option maxRecDepth 20000 in
theorem gX10_check_X10_refuse : GoodIn wsX10_check (wsV RX10 69 RX10 yX10_refuse wsX10_refuse) := goodIn_app (goodIn_of _ (by decide +kernel)) ggX10_check_X10_refuse
theorem dX10_check_0 : decode cX10_check 0 = .ok (.aload_n 0, 1) := by decide +kernel
theorem dX10_check_1 : decode cX10_check 1 = .ok (.iload_n 1, 1) := by decide +kernel
theorem dX10_check_2 : decode cX10_check 2 = .ok (.invokevirtual 103, 3) := by decide +kernel
theorem dX10_check_5 : decode cX10_check 5 = .ok (.astore 4, 2) := by decide +kernel
theorem dX10_check_7 : decode cX10_check 7 = .ok (.aload 4, 2) := by decide +kernel
theorem dX10_check_9 : decode cX10_check 9 = .ok (.ifnonnull 9, 3) := by decide +kernel
theorem dX10_check_12 : decode cX10_check 12 = .ok (.aload_n 0, 1) := by decide +kernel
theorem dX10_check_13 : decode cX10_check 13 = .ok (.iconst (-1), 1) := by decide +kernel
theorem dX10_check_14 : decode cX10_check 14 = .ok (.invokevirtual 69, 3) := by decide +kernel
theorem dX10_check_17 : decode cX10_check 17 = .ok (.ireturn, 1) := by decide +kernel
theorem dX10_refuse_0 : decode cX10_refuse 0 = .ok (.aload_n 0, 1) := by decide +kernel
theorem dX10_refuse_1 : decode cX10_refuse 1 = .ok (.getfield 66, 3) := by decide +kernel
theorem dX10_refuse_4 : decode cX10_refuse 4 = .ok (.iload_n 1, 1) := by decide +kernel
theorem dX10_refuse_5 : decode cX10_refuse 5 = .ok (.ineg, 1) := by decide +kernel
theorem dX10_refuse_6 : decode cX10_refuse 6 = .ok (.dup2, 1) := by decide +kernel
theorem dX10_refuse_7 : decode cX10_refuse 7 = .ok (.iaload, 1) := by decide +kernel
theorem dX10_refuse_8 : decode cX10_refuse 8 = .ok (.iconst 1, 1) := by decide +kernel
theorem dX10_refuse_9 : decode cX10_refuse 9 = .ok (.iadd, 1) := by decide +kernel
theorem dX10_refuse_10 : decode cX10_refuse 10 = .ok (.iastore, 1) := by decide +kernel
theorem dX10_refuse_11 : decode cX10_refuse 11 = .ok (.iload_n 1, 1) := by decide +kernel
theorem dX10_refuse_12 : decode cX10_refuse 12 = .ok (.ireturn, 1) := by decide +kernel
theorem dX10_manAt_0 : decode cX10_manAt 0 = .ok (.iload_n 1, 1) := by decide +kernel
theorem dX10_manAt_1 : decode cX10_manAt 1 = .ok (.ifCond .lt 11, 3) := by decide +kernel
theorem dX10_manAt_4 : decode cX10_manAt 4 = .ok (.iload_n 1, 1) := by decide +kernel
theorem dX10_manAt_5 : decode cX10_manAt 5 = .ok (.aload_n 0, 1) := by decide +kernel
theorem dX10_manAt_6 : decode cX10_manAt 6 = .ok (.getfield 86, 3) := by decide +kernel
theorem dX10_manAt_9 : decode cX10_manAt 9 = .ok (.if_icmp .lt 7, 3) := by decide +kernel
theorem dX10_manAt_12 : decode cX10_manAt 12 = .ok (.aconst_null, 1) := by decide +kernel
theorem dX10_manAt_13 : decode cX10_manAt 13 = .ok (.goto 9, 3) := by decide +kernel
theorem dX10_manAt_22 : decode cX10_manAt 22 = .ok (.areturn, 1) := by decide +kernel
theorem dX10_voyageAt_0 : decode cX10_voyageAt 0 = .ok (.iload_n 1, 1) := by decide +kernel
theorem dX10_voyageAt_1 : decode cX10_voyageAt 1 = .ok (.ifCond .lt 11, 3) := by decide +kernel
theorem dX10_voyageAt_4 : decode cX10_voyageAt 4 = .ok (.iload_n 1, 1) := by decide +kernel
theorem dX10_voyageAt_5 : decode cX10_voyageAt 5 = .ok (.aload_n 0, 1) := by decide +kernel
theorem dX10_voyageAt_6 : decode cX10_voyageAt 6 = .ok (.getfield 99, 3) := by decide +kernel
theorem dX10_voyageAt_9 : decode cX10_voyageAt 9 = .ok (.if_icmp .lt 7, 3) := by decide +kernel
theorem dX10_voyageAt_12 : decode cX10_voyageAt 12 = .ok (.aconst_null, 1) := by decide +kernel
theorem dX10_voyageAt_13 : decode cX10_voyageAt 13 = .ok (.goto 9, 3) := by decide +kernel
theorem dX10_voyageAt_22 : decode cX10_voyageAt 22 = .ok (.areturn, 1) := by decide +kernel
theorem dX10_agreementAt_0 : decode cX10_agreementAt 0 = .ok (.iload_n 1, 1) := by decide +kernel
theorem dX10_agreementAt_1 : decode cX10_agreementAt 1 = .ok (.ifCond .lt 11, 3) := by decide +kernel
theorem dX10_agreementAt_4 : decode cX10_agreementAt 4 = .ok (.iload_n 1, 1) := by decide +kernel
theorem dX10_agreementAt_5 : decode cX10_agreementAt 5 = .ok (.aload_n 0, 1) := by decide +kernel
theorem dX10_agreementAt_6 : decode cX10_agreementAt 6 = .ok (.getfield 115, 3) := by decide +kernel
theorem dX10_agreementAt_9 : decode cX10_agreementAt 9 = .ok (.if_icmp .lt 7, 3) := by decide +kernel
theorem dX10_agreementAt_12 : decode cX10_agreementAt 12 = .ok (.aconst_null, 1) := by decide +kernel
theorem dX10_agreementAt_13 : decode cX10_agreementAt 13 = .ok (.goto 9, 3) := by decide +kernel
theorem dX10_agreementAt_22 : decode cX10_agreementAt 22 = .ok (.areturn, 1) := by decide +kernel
theorem dX10_fineAt_0 : decode cX10_fineAt 0 = .ok (.aload_n 0, 1) := by decide +kernel
theorem dX10_fineAt_1 : decode cX10_fineAt 1 = .ok (.ifnull 15, 3) := by decide +kernel
theorem dX10_fineAt_16 : decode cX10_fineAt 16 = .ok (.aconst_null, 1) := by decide +kernel
theorem dX10_fineAt_17 : decode cX10_fineAt 17 = .ok (.goto 9, 3) := by decide +kernel
theorem dX10_fineAt_26 : decode cX10_fineAt 26 = .ok (.areturn, 1) := by decide +kernel
theorem in_wsX10_refuse_X10 : ∀ w ∈ wsX100, w ∈ wsX10_refuse := fun w h => List.mem_cons_of_mem _ (List.mem_append_right _ h)
theorem in_wsX10_agreementAt_X10 : ∀ w ∈ wsX100, w ∈ wsX10_agreementAt := fun w h => List.mem_cons_of_mem _ (List.mem_append_right _ h)
theorem in_wsX10_manAt_X10 : ∀ w ∈ wsX100, w ∈ wsX10_manAt := fun w h => List.mem_cons_of_mem _ (List.mem_append_right _ h)
theorem in_wsX10_voyageAt_X10 : ∀ w ∈ wsX100, w ∈ wsX10_voyageAt := fun w h => List.mem_cons_of_mem _ (List.mem_append_right _ h)
set_option maxHeartbeats 4000000 in
set_option maxRecDepth 100000 in
/-- refuse(c): the answer is c -/
theorem c_X10_refuse (l : Launch) (dC : Nat → ClassId) (dI : Nat → Nat → Nat) (sz : Nat) (h0 : Nat) (q : Nat → Nat) (cq : Nat → ClassId) (co : Int32) (hc : vp_in (-co) 7) : Met l yX10_refuse wsX10_refuse ({ frames := 0, cells := 0, slots := 0, locals := 0 }) (va_Pc [.ref h0, .int co] (pcW (dC, dI) [((cq 15), .int)] [(h0, .inr (10, oF q)), ((q 15), .inl ((cq 15), 7, .inl (fun _ => 0)))] sz)) (va_Qi (fun (r : Int32) (u : Unit) => r = co) (fun _ _ => True) (va_A [(h0, .inr (10, oF q)), ((q 15), .inl ((cq 15), 7, .inl (fun _ => 0)))] sz)) 0 0 (va_A [(h0, .inr (10, oF q)), ((q 15), .inl ((cq 15), 7, .inl (fun _ => 0)))] sz) := by
  refine Met.ofW (cc := cX10_refuse) (maxL := 2) (ret := (some .int)) (by decide) rfl ?_
  intro p e s m args below meth c s₁ B hml hv
  obtain ⟨rfl, hsz, hP, hK, hD0⟩ := hv
  have hx := B.exec
  have hb := B.bytes
  have hr := B.returns
  have hts := atoms_spec (ws := wsX10_refuse) B.pre
  have hown : s.vm.findClass RX10 = some m.cls := findClass_of_methodNamed B.named
  have hlocks := B.notSynchronized
  subst hsz
  have hD := hD0.self (sz := s.heap.size)
  generalize hAe : va_A [(h0, .inr (10, oF q)), ((q 15), .inl ((cq 15), 7, .inl (fun _ => 0)))] s.heap.size = A at hD ⊢
  have hA : ∀ q : Nat, s.heap.size ≤ q → A q := fun q h => by rw [← hAe]; exact Or.inr h
  have hS : va_S A s.heap s.heap [] := va_S.rf
  have hP : va_P (dC, dI) vwCl [(h0, .inr (10, oF q)), ((q 15), .inl ((cq 15), 7, .inl (fun _ => 0)))] s.heap := hP
  have hl := lv_entry ([.ref h0, .int co]) (n := 2) (Nat.le_of_ble_eq_true rfl)
  rw [lg_entry_eq]
  generalize (lg_sl ([.ref h0, .int co]) ++ List.replicate (2 - (lg_sl ([.ref h0, .int co])).length) Slot.unset).toArray = ls at hl ⊢
  have hl : lv_has ls 2 [(0, .ref h0), (1, .int co)] := hl
  refine lv_aload_n hx hb dX10_refuse_0 rfl (lv_at hl 0 rfl) ?_
  refine va_get (D := (dC, dI)) (ci := 10) (v := .ref (q 15)) (C := RX10) (T := TX10) (N := 16) hx hb hts in_wsX10_refuse_X10 hown hK hP 0 rfl rfl 15 (by decide) (hts (.fieldLink RX10 66 "ShipOffice" "refusals" "[I") (by decide +kernel)) (fun _ h9 => h9) rfl dX10_refuse_1 ?_
  refine lv_iload_n hx hb dX10_refuse_4 rfl (lv_at hl 1 rfl) ?_
  refine lv_ineg hx hb dX10_refuse_5 ?_
  refine lv_dup2_11 hx hb dX10_refuse_6 rfl rfl ?_
  refine va_iald hx hb hK hP 1 0 rfl rfl hc dX10_refuse_7 ?_
  refine W.eq (g2 := F0 m 8 ls [.int 0, .int (-co), .ref (q 15)]) rfl ?_
  refine lv_iconst (v := 1) hx hb dX10_refuse_8 (by decide) ?_
  refine lv_iadd hx hb dX10_refuse_9 ?_
  refine lv_topi (fun y ey => ?_)
  obtain rfl : y = 1 := ey.trans (by decide)
  refine va_iast hx hb hK hP hD hS 1 0 rfl rfl hc dX10_refuse_10 (fun H locs hP hD hS => ?_)
  have hP : va_P (dC, dI) vwCl [(h0, .inr (10, oF q)), ((q 15), .inl ((cq 15), 7, .inl (upd (fun _ => 0) (-co : Int32).toNatClampNeg 1)))] H := hP
  have hD : va_D A [(h0, .inr (10, oF q)), ((q 15), .inl ((cq 15), 7, .inl (upd (fun _ => 0) (-co : Int32).toNatClampNeg 1)))] := hD
  refine lv_iload_n hx hb dX10_refuse_11 rfl (lv_at hl 1 rfl) ?_
  exact W.iret (v := co) hx hb hr (fun t ht hW => ⟨⟨co, (), rfl, rfl, trivial⟩, hS.F ht⟩) hS.2.2 dX10_refuse_12
set_option maxHeartbeats 4000000 in
set_option maxRecDepth 100000 in
/-- none is there yet -/
theorem c_X10_agreementAt (l : Launch) (dC : Nat → ClassId) (dI : Nat → Nat → Nat) (sz : Nat) (h0 : Nat) (q : Nat → Nat) (cq : Nat → ClassId) (n : Int32) : Met l yX10_agreementAt wsX10_agreementAt ({ frames := 0, cells := 0, slots := 0, locals := 0 }) (va_Pc [.ref h0, .int n] (pcW (dC, dI) [] [(h0, .inr (10, oF q))] sz)) (va_Qq (fun (r : Option Nat) (u : Unit) => r = none) (fun _ _ => True) (va_A [] sz)) 0 0 (va_A [] sz) := by
  refine Met.ofW (cc := cX10_agreementAt) (maxL := 2) (ret := (some (.object "ShipOffice$Agreement"))) (by decide) rfl ?_
  intro p e s m args below meth c s₁ B hml hv
  obtain ⟨rfl, hsz, hP, hK, hD0⟩ := hv
  have hx := B.exec
  have hb := B.bytes
  have hr := B.returns
  have hts := atoms_spec (ws := wsX10_agreementAt) B.pre
  have hown : s.vm.findClass RX10 = some m.cls := findClass_of_methodNamed B.named
  have hlocks := B.notSynchronized
  subst hsz
  have hD := hD0
  generalize hAe : va_A [] s.heap.size = A at ⊢
  have hA : ∀ q : Nat, s.heap.size ≤ q → A q := fun q h => by rw [← hAe]; exact Or.inr h
  have hS : va_S A s.heap s.heap [] := va_S.rf
  have hP : va_P (dC, dI) vwCl [(h0, .inr (10, oF q))] s.heap := hP
  have hl := lv_entry ([.ref h0, .int n]) (n := 2) (Nat.le_of_ble_eq_true rfl)
  rw [lg_entry_eq]
  generalize (lg_sl ([.ref h0, .int n]) ++ List.replicate (2 - (lg_sl ([.ref h0, .int n])).length) Slot.unset).toArray = ls at hl ⊢
  have hl : lv_has ls 2 [(0, .ref h0), (1, .int n)] := hl
  refine lv_iload_n hx hb dX10_agreementAt_0 rfl (lv_at hl 1 rfl) ?_
  refine lv_if_lt (tgt := 12) hx hb dX10_agreementAt_1 (by decide) (fun c_1 => ?_) (fun c_1 => ?_)
  · refine lv_null hx hb dX10_agreementAt_12 ?_
    refine lv_goto (tgt := 22) hx hb dX10_agreementAt_13 (by decide) ?_
    exact W.aret (v := .null) hx hb hr (Or.inl ⟨_, rfl⟩) (Or.inl rfl) (fun t ht hW => ⟨⟨none, (), rfl, rfl, trivial⟩, hS.F ht⟩) hS.2.2 dX10_agreementAt_22
  · refine lv_iload_n hx hb dX10_agreementAt_4 rfl (lv_at hl 1 rfl) ?_
    refine lv_aload_n hx hb dX10_agreementAt_5 rfl (lv_at hl 0 rfl) ?_
    refine va_get (D := (dC, dI)) (ci := 10) (v := .int 0) (C := RX10) (T := TX10) (N := 16) hx hb hts in_wsX10_agreementAt_X10 hown hK hP 0 rfl rfl 6 (by decide) (hts (.fieldLink RX10 115 "ShipOffice" "agreementCount" "I") (by decide +kernel)) (fun _ h9 => h9) rfl dX10_agreementAt_6 ?_
    refine lv_icmp_lt (tgt := 16) hx hb dX10_agreementAt_9 (by decide) (fun c_2 => absurd c_2 c_1) (fun c_2 => ?_)
    refine lv_null hx hb dX10_agreementAt_12 ?_
    refine lv_goto (tgt := 22) hx hb dX10_agreementAt_13 (by decide) ?_
    exact W.aret (v := .null) hx hb hr (Or.inl ⟨_, rfl⟩) (Or.inl rfl) (fun t ht hW => ⟨⟨none, (), rfl, rfl, trivial⟩, hS.F ht⟩) hS.2.2 dX10_agreementAt_22
set_option maxHeartbeats 4000000 in
set_option maxRecDepth 100000 in
/-- none is there yet -/
theorem c_X10_manAt (l : Launch) (dC : Nat → ClassId) (dI : Nat → Nat → Nat) (sz : Nat) (h0 : Nat) (q : Nat → Nat) (cq : Nat → ClassId) (n : Int32) : Met l yX10_manAt wsX10_manAt ({ frames := 0, cells := 0, slots := 0, locals := 0 }) (va_Pc [.ref h0, .int n] (pcW (dC, dI) [] [(h0, .inr (10, oF q))] sz)) (va_Qq (fun (r : Option Nat) (u : Unit) => r = none) (fun _ _ => True) (va_A [] sz)) 0 0 (va_A [] sz) := by
  refine Met.ofW (cc := cX10_manAt) (maxL := 2) (ret := (some (.object "ShipOffice$Man"))) (by decide) rfl ?_
  intro p e s m args below meth c s₁ B hml hv
  obtain ⟨rfl, hsz, hP, hK, hD0⟩ := hv
  have hx := B.exec
  have hb := B.bytes
  have hr := B.returns
  have hts := atoms_spec (ws := wsX10_manAt) B.pre
  have hown : s.vm.findClass RX10 = some m.cls := findClass_of_methodNamed B.named
  have hlocks := B.notSynchronized
  subst hsz
  have hD := hD0
  generalize hAe : va_A [] s.heap.size = A at ⊢
  have hA : ∀ q : Nat, s.heap.size ≤ q → A q := fun q h => by rw [← hAe]; exact Or.inr h
  have hS : va_S A s.heap s.heap [] := va_S.rf
  have hP : va_P (dC, dI) vwCl [(h0, .inr (10, oF q))] s.heap := hP
  have hl := lv_entry ([.ref h0, .int n]) (n := 2) (Nat.le_of_ble_eq_true rfl)
  rw [lg_entry_eq]
  generalize (lg_sl ([.ref h0, .int n]) ++ List.replicate (2 - (lg_sl ([.ref h0, .int n])).length) Slot.unset).toArray = ls at hl ⊢
  have hl : lv_has ls 2 [(0, .ref h0), (1, .int n)] := hl
  refine lv_iload_n hx hb dX10_manAt_0 rfl (lv_at hl 1 rfl) ?_
  refine lv_if_lt (tgt := 12) hx hb dX10_manAt_1 (by decide) (fun c_1 => ?_) (fun c_1 => ?_)
  · refine lv_null hx hb dX10_manAt_12 ?_
    refine lv_goto (tgt := 22) hx hb dX10_manAt_13 (by decide) ?_
    exact W.aret (v := .null) hx hb hr (Or.inl ⟨_, rfl⟩) (Or.inl rfl) (fun t ht hW => ⟨⟨none, (), rfl, rfl, trivial⟩, hS.F ht⟩) hS.2.2 dX10_manAt_22
  · refine lv_iload_n hx hb dX10_manAt_4 rfl (lv_at hl 1 rfl) ?_
    refine lv_aload_n hx hb dX10_manAt_5 rfl (lv_at hl 0 rfl) ?_
    refine va_get (D := (dC, dI)) (ci := 10) (v := .int 0) (C := RX10) (T := TX10) (N := 16) hx hb hts in_wsX10_manAt_X10 hown hK hP 0 rfl rfl 2 (by decide) (hts (.fieldLink RX10 86 "ShipOffice" "manCount" "I") (by decide +kernel)) (fun _ h9 => h9) rfl dX10_manAt_6 ?_
    refine lv_icmp_lt (tgt := 16) hx hb dX10_manAt_9 (by decide) (fun c_2 => absurd c_2 c_1) (fun c_2 => ?_)
    refine lv_null hx hb dX10_manAt_12 ?_
    refine lv_goto (tgt := 22) hx hb dX10_manAt_13 (by decide) ?_
    exact W.aret (v := .null) hx hb hr (Or.inl ⟨_, rfl⟩) (Or.inl rfl) (fun t ht hW => ⟨⟨none, (), rfl, rfl, trivial⟩, hS.F ht⟩) hS.2.2 dX10_manAt_22
set_option maxHeartbeats 4000000 in
set_option maxRecDepth 100000 in
/-- none is there yet -/
theorem c_X10_voyageAt (l : Launch) (dC : Nat → ClassId) (dI : Nat → Nat → Nat) (sz : Nat) (h0 : Nat) (q : Nat → Nat) (cq : Nat → ClassId) (n : Int32) : Met l yX10_voyageAt wsX10_voyageAt ({ frames := 0, cells := 0, slots := 0, locals := 0 }) (va_Pc [.ref h0, .int n] (pcW (dC, dI) [] [(h0, .inr (10, oF q))] sz)) (va_Qq (fun (r : Option Nat) (u : Unit) => r = none) (fun _ _ => True) (va_A [] sz)) 0 0 (va_A [] sz) := by
  refine Met.ofW (cc := cX10_voyageAt) (maxL := 2) (ret := (some (.object "ShipOffice$Voyage"))) (by decide) rfl ?_
  intro p e s m args below meth c s₁ B hml hv
  obtain ⟨rfl, hsz, hP, hK, hD0⟩ := hv
  have hx := B.exec
  have hb := B.bytes
  have hr := B.returns
  have hts := atoms_spec (ws := wsX10_voyageAt) B.pre
  have hown : s.vm.findClass RX10 = some m.cls := findClass_of_methodNamed B.named
  have hlocks := B.notSynchronized
  subst hsz
  have hD := hD0
  generalize hAe : va_A [] s.heap.size = A at ⊢
  have hA : ∀ q : Nat, s.heap.size ≤ q → A q := fun q h => by rw [← hAe]; exact Or.inr h
  have hS : va_S A s.heap s.heap [] := va_S.rf
  have hP : va_P (dC, dI) vwCl [(h0, .inr (10, oF q))] s.heap := hP
  have hl := lv_entry ([.ref h0, .int n]) (n := 2) (Nat.le_of_ble_eq_true rfl)
  rw [lg_entry_eq]
  generalize (lg_sl ([.ref h0, .int n]) ++ List.replicate (2 - (lg_sl ([.ref h0, .int n])).length) Slot.unset).toArray = ls at hl ⊢
  have hl : lv_has ls 2 [(0, .ref h0), (1, .int n)] := hl
  refine lv_iload_n hx hb dX10_voyageAt_0 rfl (lv_at hl 1 rfl) ?_
  refine lv_if_lt (tgt := 12) hx hb dX10_voyageAt_1 (by decide) (fun c_1 => ?_) (fun c_1 => ?_)
  · refine lv_null hx hb dX10_voyageAt_12 ?_
    refine lv_goto (tgt := 22) hx hb dX10_voyageAt_13 (by decide) ?_
    exact W.aret (v := .null) hx hb hr (Or.inl ⟨_, rfl⟩) (Or.inl rfl) (fun t ht hW => ⟨⟨none, (), rfl, rfl, trivial⟩, hS.F ht⟩) hS.2.2 dX10_voyageAt_22
  · refine lv_iload_n hx hb dX10_voyageAt_4 rfl (lv_at hl 1 rfl) ?_
    refine lv_aload_n hx hb dX10_voyageAt_5 rfl (lv_at hl 0 rfl) ?_
    refine va_get (D := (dC, dI)) (ci := 10) (v := .int 0) (C := RX10) (T := TX10) (N := 16) hx hb hts in_wsX10_voyageAt_X10 hown hK hP 0 rfl rfl 4 (by decide) (hts (.fieldLink RX10 99 "ShipOffice" "voyageCount" "I") (by decide +kernel)) (fun _ h9 => h9) rfl dX10_voyageAt_6 ?_
    refine lv_icmp_lt (tgt := 16) hx hb dX10_voyageAt_9 (by decide) (fun c_2 => absurd c_2 c_1) (fun c_2 => ?_)
    refine lv_null hx hb dX10_voyageAt_12 ?_
    refine lv_goto (tgt := 22) hx hb dX10_voyageAt_13 (by decide) ?_
    exact W.aret (v := .null) hx hb hr (Or.inl ⟨_, rfl⟩) (Or.inl rfl) (fun t ht hW => ⟨⟨none, (), rfl, rfl, trivial⟩, hS.F ht⟩) hS.2.2 dX10_voyageAt_22
set_option maxHeartbeats 4000000 in
set_option maxRecDepth 100000 in
theorem c_X10_fineAt (l : Launch) (dC : Nat → ClassId) (dI : Nat → Nat → Nat) (sz : Nat) (n : Int32) : Met l yX10_fineAt wsX10_fineAt ({ frames := 0, cells := 0, slots := 0, locals := 0 }) (va_Pc [.null, .int n] (pcW (dC, dI) [] [] sz)) (va_Qq (fun (r : Option Nat) (u : Unit) => r = none) (fun _ _ => True) (va_A [] sz)) 0 0 (va_A [] sz) := by
  refine Met.ofW (cc := cX10_fineAt) (maxL := 2) (ret := (some (.object "ShipOffice$Fine"))) (by decide) rfl ?_
  intro p e s m args below meth c s₁ B hml hv
  obtain ⟨rfl, hsz, hP, hK, hD0⟩ := hv
  have hx := B.exec
  have hb := B.bytes
  have hr := B.returns
  have hts := atoms_spec (ws := wsX10_fineAt) B.pre
  have hown : s.vm.findClass RX10 = some m.cls := findClass_of_methodNamed B.named
  have hlocks := B.notSynchronized
  subst hsz
  have hD := hD0
  generalize hAe : va_A [] s.heap.size = A at ⊢
  have hA : ∀ q : Nat, s.heap.size ≤ q → A q := fun q h => by rw [← hAe]; exact Or.inr h
  have hS : va_S A s.heap s.heap [] := va_S.rf
  have hP : va_P (dC, dI) vwCl [] s.heap := hP
  have hl := lv_entry ([.null, .int n]) (n := 2) (Nat.le_of_ble_eq_true rfl)
  rw [lg_entry_eq]
  generalize (lg_sl ([.null, .int n]) ++ List.replicate (2 - (lg_sl ([.null, .int n])).length) Slot.unset).toArray = ls at hl ⊢
  have hl : lv_has ls 2 [(0, .null), (1, .int n)] := hl
  refine lv_aload_nN hx hb dX10_fineAt_0 rfl (lv_at hl 0 rfl) ?_
  refine lv_ifnullN (tgt := 16) hx hb dX10_fineAt_1 (by decide) ?_
  refine lv_null hx hb dX10_fineAt_16 ?_
  refine lv_goto (tgt := 26) hx hb dX10_fineAt_17 (by decide) ?_
  exact W.aret (v := .null) hx hb hr (Or.inl ⟨_, rfl⟩) (Or.inl rfl) (fun t ht hW => ⟨⟨none, (), rfl, rfl, trivial⟩, hS.F ht⟩) hS.2.2 dX10_fineAt_26
set_option maxHeartbeats 4000000 in
set_option maxRecDepth 100000 in
theorem c_X10_ended (l : Launch) (dC : Nat → ClassId) (dI : Nat → Nat → Nat) (sz : Nat) (h0 : Nat) (q : Nat → Nat) (cq : Nat → ClassId) (a1 : Int32) (a2 : Int32) : Met l yX10_ended wsX10_ended ({ frames := 1, cells := 0, slots := 0, locals := 21 }) (va_Pc [.ref h0, .int a1, .int a2] (pcW (dC, dI) [((cq 15), .int)] [(h0, .inr (10, oF q)), ((q 15), .inl ((cq 15), 7, .inl (fun _ => 0)))] sz)) (va_Qi (fun (r : Int32) (u : Unit) => r = (-1)) (fun _ _ => True) (va_A [(h0, .inr (10, oF q)), ((q 15), .inl ((cq 15), 7, .inl (fun _ => 0)))] sz)) 0 0 (va_A [(h0, .inr (10, oF q)), ((q 15), .inl ((cq 15), 7, .inl (fun _ => 0)))] sz) := by
  refine Met.ofW (cc := cX10_ended) (maxL := 7) (ret := (some .int)) (by decide) rfl ?_
  intro p e s m args below meth c s₁ B hml hv
  obtain ⟨rfl, hsz, hP, hK, hD0⟩ := hv
  have hx := B.exec
  have hb := B.bytes
  have hr := B.returns
  have hts := atoms_spec (ws := wsX10_ended) B.pre
  have hown : s.vm.findClass RX10 = some m.cls := findClass_of_methodNamed B.named
  have hlocks := B.notSynchronized
  subst hsz
  have hD := hD0.self (sz := s.heap.size)
  generalize hAe : va_A [(h0, .inr (10, oF q)), ((q 15), .inl ((cq 15), 7, .inl (fun _ => 0)))] s.heap.size = A at hD ⊢
  have hA : ∀ q : Nat, s.heap.size ≤ q → A q := fun q h => by rw [← hAe]; exact Or.inr h
  have hS : va_S A s.heap s.heap [] := va_S.rf
  have hP : va_P (dC, dI) vwCl [(h0, .inr (10, oF q)), ((q 15), .inl ((cq 15), 7, .inl (fun _ => 0)))] s.heap := hP
  have hl := lv_entry ([.ref h0, .int a1, .int a2]) (n := 7) (Nat.le_of_ble_eq_true rfl)
  rw [lg_entry_eq]
  generalize (lg_sl ([.ref h0, .int a1, .int a2]) ++ List.replicate (7 - (lg_sl ([.ref h0, .int a1, .int a2])).length) Slot.unset).toArray = ls at hl ⊢
  have hl : lv_has ls 7 [(0, .ref h0), (1, .int a1), (2, .int a2)] := hl
  refine lv_aload_n hx hb dX10_ended_0 rfl (lv_at hl 0 rfl) ?_
  refine lv_iload_n hx hb dX10_ended_1 rfl (lv_at hl 1 rfl) ?_
  have hPc := hP.sub (ws' := [(h0, .inr (10, oF q))]) [0] rfl
  have hDc := hD.sub (ws' := [(h0, .inr (10, oF q))]) [0] (by decide) rfl
  have hKc := hK.sub (tys' := []) [] rfl
  have hFc : ∀ q, va_A [] s.heap.size q → A q := pu_free hS hA
  refine va_callq (va_runV (As := [.int a1]) (rest := []) ⟨hx, hb, hml, hown, hts⟩ (c_X10_voyageAt l dC dI s.heap.size h0 q cq a1) (cwV 1 hts gX10_ended_X10_voyageAt rfl rfl rfl (by decide +kernel) ⟨(Nat.le_of_ble_eq_true rfl), (Nat.le_of_ble_eq_true rfl)⟩) (pr_V (r := (RX10, TX10, 16)) hPc hKc hDc 0 10 rfl rfl) rfl rfl hl.1 rfl (lv_room (Nat.le_of_ble_eq_true rfl)) dX10_ended_2 ⟨(Nat.le_of_ble_eq_true rfl), (Nat.le_of_ble_eq_true rfl)⟩) hS (fun q _ h => hFc q h) hFc (fun r_2 u t H locs ht hvm w_1 hB hz1 hk1 hS => ?_)
  have hP := pu_keep hP hk1
  clear hk1 hz1 hvm hB hPc hDc hKc hFc ht
  subst w_1
  refine W.eq (g2 := F0 m 5 ls [.null]) rfl ?_
  refine lv_astore_nN (lv' := [(3, .null), (0, .ref h0), (1, .int a1), (2, .int a2)]) hx hb dX10_ended_5 rfl hl (by decide) rfl (fun ls hl => ?_)
  refine lv_aload_nN hx hb dX10_ended_6 rfl (lv_at hl 0 rfl) ?_
  refine lv_ifnullN (tgt := 17) hx hb dX10_ended_7 (by decide) ?_
  refine lv_aload_n hx hb dX10_ended_17 rfl (lv_at hl 1 rfl) ?_
  refine lv_iconst (v := (-1)) hx hb dX10_ended_18 (by decide) ?_
  have hPc := hP.sub (ws' := [(h0, .inr (10, oF q)), ((q 15), .inl ((cq 15), 7, .inl (fun _ => 0)))]) [0, 1] rfl
  have hDc := hD.sub (ws' := [(h0, .inr (10, oF q)), ((q 15), .inl ((cq 15), 7, .inl (fun _ => 0)))]) [0, 1] (by decide) rfl
  have hKc := hK.sub (tys' := [((cq 15), .int)]) [0] rfl
  have hFc := va_free (wc := [(h0, .inr (10, oF q)), ((q 15), .inl ((cq 15), 7, .inl (fun _ => 0)))]) hD hS hA [0, 1] rfl
  refine va_calli (va_runV (As := [.int (-1)]) (rest := []) ⟨hx, hb, hml, hown, hts⟩ (c_X10_refuse l dC dI H.size h0 q cq (-1) (by unfold vp_in; decide)) (cwV 1 hts gX10_ended_X10_refuse rfl rfl rfl (by decide +kernel) ⟨(Nat.le_of_ble_eq_true rfl), (Nat.le_of_ble_eq_true rfl)⟩) (pr_V (r := (RX10, TX10, 16)) hPc hKc hDc 0 10 rfl rfl) rfl rfl hl.1 rfl (lv_room (Nat.le_of_ble_eq_true rfl)) dX10_ended_19 ⟨(Nat.le_of_ble_eq_true rfl), (Nat.le_of_ble_eq_true rfl)⟩) hS (fun q _ h => hFc q h) hFc (fun r_4 u t H locs ht hvm w_3 hB hz1 hk1 hS => ?_)
  subst w_3
  exact W.iret (v := (-1)) hx hb hr (fun t ht hW => ⟨⟨(-1), (), rfl, rfl, trivial⟩, hS.F ht⟩) hS.2.2 dX10_ended_22
set_option maxHeartbeats 4000000 in
set_option maxRecDepth 100000 in
theorem c_X10_sailed (l : Launch) (dC : Nat → ClassId) (dI : Nat → Nat → Nat) (sz : Nat) (h0 : Nat) (q : Nat → Nat) (cq : Nat → ClassId) (a1 : Int32) (a2 : Int32) : Met l yX10_sailed wsX10_sailed ({ frames := 1, cells := 0, slots := 0, locals := 21 }) (va_Pc [.ref h0, .int a1, .int a2] (pcW (dC, dI) [((cq 15), .int)] [(h0, .inr (10, oF q)), ((q 15), .inl ((cq 15), 7, .inl (fun _ => 0)))] sz)) (va_Qi (fun (r : Int32) (u : Unit) => r = (-1)) (fun _ _ => True) (va_A [(h0, .inr (10, oF q)), ((q 15), .inl ((cq 15), 7, .inl (fun _ => 0)))] sz)) 0 0 (va_A [(h0, .inr (10, oF q)), ((q 15), .inl ((cq 15), 7, .inl (fun _ => 0)))] sz) := by
  refine Met.ofW (cc := cX10_sailed) (maxL := 5) (ret := (some .int)) (by decide) rfl ?_
  intro p e s m args below meth c s₁ B hml hv
  obtain ⟨rfl, hsz, hP, hK, hD0⟩ := hv
  have hx := B.exec
  have hb := B.bytes
  have hr := B.returns
  have hts := atoms_spec (ws := wsX10_sailed) B.pre
  have hown : s.vm.findClass RX10 = some m.cls := findClass_of_methodNamed B.named
  have hlocks := B.notSynchronized
  subst hsz
  have hD := hD0.self (sz := s.heap.size)
  generalize hAe : va_A [(h0, .inr (10, oF q)), ((q 15), .inl ((cq 15), 7, .inl (fun _ => 0)))] s.heap.size = A at hD ⊢
  have hA : ∀ q : Nat, s.heap.size ≤ q → A q := fun q h => by rw [← hAe]; exact Or.inr h
  have hS : va_S A s.heap s.heap [] := va_S.rf
  have hP : va_P (dC, dI) vwCl [(h0, .inr (10, oF q)), ((q 15), .inl ((cq 15), 7, .inl (fun _ => 0)))] s.heap := hP
  have hl := lv_entry ([.ref h0, .int a1, .int a2]) (n := 5) (Nat.le_of_ble_eq_true rfl)
  rw [lg_entry_eq]
  generalize (lg_sl ([.ref h0, .int a1, .int a2]) ++ List.replicate (5 - (lg_sl ([.ref h0, .int a1, .int a2])).length) Slot.unset).toArray = ls at hl ⊢
  have hl : lv_has ls 5 [(0, .ref h0), (1, .int a1), (2, .int a2)] := hl
  refine lv_aload_n hx hb dX10_sailed_0 rfl (lv_at hl 0 rfl) ?_
  refine lv_iload_n hx hb dX10_sailed_1 rfl (lv_at hl 1 rfl) ?_
  have hPc := hP.sub (ws' := [(h0, .inr (10, oF q))]) [0] rfl
  have hDc := hD.sub (ws' := [(h0, .inr (10, oF q))]) [0] (by decide) rfl
  have hKc := hK.sub (tys' := []) [] rfl
  have hFc : ∀ q, va_A [] s.heap.size q → A q := pu_free hS hA
  refine va_callq (va_runV (As := [.int a1]) (rest := []) ⟨hx, hb, hml, hown, hts⟩ (c_X10_voyageAt l dC dI s.heap.size h0 q cq a1) (cwV 1 hts gX10_sailed_X10_voyageAt rfl rfl rfl (by decide +kernel) ⟨(Nat.le_of_ble_eq_true rfl), (Nat.le_of_ble_eq_true rfl)⟩) (pr_V (r := (RX10, TX10, 16)) hPc hKc hDc 0 10 rfl rfl) rfl rfl hl.1 rfl (lv_room (Nat.le_of_ble_eq_true rfl)) dX10_sailed_2 ⟨(Nat.le_of_ble_eq_true rfl), (Nat.le_of_ble_eq_true rfl)⟩) hS (fun q _ h => hFc q h) hFc (fun r_2 u t H locs ht hvm w_1 hB hz1 hk1 hS => ?_)
  have hP := pu_keep hP hk1
  clear hk1 hz1 hvm hB hPc hDc hKc hFc ht
  subst w_1
  refine W.eq (g2 := F0 m 5 ls [.null]) rfl ?_
  refine lv_astore_nN (lv' := [(3, .null), (0, .ref h0), (1, .int a1), (2, .int a2)]) hx hb dX10_sailed_5 rfl hl (by decide) rfl (fun ls hl => ?_)
  refine lv_aload_nN hx hb dX10_sailed_6 rfl (lv_at hl 0 rfl) ?_
  refine lv_ifnonnullN hx hb dX10_sailed_7 ?_
  refine lv_aload_n hx hb dX10_sailed_10 rfl (lv_at hl 1 rfl) ?_
  refine lv_iconst (v := (-1)) hx hb dX10_sailed_11 (by decide) ?_
  have hPc := hP.sub (ws' := [(h0, .inr (10, oF q)), ((q 15), .inl ((cq 15), 7, .inl (fun _ => 0)))]) [0, 1] rfl
  have hDc := hD.sub (ws' := [(h0, .inr (10, oF q)), ((q 15), .inl ((cq 15), 7, .inl (fun _ => 0)))]) [0, 1] (by decide) rfl
  have hKc := hK.sub (tys' := [((cq 15), .int)]) [0] rfl
  have hFc := va_free (wc := [(h0, .inr (10, oF q)), ((q 15), .inl ((cq 15), 7, .inl (fun _ => 0)))]) hD hS hA [0, 1] rfl
  refine va_calli (va_runV (As := [.int (-1)]) (rest := []) ⟨hx, hb, hml, hown, hts⟩ (c_X10_refuse l dC dI H.size h0 q cq (-1) (by unfold vp_in; decide)) (cwV 1 hts gX10_sailed_X10_refuse rfl rfl rfl (by decide +kernel) ⟨(Nat.le_of_ble_eq_true rfl), (Nat.le_of_ble_eq_true rfl)⟩) (pr_V (r := (RX10, TX10, 16)) hPc hKc hDc 0 10 rfl rfl) rfl rfl hl.1 rfl (lv_room (Nat.le_of_ble_eq_true rfl)) dX10_sailed_12 ⟨(Nat.le_of_ble_eq_true rfl), (Nat.le_of_ble_eq_true rfl)⟩) hS (fun q _ h => hFc q h) hFc (fun r_4 u t H locs ht hvm w_3 hB hz1 hk1 hS => ?_)
  subst w_3
  exact W.iret (v := (-1)) hx hb hr (fun t ht hW => ⟨⟨(-1), (), rfl, rfl, trivial⟩, hS.F ht⟩) hS.2.2 dX10_sailed_15
set_option maxHeartbeats 4000000 in
set_option maxRecDepth 100000 in
theorem c_X10_heard (l : Launch) (dC : Nat → ClassId) (dI : Nat → Nat → Nat) (sz : Nat) (h0 : Nat) (q : Nat → Nat) (cq : Nat → ClassId) (a1 : Int32) (a2 : Int32) : Met l yX10_heard wsX10_heard ({ frames := 1, cells := 0, slots := 0, locals := 21 }) (va_Pc [.ref h0, .int a1, .int a2] (pcW (dC, dI) [((cq 15), .int)] [(h0, .inr (10, oF q)), ((q 15), .inl ((cq 15), 7, .inl (fun _ => 0)))] sz)) (va_Qi (fun (r : Int32) (u : Unit) => r = (-1)) (fun _ _ => True) (va_A [(h0, .inr (10, oF q)), ((q 15), .inl ((cq 15), 7, .inl (fun _ => 0)))] sz)) 0 0 (va_A [(h0, .inr (10, oF q)), ((q 15), .inl ((cq 15), 7, .inl (fun _ => 0)))] sz) := by
  refine Met.ofW (cc := cX10_heard) (maxL := 5) (ret := (some .int)) (by decide) rfl ?_
  intro p e s m args below meth c s₁ B hml hv
  obtain ⟨rfl, hsz, hP, hK, hD0⟩ := hv
  have hx := B.exec
  have hb := B.bytes
  have hr := B.returns
  have hts := atoms_spec (ws := wsX10_heard) B.pre
  have hown : s.vm.findClass RX10 = some m.cls := findClass_of_methodNamed B.named
  have hlocks := B.notSynchronized
  subst hsz
  have hD := hD0.self (sz := s.heap.size)
  generalize hAe : va_A [(h0, .inr (10, oF q)), ((q 15), .inl ((cq 15), 7, .inl (fun _ => 0)))] s.heap.size = A at hD ⊢
  have hA : ∀ q : Nat, s.heap.size ≤ q → A q := fun q h => by rw [← hAe]; exact Or.inr h
  have hS : va_S A s.heap s.heap [] := va_S.rf
  have hP : va_P (dC, dI) vwCl [(h0, .inr (10, oF q)), ((q 15), .inl ((cq 15), 7, .inl (fun _ => 0)))] s.heap := hP
  have hl := lv_entry ([.ref h0, .int a1, .int a2]) (n := 5) (Nat.le_of_ble_eq_true rfl)
  rw [lg_entry_eq]
  generalize (lg_sl ([.ref h0, .int a1, .int a2]) ++ List.replicate (5 - (lg_sl ([.ref h0, .int a1, .int a2])).length) Slot.unset).toArray = ls at hl ⊢
  have hl : lv_has ls 5 [(0, .ref h0), (1, .int a1), (2, .int a2)] := hl
  refine lv_aload_n hx hb dX10_heard_0 rfl (lv_at hl 0 rfl) ?_
  refine lv_iload_n hx hb dX10_heard_1 rfl (lv_at hl 1 rfl) ?_
  have hPc := hP.sub (ws' := [(h0, .inr (10, oF q))]) [0] rfl
  have hDc := hD.sub (ws' := [(h0, .inr (10, oF q))]) [0] (by decide) rfl
  have hKc := hK.sub (tys' := []) [] rfl
  have hFc : ∀ q, va_A [] s.heap.size q → A q := pu_free hS hA
  refine va_callq (va_runV (As := [.int a1]) (rest := []) ⟨hx, hb, hml, hown, hts⟩ (c_X10_voyageAt l dC dI s.heap.size h0 q cq a1) (cwV 1 hts gX10_heard_X10_voyageAt rfl rfl rfl (by decide +kernel) ⟨(Nat.le_of_ble_eq_true rfl), (Nat.le_of_ble_eq_true rfl)⟩) (pr_V (r := (RX10, TX10, 16)) hPc hKc hDc 0 10 rfl rfl) rfl rfl hl.1 rfl (lv_room (Nat.le_of_ble_eq_true rfl)) dX10_heard_2 ⟨(Nat.le_of_ble_eq_true rfl), (Nat.le_of_ble_eq_true rfl)⟩) hS (fun q _ h => hFc q h) hFc (fun r_2 u t H locs ht hvm w_1 hB hz1 hk1 hS => ?_)
  have hP := pu_keep hP hk1
  clear hk1 hz1 hvm hB hPc hDc hKc hFc ht
  subst w_1
  refine W.eq (g2 := F0 m 5 ls [.null]) rfl ?_
  refine lv_astore_nN (lv' := [(3, .null), (0, .ref h0), (1, .int a1), (2, .int a2)]) hx hb dX10_heard_5 rfl hl (by decide) rfl (fun ls hl => ?_)
  refine lv_aload_nN hx hb dX10_heard_6 rfl (lv_at hl 0 rfl) ?_
  refine lv_ifnonnullN hx hb dX10_heard_7 ?_
  refine lv_aload_n hx hb dX10_heard_10 rfl (lv_at hl 1 rfl) ?_
  refine lv_iconst (v := (-1)) hx hb dX10_heard_11 (by decide) ?_
  have hPc := hP.sub (ws' := [(h0, .inr (10, oF q)), ((q 15), .inl ((cq 15), 7, .inl (fun _ => 0)))]) [0, 1] rfl
  have hDc := hD.sub (ws' := [(h0, .inr (10, oF q)), ((q 15), .inl ((cq 15), 7, .inl (fun _ => 0)))]) [0, 1] (by decide) rfl
  have hKc := hK.sub (tys' := [((cq 15), .int)]) [0] rfl
  have hFc := va_free (wc := [(h0, .inr (10, oF q)), ((q 15), .inl ((cq 15), 7, .inl (fun _ => 0)))]) hD hS hA [0, 1] rfl
  refine va_calli (va_runV (As := [.int (-1)]) (rest := []) ⟨hx, hb, hml, hown, hts⟩ (c_X10_refuse l dC dI H.size h0 q cq (-1) (by unfold vp_in; decide)) (cwV 1 hts gX10_heard_X10_refuse rfl rfl rfl (by decide +kernel) ⟨(Nat.le_of_ble_eq_true rfl), (Nat.le_of_ble_eq_true rfl)⟩) (pr_V (r := (RX10, TX10, 16)) hPc hKc hDc 0 10 rfl rfl) rfl rfl hl.1 rfl (lv_room (Nat.le_of_ble_eq_true rfl)) dX10_heard_12 ⟨(Nat.le_of_ble_eq_true rfl), (Nat.le_of_ble_eq_true rfl)⟩) hS (fun q _ h => hFc q h) hFc (fun r_4 u t H locs ht hvm w_3 hB hz1 hk1 hS => ?_)
  subst w_3
  exact W.iret (v := (-1)) hx hb hr (fun t ht hW => ⟨⟨(-1), (), rfl, rfl, trivial⟩, hS.F ht⟩) hS.2.2 dX10_heard_15
set_option maxHeartbeats 4000000 in
set_option maxRecDepth 100000 in
theorem c_X10_lost (l : Launch) (dC : Nat → ClassId) (dI : Nat → Nat → Nat) (sz : Nat) (h0 : Nat) (q : Nat → Nat) (cq : Nat → ClassId) (a1 : Int32) (a2 : Int32) : Met l yX10_lost wsX10_lost ({ frames := 1, cells := 0, slots := 0, locals := 21 }) (va_Pc [.ref h0, .int a1, .int a2] (pcW (dC, dI) [((cq 15), .int)] [(h0, .inr (10, oF q)), ((q 15), .inl ((cq 15), 7, .inl (fun _ => 0)))] sz)) (va_Qi (fun (r : Int32) (u : Unit) => r = (-1)) (fun _ _ => True) (va_A [(h0, .inr (10, oF q)), ((q 15), .inl ((cq 15), 7, .inl (fun _ => 0)))] sz)) 0 0 (va_A [(h0, .inr (10, oF q)), ((q 15), .inl ((cq 15), 7, .inl (fun _ => 0)))] sz) := by
  refine Met.ofW (cc := cX10_lost) (maxL := 5) (ret := (some .int)) (by decide) rfl ?_
  intro p e s m args below meth c s₁ B hml hv
  obtain ⟨rfl, hsz, hP, hK, hD0⟩ := hv
  have hx := B.exec
  have hb := B.bytes
  have hr := B.returns
  have hts := atoms_spec (ws := wsX10_lost) B.pre
  have hown : s.vm.findClass RX10 = some m.cls := findClass_of_methodNamed B.named
  have hlocks := B.notSynchronized
  subst hsz
  have hD := hD0.self (sz := s.heap.size)
  generalize hAe : va_A [(h0, .inr (10, oF q)), ((q 15), .inl ((cq 15), 7, .inl (fun _ => 0)))] s.heap.size = A at hD ⊢
  have hA : ∀ q : Nat, s.heap.size ≤ q → A q := fun q h => by rw [← hAe]; exact Or.inr h
  have hS : va_S A s.heap s.heap [] := va_S.rf
  have hP : va_P (dC, dI) vwCl [(h0, .inr (10, oF q)), ((q 15), .inl ((cq 15), 7, .inl (fun _ => 0)))] s.heap := hP
  have hl := lv_entry ([.ref h0, .int a1, .int a2]) (n := 5) (Nat.le_of_ble_eq_true rfl)
  rw [lg_entry_eq]
  generalize (lg_sl ([.ref h0, .int a1, .int a2]) ++ List.replicate (5 - (lg_sl ([.ref h0, .int a1, .int a2])).length) Slot.unset).toArray = ls at hl ⊢
  have hl : lv_has ls 5 [(0, .ref h0), (1, .int a1), (2, .int a2)] := hl
  refine lv_aload_n hx hb dX10_lost_0 rfl (lv_at hl 0 rfl) ?_
  refine lv_iload_n hx hb dX10_lost_1 rfl (lv_at hl 1 rfl) ?_
  have hPc := hP.sub (ws' := [(h0, .inr (10, oF q))]) [0] rfl
  have hDc := hD.sub (ws' := [(h0, .inr (10, oF q))]) [0] (by decide) rfl
  have hKc := hK.sub (tys' := []) [] rfl
  have hFc : ∀ q, va_A [] s.heap.size q → A q := pu_free hS hA
  refine va_callq (va_runV (As := [.int a1]) (rest := []) ⟨hx, hb, hml, hown, hts⟩ (c_X10_voyageAt l dC dI s.heap.size h0 q cq a1) (cwV 1 hts gX10_lost_X10_voyageAt rfl rfl rfl (by decide +kernel) ⟨(Nat.le_of_ble_eq_true rfl), (Nat.le_of_ble_eq_true rfl)⟩) (pr_V (r := (RX10, TX10, 16)) hPc hKc hDc 0 10 rfl rfl) rfl rfl hl.1 rfl (lv_room (Nat.le_of_ble_eq_true rfl)) dX10_lost_2 ⟨(Nat.le_of_ble_eq_true rfl), (Nat.le_of_ble_eq_true rfl)⟩) hS (fun q _ h => hFc q h) hFc (fun r_2 u t H locs ht hvm w_1 hB hz1 hk1 hS => ?_)
  have hP := pu_keep hP hk1
  clear hk1 hz1 hvm hB hPc hDc hKc hFc ht
  subst w_1
  refine W.eq (g2 := F0 m 5 ls [.null]) rfl ?_
  refine lv_astore_nN (lv' := [(3, .null), (0, .ref h0), (1, .int a1), (2, .int a2)]) hx hb dX10_lost_5 rfl hl (by decide) rfl (fun ls hl => ?_)
  refine lv_aload_nN hx hb dX10_lost_6 rfl (lv_at hl 0 rfl) ?_
  refine lv_ifnonnullN hx hb dX10_lost_7 ?_
  refine lv_aload_n hx hb dX10_lost_10 rfl (lv_at hl 1 rfl) ?_
  refine lv_iconst (v := (-1)) hx hb dX10_lost_11 (by decide) ?_
  have hPc := hP.sub (ws' := [(h0, .inr (10, oF q)), ((q 15), .inl ((cq 15), 7, .inl (fun _ => 0)))]) [0, 1] rfl
  have hDc := hD.sub (ws' := [(h0, .inr (10, oF q)), ((q 15), .inl ((cq 15), 7, .inl (fun _ => 0)))]) [0, 1] (by decide) rfl
  have hKc := hK.sub (tys' := [((cq 15), .int)]) [0] rfl
  have hFc := va_free (wc := [(h0, .inr (10, oF q)), ((q 15), .inl ((cq 15), 7, .inl (fun _ => 0)))]) hD hS hA [0, 1] rfl
  refine va_calli (va_runV (As := [.int (-1)]) (rest := []) ⟨hx, hb, hml, hown, hts⟩ (c_X10_refuse l dC dI H.size h0 q cq (-1) (by unfold vp_in; decide)) (cwV 1 hts gX10_lost_X10_refuse rfl rfl rfl (by decide +kernel) ⟨(Nat.le_of_ble_eq_true rfl), (Nat.le_of_ble_eq_true rfl)⟩) (pr_V (r := (RX10, TX10, 16)) hPc hKc hDc 0 10 rfl rfl) rfl rfl hl.1 rfl (lv_room (Nat.le_of_ble_eq_true rfl)) dX10_lost_12 ⟨(Nat.le_of_ble_eq_true rfl), (Nat.le_of_ble_eq_true rfl)⟩) hS (fun q _ h => hFc q h) hFc (fun r_4 u t H locs ht hvm w_3 hB hz1 hk1 hS => ?_)
  subst w_3
  exact W.iret (v := (-1)) hx hb hr (fun t ht hW => ⟨⟨(-1), (), rfl, rfl, trivial⟩, hS.F ht⟩) hS.2.2 dX10_lost_15
set_option maxHeartbeats 4000000 in
set_option maxRecDepth 100000 in
theorem c_X10_left (l : Launch) (dC : Nat → ClassId) (dI : Nat → Nat → Nat) (sz : Nat) (h0 : Nat) (q : Nat → Nat) (cq : Nat → ClassId) (a1 : Int32) (a2 : Int32) (a3 : Int32) (a4 : Int32) : Met l yX10_left wsX10_left ({ frames := 1, cells := 0, slots := 0, locals := 21 }) (va_Pc [.ref h0, .int a1, .int a2, .int a3, .int a4] (pcW (dC, dI) [((cq 15), .int)] [(h0, .inr (10, oF q)), ((q 15), .inl ((cq 15), 7, .inl (fun _ => 0)))] sz)) (va_Qi (fun (r : Int32) (u : Unit) => r = (-1)) (fun _ _ => True) (va_A [(h0, .inr (10, oF q)), ((q 15), .inl ((cq 15), 7, .inl (fun _ => 0)))] sz)) 0 0 (va_A [(h0, .inr (10, oF q)), ((q 15), .inl ((cq 15), 7, .inl (fun _ => 0)))] sz) := by
  refine Met.ofW (cc := cX10_left) (maxL := 7) (ret := (some .int)) (by decide) rfl ?_
  intro p e s m args below meth c s₁ B hml hv
  obtain ⟨rfl, hsz, hP, hK, hD0⟩ := hv
  have hx := B.exec
  have hb := B.bytes
  have hr := B.returns
  have hts := atoms_spec (ws := wsX10_left) B.pre
  have hown : s.vm.findClass RX10 = some m.cls := findClass_of_methodNamed B.named
  have hlocks := B.notSynchronized
  subst hsz
  have hD := hD0.self (sz := s.heap.size)
  generalize hAe : va_A [(h0, .inr (10, oF q)), ((q 15), .inl ((cq 15), 7, .inl (fun _ => 0)))] s.heap.size = A at hD ⊢
  have hA : ∀ q : Nat, s.heap.size ≤ q → A q := fun q h => by rw [← hAe]; exact Or.inr h
  have hS : va_S A s.heap s.heap [] := va_S.rf
  have hP : va_P (dC, dI) vwCl [(h0, .inr (10, oF q)), ((q 15), .inl ((cq 15), 7, .inl (fun _ => 0)))] s.heap := hP
  have hl := lv_entry ([.ref h0, .int a1, .int a2, .int a3, .int a4]) (n := 7) (Nat.le_of_ble_eq_true rfl)
  rw [lg_entry_eq]
  generalize (lg_sl ([.ref h0, .int a1, .int a2, .int a3, .int a4]) ++ List.replicate (7 - (lg_sl ([.ref h0, .int a1, .int a2, .int a3, .int a4])).length) Slot.unset).toArray = ls at hl ⊢
  have hl : lv_has ls 7 [(0, .ref h0), (1, .int a1), (2, .int a2), (3, .int a3), (4, .int a4)] := hl
  refine lv_aload_n hx hb dX10_left_0 rfl (lv_at hl 0 rfl) ?_
  refine lv_iload_n hx hb dX10_left_1 rfl (lv_at hl 1 rfl) ?_
  have hPc := hP.sub (ws' := [(h0, .inr (10, oF q))]) [0] rfl
  have hDc := hD.sub (ws' := [(h0, .inr (10, oF q))]) [0] (by decide) rfl
  have hKc := hK.sub (tys' := []) [] rfl
  have hFc : ∀ q, va_A [] s.heap.size q → A q := pu_free hS hA
  refine va_callq (va_runV (As := [.int a1]) (rest := []) ⟨hx, hb, hml, hown, hts⟩ (c_X10_agreementAt l dC dI s.heap.size h0 q cq a1) (cwV 1 hts gX10_left_X10_agreementAt rfl rfl rfl (by decide +kernel) ⟨(Nat.le_of_ble_eq_true rfl), (Nat.le_of_ble_eq_true rfl)⟩) (pr_V (r := (RX10, TX10, 16)) hPc hKc hDc 0 10 rfl rfl) rfl rfl hl.1 rfl (lv_room (Nat.le_of_ble_eq_true rfl)) dX10_left_2 ⟨(Nat.le_of_ble_eq_true rfl), (Nat.le_of_ble_eq_true rfl)⟩) hS (fun q _ h => hFc q h) hFc (fun r_2 u t H locs ht hvm w_1 hB hz1 hk1 hS => ?_)
  have hP := pu_keep hP hk1
  clear hk1 hz1 hvm hB hPc hDc hKc hFc ht
  subst w_1
  refine W.eq (g2 := F0 m 5 ls [.null]) rfl ?_
  refine lv_astoreN (lv' := [(5, .null), (0, .ref h0), (1, .int a1), (2, .int a2), (3, .int a3), (4, .int a4)]) hx hb dX10_left_5 hl (by decide) rfl (fun ls hl => ?_)
  refine lv_aloadN hx hb dX10_left_7 (lv_at hl 0 rfl) ?_
  refine lv_ifnullN (tgt := 20) hx hb dX10_left_9 (by decide) ?_
  refine lv_aload_n hx hb dX10_left_20 rfl (lv_at hl 1 rfl) ?_
  refine lv_iconst (v := (-1)) hx hb dX10_left_21 (by decide) ?_
  have hPc := hP.sub (ws' := [(h0, .inr (10, oF q)), ((q 15), .inl ((cq 15), 7, .inl (fun _ => 0)))]) [0, 1] rfl
  have hDc := hD.sub (ws' := [(h0, .inr (10, oF q)), ((q 15), .inl ((cq 15), 7, .inl (fun _ => 0)))]) [0, 1] (by decide) rfl
  have hKc := hK.sub (tys' := [((cq 15), .int)]) [0] rfl
  have hFc := va_free (wc := [(h0, .inr (10, oF q)), ((q 15), .inl ((cq 15), 7, .inl (fun _ => 0)))]) hD hS hA [0, 1] rfl
  refine va_calli (va_runV (As := [.int (-1)]) (rest := []) ⟨hx, hb, hml, hown, hts⟩ (c_X10_refuse l dC dI H.size h0 q cq (-1) (by unfold vp_in; decide)) (cwV 1 hts gX10_left_X10_refuse rfl rfl rfl (by decide +kernel) ⟨(Nat.le_of_ble_eq_true rfl), (Nat.le_of_ble_eq_true rfl)⟩) (pr_V (r := (RX10, TX10, 16)) hPc hKc hDc 0 10 rfl rfl) rfl rfl hl.1 rfl (lv_room (Nat.le_of_ble_eq_true rfl)) dX10_left_22 ⟨(Nat.le_of_ble_eq_true rfl), (Nat.le_of_ble_eq_true rfl)⟩) hS (fun q _ h => hFc q h) hFc (fun r_4 u t H locs ht hvm w_3 hB hz1 hk1 hS => ?_)
  subst w_3
  exact W.iret (v := (-1)) hx hb hr (fun t ht hW => ⟨⟨(-1), (), rfl, rfl, trivial⟩, hS.F ht⟩) hS.2.2 dX10_left_25
set_option maxHeartbeats 4000000 in
set_option maxRecDepth 100000 in
theorem c_X10_died (l : Launch) (dC : Nat → ClassId) (dI : Nat → Nat → Nat) (sz : Nat) (h0 : Nat) (q : Nat → Nat) (cq : Nat → ClassId) (a1 : Int32) (a2 : Int32) : Met l yX10_died wsX10_died ({ frames := 1, cells := 0, slots := 0, locals := 21 }) (va_Pc [.ref h0, .int a1, .int a2] (pcW (dC, dI) [((cq 15), .int)] [(h0, .inr (10, oF q)), ((q 15), .inl ((cq 15), 7, .inl (fun _ => 0)))] sz)) (va_Qi (fun (r : Int32) (u : Unit) => r = (-1)) (fun _ _ => True) (va_A [(h0, .inr (10, oF q)), ((q 15), .inl ((cq 15), 7, .inl (fun _ => 0)))] sz)) 0 0 (va_A [(h0, .inr (10, oF q)), ((q 15), .inl ((cq 15), 7, .inl (fun _ => 0)))] sz) := by
  refine Met.ofW (cc := cX10_died) (maxL := 5) (ret := (some .int)) (by decide) rfl ?_
  intro p e s m args below meth c s₁ B hml hv
  obtain ⟨rfl, hsz, hP, hK, hD0⟩ := hv
  have hx := B.exec
  have hb := B.bytes
  have hr := B.returns
  have hts := atoms_spec (ws := wsX10_died) B.pre
  have hown : s.vm.findClass RX10 = some m.cls := findClass_of_methodNamed B.named
  have hlocks := B.notSynchronized
  subst hsz
  have hD := hD0.self (sz := s.heap.size)
  generalize hAe : va_A [(h0, .inr (10, oF q)), ((q 15), .inl ((cq 15), 7, .inl (fun _ => 0)))] s.heap.size = A at hD ⊢
  have hA : ∀ q : Nat, s.heap.size ≤ q → A q := fun q h => by rw [← hAe]; exact Or.inr h
  have hS : va_S A s.heap s.heap [] := va_S.rf
  have hP : va_P (dC, dI) vwCl [(h0, .inr (10, oF q)), ((q 15), .inl ((cq 15), 7, .inl (fun _ => 0)))] s.heap := hP
  have hl := lv_entry ([.ref h0, .int a1, .int a2]) (n := 5) (Nat.le_of_ble_eq_true rfl)
  rw [lg_entry_eq]
  generalize (lg_sl ([.ref h0, .int a1, .int a2]) ++ List.replicate (5 - (lg_sl ([.ref h0, .int a1, .int a2])).length) Slot.unset).toArray = ls at hl ⊢
  have hl : lv_has ls 5 [(0, .ref h0), (1, .int a1), (2, .int a2)] := hl
  refine lv_aload_n hx hb dX10_died_0 rfl (lv_at hl 0 rfl) ?_
  refine lv_iload_n hx hb dX10_died_1 rfl (lv_at hl 1 rfl) ?_
  have hPc := hP.sub (ws' := [(h0, .inr (10, oF q))]) [0] rfl
  have hDc := hD.sub (ws' := [(h0, .inr (10, oF q))]) [0] (by decide) rfl
  have hKc := hK.sub (tys' := []) [] rfl
  have hFc : ∀ q, va_A [] s.heap.size q → A q := pu_free hS hA
  refine va_callq (va_runV (As := [.int a1]) (rest := []) ⟨hx, hb, hml, hown, hts⟩ (c_X10_agreementAt l dC dI s.heap.size h0 q cq a1) (cwV 1 hts gX10_died_X10_agreementAt rfl rfl rfl (by decide +kernel) ⟨(Nat.le_of_ble_eq_true rfl), (Nat.le_of_ble_eq_true rfl)⟩) (pr_V (r := (RX10, TX10, 16)) hPc hKc hDc 0 10 rfl rfl) rfl rfl hl.1 rfl (lv_room (Nat.le_of_ble_eq_true rfl)) dX10_died_2 ⟨(Nat.le_of_ble_eq_true rfl), (Nat.le_of_ble_eq_true rfl)⟩) hS (fun q _ h => hFc q h) hFc (fun r_2 u t H locs ht hvm w_1 hB hz1 hk1 hS => ?_)
  have hP := pu_keep hP hk1
  clear hk1 hz1 hvm hB hPc hDc hKc hFc ht
  subst w_1
  refine W.eq (g2 := F0 m 5 ls [.null]) rfl ?_
  refine lv_astore_nN (lv' := [(3, .null), (0, .ref h0), (1, .int a1), (2, .int a2)]) hx hb dX10_died_5 rfl hl (by decide) rfl (fun ls hl => ?_)
  refine lv_aload_nN hx hb dX10_died_6 rfl (lv_at hl 0 rfl) ?_
  refine lv_ifnonnullN hx hb dX10_died_7 ?_
  refine lv_aload_n hx hb dX10_died_10 rfl (lv_at hl 1 rfl) ?_
  refine lv_iconst (v := (-1)) hx hb dX10_died_11 (by decide) ?_
  have hPc := hP.sub (ws' := [(h0, .inr (10, oF q)), ((q 15), .inl ((cq 15), 7, .inl (fun _ => 0)))]) [0, 1] rfl
  have hDc := hD.sub (ws' := [(h0, .inr (10, oF q)), ((q 15), .inl ((cq 15), 7, .inl (fun _ => 0)))]) [0, 1] (by decide) rfl
  have hKc := hK.sub (tys' := [((cq 15), .int)]) [0] rfl
  have hFc := va_free (wc := [(h0, .inr (10, oF q)), ((q 15), .inl ((cq 15), 7, .inl (fun _ => 0)))]) hD hS hA [0, 1] rfl
  refine va_calli (va_runV (As := [.int (-1)]) (rest := []) ⟨hx, hb, hml, hown, hts⟩ (c_X10_refuse l dC dI H.size h0 q cq (-1) (by unfold vp_in; decide)) (cwV 1 hts gX10_died_X10_refuse rfl rfl rfl (by decide +kernel) ⟨(Nat.le_of_ble_eq_true rfl), (Nat.le_of_ble_eq_true rfl)⟩) (pr_V (r := (RX10, TX10, 16)) hPc hKc hDc 0 10 rfl rfl) rfl rfl hl.1 rfl (lv_room (Nat.le_of_ble_eq_true rfl)) dX10_died_12 ⟨(Nat.le_of_ble_eq_true rfl), (Nat.le_of_ble_eq_true rfl)⟩) hS (fun q _ h => hFc q h) hFc (fun r_4 u t H locs ht hvm w_3 hB hz1 hk1 hS => ?_)
  subst w_3
  exact W.iret (v := (-1)) hx hb hr (fun t ht hW => ⟨⟨(-1), (), rfl, rfl, trivial⟩, hS.F ht⟩) hS.2.2 dX10_died_15
set_option maxHeartbeats 4000000 in
set_option maxRecDepth 100000 in
theorem c_X10_back (l : Launch) (dC : Nat → ClassId) (dI : Nat → Nat → Nat) (sz : Nat) (h0 : Nat) (q : Nat → Nat) (cq : Nat → ClassId) (a1 : Int32) (a2 : Int32) : Met l yX10_back wsX10_back ({ frames := 1, cells := 0, slots := 0, locals := 21 }) (va_Pc [.ref h0, .int a1, .int a2] (pcW (dC, dI) [((cq 15), .int)] [(h0, .inr (10, oF q)), ((q 15), .inl ((cq 15), 7, .inl (fun _ => 0)))] sz)) (va_Qi (fun (r : Int32) (u : Unit) => r = (-1)) (fun _ _ => True) (va_A [(h0, .inr (10, oF q)), ((q 15), .inl ((cq 15), 7, .inl (fun _ => 0)))] sz)) 0 0 (va_A [(h0, .inr (10, oF q)), ((q 15), .inl ((cq 15), 7, .inl (fun _ => 0)))] sz) := by
  refine Met.ofW (cc := cX10_back) (maxL := 5) (ret := (some .int)) (by decide) rfl ?_
  intro p e s m args below meth c s₁ B hml hv
  obtain ⟨rfl, hsz, hP, hK, hD0⟩ := hv
  have hx := B.exec
  have hb := B.bytes
  have hr := B.returns
  have hts := atoms_spec (ws := wsX10_back) B.pre
  have hown : s.vm.findClass RX10 = some m.cls := findClass_of_methodNamed B.named
  have hlocks := B.notSynchronized
  subst hsz
  have hD := hD0.self (sz := s.heap.size)
  generalize hAe : va_A [(h0, .inr (10, oF q)), ((q 15), .inl ((cq 15), 7, .inl (fun _ => 0)))] s.heap.size = A at hD ⊢
  have hA : ∀ q : Nat, s.heap.size ≤ q → A q := fun q h => by rw [← hAe]; exact Or.inr h
  have hS : va_S A s.heap s.heap [] := va_S.rf
  have hP : va_P (dC, dI) vwCl [(h0, .inr (10, oF q)), ((q 15), .inl ((cq 15), 7, .inl (fun _ => 0)))] s.heap := hP
  have hl := lv_entry ([.ref h0, .int a1, .int a2]) (n := 5) (Nat.le_of_ble_eq_true rfl)
  rw [lg_entry_eq]
  generalize (lg_sl ([.ref h0, .int a1, .int a2]) ++ List.replicate (5 - (lg_sl ([.ref h0, .int a1, .int a2])).length) Slot.unset).toArray = ls at hl ⊢
  have hl : lv_has ls 5 [(0, .ref h0), (1, .int a1), (2, .int a2)] := hl
  refine lv_aload_n hx hb dX10_back_0 rfl (lv_at hl 0 rfl) ?_
  refine lv_iload_n hx hb dX10_back_1 rfl (lv_at hl 1 rfl) ?_
  have hPc := hP.sub (ws' := [(h0, .inr (10, oF q))]) [0] rfl
  have hDc := hD.sub (ws' := [(h0, .inr (10, oF q))]) [0] (by decide) rfl
  have hKc := hK.sub (tys' := []) [] rfl
  have hFc : ∀ q, va_A [] s.heap.size q → A q := pu_free hS hA
  refine va_callq (va_runV (As := [.int a1]) (rest := []) ⟨hx, hb, hml, hown, hts⟩ (c_X10_agreementAt l dC dI s.heap.size h0 q cq a1) (cwV 1 hts gX10_back_X10_agreementAt rfl rfl rfl (by decide +kernel) ⟨(Nat.le_of_ble_eq_true rfl), (Nat.le_of_ble_eq_true rfl)⟩) (pr_V (r := (RX10, TX10, 16)) hPc hKc hDc 0 10 rfl rfl) rfl rfl hl.1 rfl (lv_room (Nat.le_of_ble_eq_true rfl)) dX10_back_2 ⟨(Nat.le_of_ble_eq_true rfl), (Nat.le_of_ble_eq_true rfl)⟩) hS (fun q _ h => hFc q h) hFc (fun r_2 u t H locs ht hvm w_1 hB hz1 hk1 hS => ?_)
  have hP := pu_keep hP hk1
  clear hk1 hz1 hvm hB hPc hDc hKc hFc ht
  subst w_1
  refine W.eq (g2 := F0 m 5 ls [.null]) rfl ?_
  refine lv_astore_nN (lv' := [(3, .null), (0, .ref h0), (1, .int a1), (2, .int a2)]) hx hb dX10_back_5 rfl hl (by decide) rfl (fun ls hl => ?_)
  refine lv_aload_nN hx hb dX10_back_6 rfl (lv_at hl 0 rfl) ?_
  refine lv_ifnonnullN hx hb dX10_back_7 ?_
  refine lv_aload_n hx hb dX10_back_10 rfl (lv_at hl 1 rfl) ?_
  refine lv_iconst (v := (-1)) hx hb dX10_back_11 (by decide) ?_
  have hPc := hP.sub (ws' := [(h0, .inr (10, oF q)), ((q 15), .inl ((cq 15), 7, .inl (fun _ => 0)))]) [0, 1] rfl
  have hDc := hD.sub (ws' := [(h0, .inr (10, oF q)), ((q 15), .inl ((cq 15), 7, .inl (fun _ => 0)))]) [0, 1] (by decide) rfl
  have hKc := hK.sub (tys' := [((cq 15), .int)]) [0] rfl
  have hFc := va_free (wc := [(h0, .inr (10, oF q)), ((q 15), .inl ((cq 15), 7, .inl (fun _ => 0)))]) hD hS hA [0, 1] rfl
  refine va_calli (va_runV (As := [.int (-1)]) (rest := []) ⟨hx, hb, hml, hown, hts⟩ (c_X10_refuse l dC dI H.size h0 q cq (-1) (by unfold vp_in; decide)) (cwV 1 hts gX10_back_X10_refuse rfl rfl rfl (by decide +kernel) ⟨(Nat.le_of_ble_eq_true rfl), (Nat.le_of_ble_eq_true rfl)⟩) (pr_V (r := (RX10, TX10, 16)) hPc hKc hDc 0 10 rfl rfl) rfl rfl hl.1 rfl (lv_room (Nat.le_of_ble_eq_true rfl)) dX10_back_12 ⟨(Nat.le_of_ble_eq_true rfl), (Nat.le_of_ble_eq_true rfl)⟩) hS (fun q _ h => hFc q h) hFc (fun r_4 u t H locs ht hvm w_3 hB hz1 hk1 hS => ?_)
  subst w_3
  exact W.iret (v := (-1)) hx hb hr (fun t ht hW => ⟨⟨(-1), (), rfl, rfl, trivial⟩, hS.F ht⟩) hS.2.2 dX10_back_15
set_option maxHeartbeats 4000000 in
set_option maxRecDepth 100000 in
theorem c_X10_sign (l : Launch) (dC : Nat → ClassId) (dI : Nat → Nat → Nat) (sz : Nat) (h0 : Nat) (q : Nat → Nat) (cq : Nat → ClassId) (a1 : Int32) (a2 : Int32) (a3 : Int32) (a4 : Int32) (a5 : Int32) : Met l yX10_sign wsX10_sign ({ frames := 1, cells := 0, slots := 0, locals := 21 }) (va_Pc [.ref h0, .int a1, .int a2, .int a3, .int a4, .int a5] (pcW (dC, dI) [((cq 15), .int)] [(h0, .inr (10, oF q)), ((q 15), .inl ((cq 15), 7, .inl (fun _ => 0)))] sz)) (va_Qi (fun (r : Int32) (u : Unit) => r = (-1)) (fun _ _ => True) (va_A [(h0, .inr (10, oF q)), ((q 15), .inl ((cq 15), 7, .inl (fun _ => 0)))] sz)) 0 0 (va_A [(h0, .inr (10, oF q)), ((q 15), .inl ((cq 15), 7, .inl (fun _ => 0)))] sz) := by
  refine Met.ofW (cc := cX10_sign) (maxL := 11) (ret := (some .int)) (by decide) rfl ?_
  intro p e s m args below meth c s₁ B hml hv
  obtain ⟨rfl, hsz, hP, hK, hD0⟩ := hv
  have hx := B.exec
  have hb := B.bytes
  have hr := B.returns
  have hts := atoms_spec (ws := wsX10_sign) B.pre
  have hown : s.vm.findClass RX10 = some m.cls := findClass_of_methodNamed B.named
  have hlocks := B.notSynchronized
  subst hsz
  have hD := hD0.self (sz := s.heap.size)
  generalize hAe : va_A [(h0, .inr (10, oF q)), ((q 15), .inl ((cq 15), 7, .inl (fun _ => 0)))] s.heap.size = A at hD ⊢
  have hA : ∀ q : Nat, s.heap.size ≤ q → A q := fun q h => by rw [← hAe]; exact Or.inr h
  have hS : va_S A s.heap s.heap [] := va_S.rf
  have hP : va_P (dC, dI) vwCl [(h0, .inr (10, oF q)), ((q 15), .inl ((cq 15), 7, .inl (fun _ => 0)))] s.heap := hP
  have hl := lv_entry ([.ref h0, .int a1, .int a2, .int a3, .int a4, .int a5]) (n := 11) (Nat.le_of_ble_eq_true rfl)
  rw [lg_entry_eq]
  generalize (lg_sl ([.ref h0, .int a1, .int a2, .int a3, .int a4, .int a5]) ++ List.replicate (11 - (lg_sl ([.ref h0, .int a1, .int a2, .int a3, .int a4, .int a5])).length) Slot.unset).toArray = ls at hl ⊢
  have hl : lv_has ls 11 [(0, .ref h0), (1, .int a1), (2, .int a2), (3, .int a3), (4, .int a4), (5, .int a5)] := hl
  refine lv_aload_n hx hb dX10_sign_0 rfl (lv_at hl 0 rfl) ?_
  refine lv_iload_n hx hb dX10_sign_1 rfl (lv_at hl 1 rfl) ?_
  have hPc := hP.sub (ws' := [(h0, .inr (10, oF q))]) [0] rfl
  have hDc := hD.sub (ws' := [(h0, .inr (10, oF q))]) [0] (by decide) rfl
  have hKc := hK.sub (tys' := []) [] rfl
  have hFc : ∀ q, va_A [] s.heap.size q → A q := pu_free hS hA
  refine va_callq (va_runV (As := [.int a1]) (rest := []) ⟨hx, hb, hml, hown, hts⟩ (c_X10_manAt l dC dI s.heap.size h0 q cq a1) (cwV 1 hts gX10_sign_X10_manAt rfl rfl rfl (by decide +kernel) ⟨(Nat.le_of_ble_eq_true rfl), (Nat.le_of_ble_eq_true rfl)⟩) (pr_V (r := (RX10, TX10, 16)) hPc hKc hDc 0 10 rfl rfl) rfl rfl hl.1 rfl (lv_room (Nat.le_of_ble_eq_true rfl)) dX10_sign_2 ⟨(Nat.le_of_ble_eq_true rfl), (Nat.le_of_ble_eq_true rfl)⟩) hS (fun q _ h => hFc q h) hFc (fun r_2 u t H locs ht hvm w_1 hB hz1 hk1 hS => ?_)
  have hP := pu_keep hP hk1
  clear hk1 hz1 hvm hB hPc hDc hKc hFc ht
  subst w_1
  refine W.eq (g2 := F0 m 5 ls [.null]) rfl ?_
  refine lv_astoreN (lv' := [(6, .null), (0, .ref h0), (1, .int a1), (2, .int a2), (3, .int a3), (4, .int a4), (5, .int a5)]) hx hb dX10_sign_5 hl (by decide) rfl (fun ls hl => ?_)
  refine lv_aload_n hx hb dX10_sign_7 rfl (lv_at hl 1 rfl) ?_
  refine lv_iload_n hx hb dX10_sign_8 rfl (lv_at hl 3 rfl) ?_
  have hPc := hP.sub (ws' := [(h0, .inr (10, oF q))]) [0] rfl
  have hDc := hD.sub (ws' := [(h0, .inr (10, oF q))]) [0] (by decide) rfl
  have hKc := hK.sub (tys' := []) [] rfl
  have hFc : ∀ q, va_A [] H.size q → A q := pu_free hS hA
  refine va_callq (va_runV (As := [.int a2]) (rest := []) ⟨hx, hb, hml, hown, hts⟩ (c_X10_voyageAt l dC dI H.size h0 q cq a2) (cwV 1 hts gX10_sign_X10_voyageAt rfl rfl rfl (by decide +kernel) ⟨(Nat.le_of_ble_eq_true rfl), (Nat.le_of_ble_eq_true rfl)⟩) (pr_V (r := (RX10, TX10, 16)) hPc hKc hDc 0 10 rfl rfl) rfl rfl hl.1 rfl (lv_room (Nat.le_of_ble_eq_true rfl)) dX10_sign_9 ⟨(Nat.le_of_ble_eq_true rfl), (Nat.le_of_ble_eq_true rfl)⟩) hS (fun q _ h => hFc q h) hFc (fun r_4 u t H locs ht hvm w_3 hB hz1 hk1 hS => ?_)
  have hP := pu_keep hP hk1
  clear hk1 hz1 hvm hB hPc hDc hKc hFc ht
  subst w_3
  refine W.eq (g2 := F0 m 12 ls [.null]) rfl ?_
  refine lv_astoreN (lv' := [(7, .null), (6, .null), (0, .ref h0), (1, .int a1), (2, .int a2), (3, .int a3), (4, .int a4), (5, .int a5)]) hx hb dX10_sign_12 hl (by decide) rfl (fun ls hl => ?_)
  refine lv_aload_n hx hb dX10_sign_14 rfl (lv_at hl 2 rfl) ?_
  refine lv_iload hx hb dX10_sign_15 (lv_at hl 7 rfl) ?_
  have hPc := hP.sub (ws' := [(h0, .inr (10, oF q))]) [0] rfl
  have hDc := hD.sub (ws' := [(h0, .inr (10, oF q))]) [0] (by decide) rfl
  have hKc := hK.sub (tys' := []) [] rfl
  have hFc : ∀ q, va_A [] H.size q → A q := pu_free hS hA
  refine va_callq (va_runV (As := [.int a5]) (rest := []) ⟨hx, hb, hml, hown, hts⟩ (c_X10_agreementAt l dC dI H.size h0 q cq a5) (cwV 1 hts gX10_sign_X10_agreementAt rfl rfl rfl (by decide +kernel) ⟨(Nat.le_of_ble_eq_true rfl), (Nat.le_of_ble_eq_true rfl)⟩) (pr_V (r := (RX10, TX10, 16)) hPc hKc hDc 0 10 rfl rfl) rfl rfl hl.1 rfl (lv_room (Nat.le_of_ble_eq_true rfl)) dX10_sign_17 ⟨(Nat.le_of_ble_eq_true rfl), (Nat.le_of_ble_eq_true rfl)⟩) hS (fun q _ h => hFc q h) hFc (fun r_6 u t H locs ht hvm w_5 hB hz1 hk1 hS => ?_)
  have hP := pu_keep hP hk1
  clear hk1 hz1 hvm hB hPc hDc hKc hFc ht
  subst w_5
  refine W.eq (g2 := F0 m 20 ls [.null]) rfl ?_
  refine lv_astoreN (lv' := [(8, .null), (7, .null), (6, .null), (0, .ref h0), (1, .int a1), (2, .int a2), (3, .int a3), (4, .int a4), (5, .int a5)]) hx hb dX10_sign_20 hl (by decide) rfl (fun ls hl => ?_)
  refine lv_aloadN hx hb dX10_sign_22 (lv_at hl 2 rfl) ?_
  refine lv_ifnullN (tgt := 43) hx hb dX10_sign_24 (by decide) ?_
  refine lv_aload_n hx hb dX10_sign_43 rfl (lv_at hl 3 rfl) ?_
  refine lv_iconst (v := (-1)) hx hb dX10_sign_44 (by decide) ?_
  have hPc := hP.sub (ws' := [(h0, .inr (10, oF q)), ((q 15), .inl ((cq 15), 7, .inl (fun _ => 0)))]) [0, 1] rfl
  have hDc := hD.sub (ws' := [(h0, .inr (10, oF q)), ((q 15), .inl ((cq 15), 7, .inl (fun _ => 0)))]) [0, 1] (by decide) rfl
  have hKc := hK.sub (tys' := [((cq 15), .int)]) [0] rfl
  have hFc := va_free (wc := [(h0, .inr (10, oF q)), ((q 15), .inl ((cq 15), 7, .inl (fun _ => 0)))]) hD hS hA [0, 1] rfl
  refine va_calli (va_runV (As := [.int (-1)]) (rest := []) ⟨hx, hb, hml, hown, hts⟩ (c_X10_refuse l dC dI H.size h0 q cq (-1) (by unfold vp_in; decide)) (cwV 1 hts gX10_sign_X10_refuse rfl rfl rfl (by decide +kernel) ⟨(Nat.le_of_ble_eq_true rfl), (Nat.le_of_ble_eq_true rfl)⟩) (pr_V (r := (RX10, TX10, 16)) hPc hKc hDc 0 10 rfl rfl) rfl rfl hl.1 rfl (lv_room (Nat.le_of_ble_eq_true rfl)) dX10_sign_45 ⟨(Nat.le_of_ble_eq_true rfl), (Nat.le_of_ble_eq_true rfl)⟩) hS (fun q _ h => hFc q h) hFc (fun r_8 u t H locs ht hvm w_7 hB hz1 hk1 hS => ?_)
  subst w_7
  exact W.iret (v := (-1)) hx hb hr (fun t ht hW => ⟨⟨(-1), (), rfl, rfl, trivial⟩, hS.F ht⟩) hS.2.2 dX10_sign_48
set_option maxHeartbeats 4000000 in
set_option maxRecDepth 100000 in
theorem c_X10_off (l : Launch) (dC : Nat → ClassId) (dI : Nat → Nat → Nat) (sz : Nat) (h0 : Nat) (q : Nat → Nat) (cq : Nat → ClassId) (a1 : Int32) (a2 : Int32) : Met l yX10_off wsX10_off ({ frames := 1, cells := 0, slots := 0, locals := 21 }) (va_Pc [.ref h0, .int a1, .int a2] (pcW (dC, dI) [((cq 15), .int)] [(h0, .inr (10, oF q)), ((q 15), .inl ((cq 15), 7, .inl (fun _ => 0)))] sz)) (va_Qi (fun (r : Int32) (u : Unit) => r = (-1)) (fun _ _ => True) (va_A [(h0, .inr (10, oF q)), ((q 15), .inl ((cq 15), 7, .inl (fun _ => 0)))] sz)) 0 0 (va_A [(h0, .inr (10, oF q)), ((q 15), .inl ((cq 15), 7, .inl (fun _ => 0)))] sz) := by
  refine Met.ofW (cc := cX10_off) (maxL := 4) (ret := (some .int)) (by decide) rfl ?_
  intro p e s m args below meth c s₁ B hml hv
  obtain ⟨rfl, hsz, hP, hK, hD0⟩ := hv
  have hx := B.exec
  have hb := B.bytes
  have hr := B.returns
  have hts := atoms_spec (ws := wsX10_off) B.pre
  have hown : s.vm.findClass RX10 = some m.cls := findClass_of_methodNamed B.named
  have hlocks := B.notSynchronized
  subst hsz
  have hD := hD0.self (sz := s.heap.size)
  generalize hAe : va_A [(h0, .inr (10, oF q)), ((q 15), .inl ((cq 15), 7, .inl (fun _ => 0)))] s.heap.size = A at hD ⊢
  have hA : ∀ q : Nat, s.heap.size ≤ q → A q := fun q h => by rw [← hAe]; exact Or.inr h
  have hS : va_S A s.heap s.heap [] := va_S.rf
  have hP : va_P (dC, dI) vwCl [(h0, .inr (10, oF q)), ((q 15), .inl ((cq 15), 7, .inl (fun _ => 0)))] s.heap := hP
  have hl := lv_entry ([.ref h0, .int a1, .int a2]) (n := 4) (Nat.le_of_ble_eq_true rfl)
  rw [lg_entry_eq]
  generalize (lg_sl ([.ref h0, .int a1, .int a2]) ++ List.replicate (4 - (lg_sl ([.ref h0, .int a1, .int a2])).length) Slot.unset).toArray = ls at hl ⊢
  have hl : lv_has ls 4 [(0, .ref h0), (1, .int a1), (2, .int a2)] := hl
  refine lv_aload_n hx hb dX10_off_0 rfl (lv_at hl 0 rfl) ?_
  refine lv_iload_n hx hb dX10_off_1 rfl (lv_at hl 1 rfl) ?_
  have hPc := hP.sub (ws' := [(h0, .inr (10, oF q))]) [0] rfl
  have hDc := hD.sub (ws' := [(h0, .inr (10, oF q))]) [0] (by decide) rfl
  have hKc := hK.sub (tys' := []) [] rfl
  have hFc : ∀ q, va_A [] s.heap.size q → A q := pu_free hS hA
  refine va_callq (va_runV (As := [.int a1]) (rest := []) ⟨hx, hb, hml, hown, hts⟩ (c_X10_agreementAt l dC dI s.heap.size h0 q cq a1) (cwV 1 hts gX10_off_X10_agreementAt rfl rfl rfl (by decide +kernel) ⟨(Nat.le_of_ble_eq_true rfl), (Nat.le_of_ble_eq_true rfl)⟩) (pr_V (r := (RX10, TX10, 16)) hPc hKc hDc 0 10 rfl rfl) rfl rfl hl.1 rfl (lv_room (Nat.le_of_ble_eq_true rfl)) dX10_off_2 ⟨(Nat.le_of_ble_eq_true rfl), (Nat.le_of_ble_eq_true rfl)⟩) hS (fun q _ h => hFc q h) hFc (fun r_2 u t H locs ht hvm w_1 hB hz1 hk1 hS => ?_)
  have hP := pu_keep hP hk1
  clear hk1 hz1 hvm hB hPc hDc hKc hFc ht
  subst w_1
  refine W.eq (g2 := F0 m 5 ls [.null]) rfl ?_
  refine lv_astore_nN (lv' := [(3, .null), (0, .ref h0), (1, .int a1), (2, .int a2)]) hx hb dX10_off_5 rfl hl (by decide) rfl (fun ls hl => ?_)
  refine lv_aload_nN hx hb dX10_off_6 rfl (lv_at hl 0 rfl) ?_
  refine lv_ifnullN (tgt := 17) hx hb dX10_off_7 (by decide) ?_
  refine lv_aload_n hx hb dX10_off_17 rfl (lv_at hl 1 rfl) ?_
  refine lv_iconst (v := (-1)) hx hb dX10_off_18 (by decide) ?_
  have hPc := hP.sub (ws' := [(h0, .inr (10, oF q)), ((q 15), .inl ((cq 15), 7, .inl (fun _ => 0)))]) [0, 1] rfl
  have hDc := hD.sub (ws' := [(h0, .inr (10, oF q)), ((q 15), .inl ((cq 15), 7, .inl (fun _ => 0)))]) [0, 1] (by decide) rfl
  have hKc := hK.sub (tys' := [((cq 15), .int)]) [0] rfl
  have hFc := va_free (wc := [(h0, .inr (10, oF q)), ((q 15), .inl ((cq 15), 7, .inl (fun _ => 0)))]) hD hS hA [0, 1] rfl
  refine va_calli (va_runV (As := [.int (-1)]) (rest := []) ⟨hx, hb, hml, hown, hts⟩ (c_X10_refuse l dC dI H.size h0 q cq (-1) (by unfold vp_in; decide)) (cwV 1 hts gX10_off_X10_refuse rfl rfl rfl (by decide +kernel) ⟨(Nat.le_of_ble_eq_true rfl), (Nat.le_of_ble_eq_true rfl)⟩) (pr_V (r := (RX10, TX10, 16)) hPc hKc hDc 0 10 rfl rfl) rfl rfl hl.1 rfl (lv_room (Nat.le_of_ble_eq_true rfl)) dX10_off_19 ⟨(Nat.le_of_ble_eq_true rfl), (Nat.le_of_ble_eq_true rfl)⟩) hS (fun q _ h => hFc q h) hFc (fun r_4 u t H locs ht hvm w_3 hB hz1 hk1 hS => ?_)
  subst w_3
  exact W.iret (v := (-1)) hx hb hr (fun t ht hW => ⟨⟨(-1), (), rfl, rfl, trivial⟩, hS.F ht⟩) hS.2.2 dX10_off_22
set_option maxHeartbeats 4000000 in
set_option maxRecDepth 100000 in
theorem c_X10_state (l : Launch) (dC : Nat → ClassId) (dI : Nat → Nat → Nat) (sz : Nat) (h0 : Nat) (q : Nat → Nat) (cq : Nat → ClassId) (a1 : Int32) (a2 : Int32) (a3 : Int32) : Met l yX10_state wsX10_state ({ frames := 1, cells := 0, slots := 0, locals := 21 }) (va_Pc [.ref h0, .int a1, .int a2, .int a3] (pcW (dC, dI) [((cq 15), .int)] [(h0, .inr (10, oF q)), ((q 15), .inl ((cq 15), 7, .inl (fun _ => 0)))] sz)) (va_Qi (fun (r : Int32) (u : Unit) => r = (-1)) (fun _ _ => True) (va_A [(h0, .inr (10, oF q)), ((q 15), .inl ((cq 15), 7, .inl (fun _ => 0)))] sz)) 0 0 (va_A [(h0, .inr (10, oF q)), ((q 15), .inl ((cq 15), 7, .inl (fun _ => 0)))] sz) := by
  refine Met.ofW (cc := cX10_state) (maxL := 6) (ret := (some .int)) (by decide) rfl ?_
  intro p e s m args below meth c s₁ B hml hv
  obtain ⟨rfl, hsz, hP, hK, hD0⟩ := hv
  have hx := B.exec
  have hb := B.bytes
  have hr := B.returns
  have hts := atoms_spec (ws := wsX10_state) B.pre
  have hown : s.vm.findClass RX10 = some m.cls := findClass_of_methodNamed B.named
  have hlocks := B.notSynchronized
  subst hsz
  have hD := hD0.self (sz := s.heap.size)
  generalize hAe : va_A [(h0, .inr (10, oF q)), ((q 15), .inl ((cq 15), 7, .inl (fun _ => 0)))] s.heap.size = A at hD ⊢
  have hA : ∀ q : Nat, s.heap.size ≤ q → A q := fun q h => by rw [← hAe]; exact Or.inr h
  have hS : va_S A s.heap s.heap [] := va_S.rf
  have hP : va_P (dC, dI) vwCl [(h0, .inr (10, oF q)), ((q 15), .inl ((cq 15), 7, .inl (fun _ => 0)))] s.heap := hP
  have hl := lv_entry ([.ref h0, .int a1, .int a2, .int a3]) (n := 6) (Nat.le_of_ble_eq_true rfl)
  rw [lg_entry_eq]
  generalize (lg_sl ([.ref h0, .int a1, .int a2, .int a3]) ++ List.replicate (6 - (lg_sl ([.ref h0, .int a1, .int a2, .int a3])).length) Slot.unset).toArray = ls at hl ⊢
  have hl : lv_has ls 6 [(0, .ref h0), (1, .int a1), (2, .int a2), (3, .int a3)] := hl
  refine lv_aload_n hx hb dX10_state_0 rfl (lv_at hl 0 rfl) ?_
  refine lv_iload_n hx hb dX10_state_1 rfl (lv_at hl 1 rfl) ?_
  have hPc := hP.sub (ws' := [(h0, .inr (10, oF q))]) [0] rfl
  have hDc := hD.sub (ws' := [(h0, .inr (10, oF q))]) [0] (by decide) rfl
  have hKc := hK.sub (tys' := []) [] rfl
  have hFc : ∀ q, va_A [] s.heap.size q → A q := pu_free hS hA
  refine va_callq (va_runV (As := [.int a1]) (rest := []) ⟨hx, hb, hml, hown, hts⟩ (c_X10_agreementAt l dC dI s.heap.size h0 q cq a1) (cwV 1 hts gX10_state_X10_agreementAt rfl rfl rfl (by decide +kernel) ⟨(Nat.le_of_ble_eq_true rfl), (Nat.le_of_ble_eq_true rfl)⟩) (pr_V (r := (RX10, TX10, 16)) hPc hKc hDc 0 10 rfl rfl) rfl rfl hl.1 rfl (lv_room (Nat.le_of_ble_eq_true rfl)) dX10_state_2 ⟨(Nat.le_of_ble_eq_true rfl), (Nat.le_of_ble_eq_true rfl)⟩) hS (fun q _ h => hFc q h) hFc (fun r_2 u t H locs ht hvm w_1 hB hz1 hk1 hS => ?_)
  have hP := pu_keep hP hk1
  clear hk1 hz1 hvm hB hPc hDc hKc hFc ht
  subst w_1
  refine W.eq (g2 := F0 m 5 ls [.null]) rfl ?_
  refine lv_astoreN (lv' := [(4, .null), (0, .ref h0), (1, .int a1), (2, .int a2), (3, .int a3)]) hx hb dX10_state_5 hl (by decide) rfl (fun ls hl => ?_)
  refine lv_aloadN hx hb dX10_state_7 (lv_at hl 0 rfl) ?_
  refine lv_ifnonnullN hx hb dX10_state_9 ?_
  refine lv_aload_n hx hb dX10_state_12 rfl (lv_at hl 1 rfl) ?_
  refine lv_iconst (v := (-1)) hx hb dX10_state_13 (by decide) ?_
  have hPc := hP.sub (ws' := [(h0, .inr (10, oF q)), ((q 15), .inl ((cq 15), 7, .inl (fun _ => 0)))]) [0, 1] rfl
  have hDc := hD.sub (ws' := [(h0, .inr (10, oF q)), ((q 15), .inl ((cq 15), 7, .inl (fun _ => 0)))]) [0, 1] (by decide) rfl
  have hKc := hK.sub (tys' := [((cq 15), .int)]) [0] rfl
  have hFc := va_free (wc := [(h0, .inr (10, oF q)), ((q 15), .inl ((cq 15), 7, .inl (fun _ => 0)))]) hD hS hA [0, 1] rfl
  refine va_calli (va_runV (As := [.int (-1)]) (rest := []) ⟨hx, hb, hml, hown, hts⟩ (c_X10_refuse l dC dI H.size h0 q cq (-1) (by unfold vp_in; decide)) (cwV 1 hts gX10_state_X10_refuse rfl rfl rfl (by decide +kernel) ⟨(Nat.le_of_ble_eq_true rfl), (Nat.le_of_ble_eq_true rfl)⟩) (pr_V (r := (RX10, TX10, 16)) hPc hKc hDc 0 10 rfl rfl) rfl rfl hl.1 rfl (lv_room (Nat.le_of_ble_eq_true rfl)) dX10_state_14 ⟨(Nat.le_of_ble_eq_true rfl), (Nat.le_of_ble_eq_true rfl)⟩) hS (fun q _ h => hFc q h) hFc (fun r_4 u t H locs ht hvm w_3 hB hz1 hk1 hS => ?_)
  subst w_3
  exact W.iret (v := (-1)) hx hb hr (fun t ht hW => ⟨⟨(-1), (), rfl, rfl, trivial⟩, hS.F ht⟩) hS.2.2 dX10_state_17
set_option maxHeartbeats 4000000 in
set_option maxRecDepth 100000 in
theorem c_X10_earns (l : Launch) (dC : Nat → ClassId) (dI : Nat → Nat → Nat) (sz : Nat) (h0 : Nat) (q : Nat → Nat) (cq : Nat → ClassId) (a1 : Int32) (a2 : Int32) (a3 : Int32) : Met l yX10_earns wsX10_earns ({ frames := 1, cells := 0, slots := 0, locals := 21 }) (va_Pc [.ref h0, .int a1, .int a2, .int a3] (pcW (dC, dI) [((cq 15), .int)] [(h0, .inr (10, oF q)), ((q 15), .inl ((cq 15), 7, .inl (fun _ => 0)))] sz)) (va_Qi (fun (r : Int32) (u : Unit) => r = (-1)) (fun _ _ => True) (va_A [(h0, .inr (10, oF q)), ((q 15), .inl ((cq 15), 7, .inl (fun _ => 0)))] sz)) 0 0 (va_A [(h0, .inr (10, oF q)), ((q 15), .inl ((cq 15), 7, .inl (fun _ => 0)))] sz) := by
  refine Met.ofW (cc := cX10_earns) (maxL := 6) (ret := (some .int)) (by decide) rfl ?_
  intro p e s m args below meth c s₁ B hml hv
  obtain ⟨rfl, hsz, hP, hK, hD0⟩ := hv
  have hx := B.exec
  have hb := B.bytes
  have hr := B.returns
  have hts := atoms_spec (ws := wsX10_earns) B.pre
  have hown : s.vm.findClass RX10 = some m.cls := findClass_of_methodNamed B.named
  have hlocks := B.notSynchronized
  subst hsz
  have hD := hD0.self (sz := s.heap.size)
  generalize hAe : va_A [(h0, .inr (10, oF q)), ((q 15), .inl ((cq 15), 7, .inl (fun _ => 0)))] s.heap.size = A at hD ⊢
  have hA : ∀ q : Nat, s.heap.size ≤ q → A q := fun q h => by rw [← hAe]; exact Or.inr h
  have hS : va_S A s.heap s.heap [] := va_S.rf
  have hP : va_P (dC, dI) vwCl [(h0, .inr (10, oF q)), ((q 15), .inl ((cq 15), 7, .inl (fun _ => 0)))] s.heap := hP
  have hl := lv_entry ([.ref h0, .int a1, .int a2, .int a3]) (n := 6) (Nat.le_of_ble_eq_true rfl)
  rw [lg_entry_eq]
  generalize (lg_sl ([.ref h0, .int a1, .int a2, .int a3]) ++ List.replicate (6 - (lg_sl ([.ref h0, .int a1, .int a2, .int a3])).length) Slot.unset).toArray = ls at hl ⊢
  have hl : lv_has ls 6 [(0, .ref h0), (1, .int a1), (2, .int a2), (3, .int a3)] := hl
  refine lv_aload_n hx hb dX10_earns_0 rfl (lv_at hl 0 rfl) ?_
  refine lv_iload_n hx hb dX10_earns_1 rfl (lv_at hl 1 rfl) ?_
  have hPc := hP.sub (ws' := [(h0, .inr (10, oF q))]) [0] rfl
  have hDc := hD.sub (ws' := [(h0, .inr (10, oF q))]) [0] (by decide) rfl
  have hKc := hK.sub (tys' := []) [] rfl
  have hFc : ∀ q, va_A [] s.heap.size q → A q := pu_free hS hA
  refine va_callq (va_runV (As := [.int a1]) (rest := []) ⟨hx, hb, hml, hown, hts⟩ (c_X10_agreementAt l dC dI s.heap.size h0 q cq a1) (cwV 1 hts gX10_earns_X10_agreementAt rfl rfl rfl (by decide +kernel) ⟨(Nat.le_of_ble_eq_true rfl), (Nat.le_of_ble_eq_true rfl)⟩) (pr_V (r := (RX10, TX10, 16)) hPc hKc hDc 0 10 rfl rfl) rfl rfl hl.1 rfl (lv_room (Nat.le_of_ble_eq_true rfl)) dX10_earns_2 ⟨(Nat.le_of_ble_eq_true rfl), (Nat.le_of_ble_eq_true rfl)⟩) hS (fun q _ h => hFc q h) hFc (fun r_2 u t H locs ht hvm w_1 hB hz1 hk1 hS => ?_)
  have hP := pu_keep hP hk1
  clear hk1 hz1 hvm hB hPc hDc hKc hFc ht
  subst w_1
  refine W.eq (g2 := F0 m 5 ls [.null]) rfl ?_
  refine lv_astoreN (lv' := [(4, .null), (0, .ref h0), (1, .int a1), (2, .int a2), (3, .int a3)]) hx hb dX10_earns_5 hl (by decide) rfl (fun ls hl => ?_)
  refine lv_aloadN hx hb dX10_earns_7 (lv_at hl 0 rfl) ?_
  refine lv_ifnonnullN hx hb dX10_earns_9 ?_
  refine lv_aload_n hx hb dX10_earns_12 rfl (lv_at hl 1 rfl) ?_
  refine lv_iconst (v := (-1)) hx hb dX10_earns_13 (by decide) ?_
  have hPc := hP.sub (ws' := [(h0, .inr (10, oF q)), ((q 15), .inl ((cq 15), 7, .inl (fun _ => 0)))]) [0, 1] rfl
  have hDc := hD.sub (ws' := [(h0, .inr (10, oF q)), ((q 15), .inl ((cq 15), 7, .inl (fun _ => 0)))]) [0, 1] (by decide) rfl
  have hKc := hK.sub (tys' := [((cq 15), .int)]) [0] rfl
  have hFc := va_free (wc := [(h0, .inr (10, oF q)), ((q 15), .inl ((cq 15), 7, .inl (fun _ => 0)))]) hD hS hA [0, 1] rfl
  refine va_calli (va_runV (As := [.int (-1)]) (rest := []) ⟨hx, hb, hml, hown, hts⟩ (c_X10_refuse l dC dI H.size h0 q cq (-1) (by unfold vp_in; decide)) (cwV 1 hts gX10_earns_X10_refuse rfl rfl rfl (by decide +kernel) ⟨(Nat.le_of_ble_eq_true rfl), (Nat.le_of_ble_eq_true rfl)⟩) (pr_V (r := (RX10, TX10, 16)) hPc hKc hDc 0 10 rfl rfl) rfl rfl hl.1 rfl (lv_room (Nat.le_of_ble_eq_true rfl)) dX10_earns_14 ⟨(Nat.le_of_ble_eq_true rfl), (Nat.le_of_ble_eq_true rfl)⟩) hS (fun q _ h => hFc q h) hFc (fun r_4 u t H locs ht hvm w_3 hB hz1 hk1 hS => ?_)
  subst w_3
  exact W.iret (v := (-1)) hx hb hr (fun t ht hW => ⟨⟨(-1), (), rfl, rfl, trivial⟩, hS.F ht⟩) hS.2.2 dX10_earns_17
set_option maxHeartbeats 4000000 in
set_option maxRecDepth 100000 in
theorem c_X10_advance (l : Launch) (dC : Nat → ClassId) (dI : Nat → Nat → Nat) (sz : Nat) (h0 : Nat) (q : Nat → Nat) (cq : Nat → ClassId) (a1 : Int32) (a2 : Int32) : Met l yX10_advance wsX10_advance ({ frames := 1, cells := 0, slots := 0, locals := 21 }) (va_Pc [.ref h0, .int a1, .int a2] (pcW (dC, dI) [((cq 15), .int)] [(h0, .inr (10, oF q)), ((q 15), .inl ((cq 15), 7, .inl (fun _ => 0)))] sz)) (va_Qi (fun (r : Int32) (u : Unit) => r = (-1)) (fun _ _ => True) (va_A [(h0, .inr (10, oF q)), ((q 15), .inl ((cq 15), 7, .inl (fun _ => 0)))] sz)) 0 0 (va_A [(h0, .inr (10, oF q)), ((q 15), .inl ((cq 15), 7, .inl (fun _ => 0)))] sz) := by
  refine Met.ofW (cc := cX10_advance) (maxL := 4) (ret := (some .int)) (by decide) rfl ?_
  intro p e s m args below meth c s₁ B hml hv
  obtain ⟨rfl, hsz, hP, hK, hD0⟩ := hv
  have hx := B.exec
  have hb := B.bytes
  have hr := B.returns
  have hts := atoms_spec (ws := wsX10_advance) B.pre
  have hown : s.vm.findClass RX10 = some m.cls := findClass_of_methodNamed B.named
  have hlocks := B.notSynchronized
  subst hsz
  have hD := hD0.self (sz := s.heap.size)
  generalize hAe : va_A [(h0, .inr (10, oF q)), ((q 15), .inl ((cq 15), 7, .inl (fun _ => 0)))] s.heap.size = A at hD ⊢
  have hA : ∀ q : Nat, s.heap.size ≤ q → A q := fun q h => by rw [← hAe]; exact Or.inr h
  have hS : va_S A s.heap s.heap [] := va_S.rf
  have hP : va_P (dC, dI) vwCl [(h0, .inr (10, oF q)), ((q 15), .inl ((cq 15), 7, .inl (fun _ => 0)))] s.heap := hP
  have hl := lv_entry ([.ref h0, .int a1, .int a2]) (n := 4) (Nat.le_of_ble_eq_true rfl)
  rw [lg_entry_eq]
  generalize (lg_sl ([.ref h0, .int a1, .int a2]) ++ List.replicate (4 - (lg_sl ([.ref h0, .int a1, .int a2])).length) Slot.unset).toArray = ls at hl ⊢
  have hl : lv_has ls 4 [(0, .ref h0), (1, .int a1), (2, .int a2)] := hl
  refine lv_aload_n hx hb dX10_advance_0 rfl (lv_at hl 0 rfl) ?_
  refine lv_iload_n hx hb dX10_advance_1 rfl (lv_at hl 1 rfl) ?_
  have hPc := hP.sub (ws' := [(h0, .inr (10, oF q))]) [0] rfl
  have hDc := hD.sub (ws' := [(h0, .inr (10, oF q))]) [0] (by decide) rfl
  have hKc := hK.sub (tys' := []) [] rfl
  have hFc : ∀ q, va_A [] s.heap.size q → A q := pu_free hS hA
  refine va_callq (va_runV (As := [.int a1]) (rest := []) ⟨hx, hb, hml, hown, hts⟩ (c_X10_agreementAt l dC dI s.heap.size h0 q cq a1) (cwV 1 hts gX10_advance_X10_agreementAt rfl rfl rfl (by decide +kernel) ⟨(Nat.le_of_ble_eq_true rfl), (Nat.le_of_ble_eq_true rfl)⟩) (pr_V (r := (RX10, TX10, 16)) hPc hKc hDc 0 10 rfl rfl) rfl rfl hl.1 rfl (lv_room (Nat.le_of_ble_eq_true rfl)) dX10_advance_2 ⟨(Nat.le_of_ble_eq_true rfl), (Nat.le_of_ble_eq_true rfl)⟩) hS (fun q _ h => hFc q h) hFc (fun r_2 u t H locs ht hvm w_1 hB hz1 hk1 hS => ?_)
  have hP := pu_keep hP hk1
  clear hk1 hz1 hvm hB hPc hDc hKc hFc ht
  subst w_1
  refine W.eq (g2 := F0 m 5 ls [.null]) rfl ?_
  refine lv_astore_nN (lv' := [(3, .null), (0, .ref h0), (1, .int a1), (2, .int a2)]) hx hb dX10_advance_5 rfl hl (by decide) rfl (fun ls hl => ?_)
  refine lv_aload_nN hx hb dX10_advance_6 rfl (lv_at hl 0 rfl) ?_
  refine lv_ifnonnullN hx hb dX10_advance_7 ?_
  refine lv_aload_n hx hb dX10_advance_10 rfl (lv_at hl 1 rfl) ?_
  refine lv_iconst (v := (-1)) hx hb dX10_advance_11 (by decide) ?_
  have hPc := hP.sub (ws' := [(h0, .inr (10, oF q)), ((q 15), .inl ((cq 15), 7, .inl (fun _ => 0)))]) [0, 1] rfl
  have hDc := hD.sub (ws' := [(h0, .inr (10, oF q)), ((q 15), .inl ((cq 15), 7, .inl (fun _ => 0)))]) [0, 1] (by decide) rfl
  have hKc := hK.sub (tys' := [((cq 15), .int)]) [0] rfl
  have hFc := va_free (wc := [(h0, .inr (10, oF q)), ((q 15), .inl ((cq 15), 7, .inl (fun _ => 0)))]) hD hS hA [0, 1] rfl
  refine va_calli (va_runV (As := [.int (-1)]) (rest := []) ⟨hx, hb, hml, hown, hts⟩ (c_X10_refuse l dC dI H.size h0 q cq (-1) (by unfold vp_in; decide)) (cwV 1 hts gX10_advance_X10_refuse rfl rfl rfl (by decide +kernel) ⟨(Nat.le_of_ble_eq_true rfl), (Nat.le_of_ble_eq_true rfl)⟩) (pr_V (r := (RX10, TX10, 16)) hPc hKc hDc 0 10 rfl rfl) rfl rfl hl.1 rfl (lv_room (Nat.le_of_ble_eq_true rfl)) dX10_advance_12 ⟨(Nat.le_of_ble_eq_true rfl), (Nat.le_of_ble_eq_true rfl)⟩) hS (fun q _ h => hFc q h) hFc (fun r_4 u t H locs ht hvm w_3 hB hz1 hk1 hS => ?_)
  subst w_3
  exact W.iret (v := (-1)) hx hb hr (fun t ht hW => ⟨⟨(-1), (), rfl, rfl, trivial⟩, hS.F ht⟩) hS.2.2 dX10_advance_15
set_option maxHeartbeats 4000000 in
set_option maxRecDepth 100000 in
theorem c_X10_sold (l : Launch) (dC : Nat → ClassId) (dI : Nat → Nat → Nat) (sz : Nat) (h0 : Nat) (q : Nat → Nat) (cq : Nat → ClassId) (a1 : Int32) (a2 : Int32) : Met l yX10_sold wsX10_sold ({ frames := 1, cells := 0, slots := 0, locals := 21 }) (va_Pc [.ref h0, .int a1, .int a2] (pcW (dC, dI) [((cq 15), .int)] [(h0, .inr (10, oF q)), ((q 15), .inl ((cq 15), 7, .inl (fun _ => 0)))] sz)) (va_Qi (fun (r : Int32) (u : Unit) => r = (-1)) (fun _ _ => True) (va_A [(h0, .inr (10, oF q)), ((q 15), .inl ((cq 15), 7, .inl (fun _ => 0)))] sz)) 0 0 (va_A [(h0, .inr (10, oF q)), ((q 15), .inl ((cq 15), 7, .inl (fun _ => 0)))] sz) := by
  refine Met.ofW (cc := cX10_sold) (maxL := 4) (ret := (some .int)) (by decide) rfl ?_
  intro p e s m args below meth c s₁ B hml hv
  obtain ⟨rfl, hsz, hP, hK, hD0⟩ := hv
  have hx := B.exec
  have hb := B.bytes
  have hr := B.returns
  have hts := atoms_spec (ws := wsX10_sold) B.pre
  have hown : s.vm.findClass RX10 = some m.cls := findClass_of_methodNamed B.named
  have hlocks := B.notSynchronized
  subst hsz
  have hD := hD0.self (sz := s.heap.size)
  generalize hAe : va_A [(h0, .inr (10, oF q)), ((q 15), .inl ((cq 15), 7, .inl (fun _ => 0)))] s.heap.size = A at hD ⊢
  have hA : ∀ q : Nat, s.heap.size ≤ q → A q := fun q h => by rw [← hAe]; exact Or.inr h
  have hS : va_S A s.heap s.heap [] := va_S.rf
  have hP : va_P (dC, dI) vwCl [(h0, .inr (10, oF q)), ((q 15), .inl ((cq 15), 7, .inl (fun _ => 0)))] s.heap := hP
  have hl := lv_entry ([.ref h0, .int a1, .int a2]) (n := 4) (Nat.le_of_ble_eq_true rfl)
  rw [lg_entry_eq]
  generalize (lg_sl ([.ref h0, .int a1, .int a2]) ++ List.replicate (4 - (lg_sl ([.ref h0, .int a1, .int a2])).length) Slot.unset).toArray = ls at hl ⊢
  have hl : lv_has ls 4 [(0, .ref h0), (1, .int a1), (2, .int a2)] := hl
  refine lv_aload_n hx hb dX10_sold_0 rfl (lv_at hl 0 rfl) ?_
  refine lv_iload_n hx hb dX10_sold_1 rfl (lv_at hl 1 rfl) ?_
  have hPc := hP.sub (ws' := [(h0, .inr (10, oF q))]) [0] rfl
  have hDc := hD.sub (ws' := [(h0, .inr (10, oF q))]) [0] (by decide) rfl
  have hKc := hK.sub (tys' := []) [] rfl
  have hFc : ∀ q, va_A [] s.heap.size q → A q := pu_free hS hA
  refine va_callq (va_runV (As := [.int a1]) (rest := []) ⟨hx, hb, hml, hown, hts⟩ (c_X10_agreementAt l dC dI s.heap.size h0 q cq a1) (cwV 1 hts gX10_sold_X10_agreementAt rfl rfl rfl (by decide +kernel) ⟨(Nat.le_of_ble_eq_true rfl), (Nat.le_of_ble_eq_true rfl)⟩) (pr_V (r := (RX10, TX10, 16)) hPc hKc hDc 0 10 rfl rfl) rfl rfl hl.1 rfl (lv_room (Nat.le_of_ble_eq_true rfl)) dX10_sold_2 ⟨(Nat.le_of_ble_eq_true rfl), (Nat.le_of_ble_eq_true rfl)⟩) hS (fun q _ h => hFc q h) hFc (fun r_2 u t H locs ht hvm w_1 hB hz1 hk1 hS => ?_)
  have hP := pu_keep hP hk1
  clear hk1 hz1 hvm hB hPc hDc hKc hFc ht
  subst w_1
  refine W.eq (g2 := F0 m 5 ls [.null]) rfl ?_
  refine lv_astore_nN (lv' := [(3, .null), (0, .ref h0), (1, .int a1), (2, .int a2)]) hx hb dX10_sold_5 rfl hl (by decide) rfl (fun ls hl => ?_)
  refine lv_aload_nN hx hb dX10_sold_6 rfl (lv_at hl 0 rfl) ?_
  refine lv_ifnonnullN hx hb dX10_sold_7 ?_
  refine lv_aload_n hx hb dX10_sold_10 rfl (lv_at hl 1 rfl) ?_
  refine lv_iconst (v := (-1)) hx hb dX10_sold_11 (by decide) ?_
  have hPc := hP.sub (ws' := [(h0, .inr (10, oF q)), ((q 15), .inl ((cq 15), 7, .inl (fun _ => 0)))]) [0, 1] rfl
  have hDc := hD.sub (ws' := [(h0, .inr (10, oF q)), ((q 15), .inl ((cq 15), 7, .inl (fun _ => 0)))]) [0, 1] (by decide) rfl
  have hKc := hK.sub (tys' := [((cq 15), .int)]) [0] rfl
  have hFc := va_free (wc := [(h0, .inr (10, oF q)), ((q 15), .inl ((cq 15), 7, .inl (fun _ => 0)))]) hD hS hA [0, 1] rfl
  refine va_calli (va_runV (As := [.int (-1)]) (rest := []) ⟨hx, hb, hml, hown, hts⟩ (c_X10_refuse l dC dI H.size h0 q cq (-1) (by unfold vp_in; decide)) (cwV 1 hts gX10_sold_X10_refuse rfl rfl rfl (by decide +kernel) ⟨(Nat.le_of_ble_eq_true rfl), (Nat.le_of_ble_eq_true rfl)⟩) (pr_V (r := (RX10, TX10, 16)) hPc hKc hDc 0 10 rfl rfl) rfl rfl hl.1 rfl (lv_room (Nat.le_of_ble_eq_true rfl)) dX10_sold_12 ⟨(Nat.le_of_ble_eq_true rfl), (Nat.le_of_ble_eq_true rfl)⟩) hS (fun q _ h => hFc q h) hFc (fun r_4 u t H locs ht hvm w_3 hB hz1 hk1 hS => ?_)
  subst w_3
  exact W.iret (v := (-1)) hx hb hr (fun t ht hW => ⟨⟨(-1), (), rfl, rfl, trivial⟩, hS.F ht⟩) hS.2.2 dX10_sold_15
set_option maxHeartbeats 4000000 in
set_option maxRecDepth 100000 in
theorem c_X10_allot (l : Launch) (dC : Nat → ClassId) (dI : Nat → Nat → Nat) (sz : Nat) (h0 : Nat) (q : Nat → Nat) (cq : Nat → ClassId) (a1 : Int32) (a2 : Int32) : Met l yX10_allot wsX10_allot ({ frames := 1, cells := 0, slots := 0, locals := 21 }) (va_Pc [.ref h0, .int a1, .int a2] (pcW (dC, dI) [((cq 15), .int)] [(h0, .inr (10, oF q)), ((q 15), .inl ((cq 15), 7, .inl (fun _ => 0)))] sz)) (va_Qi (fun (r : Int32) (u : Unit) => r = (-1)) (fun _ _ => True) (va_A [(h0, .inr (10, oF q)), ((q 15), .inl ((cq 15), 7, .inl (fun _ => 0)))] sz)) 0 0 (va_A [(h0, .inr (10, oF q)), ((q 15), .inl ((cq 15), 7, .inl (fun _ => 0)))] sz) := by
  refine Met.ofW (cc := cX10_allot) (maxL := 6) (ret := (some .int)) (by decide) rfl ?_
  intro p e s m args below meth c s₁ B hml hv
  obtain ⟨rfl, hsz, hP, hK, hD0⟩ := hv
  have hx := B.exec
  have hb := B.bytes
  have hr := B.returns
  have hts := atoms_spec (ws := wsX10_allot) B.pre
  have hown : s.vm.findClass RX10 = some m.cls := findClass_of_methodNamed B.named
  have hlocks := B.notSynchronized
  subst hsz
  have hD := hD0.self (sz := s.heap.size)
  generalize hAe : va_A [(h0, .inr (10, oF q)), ((q 15), .inl ((cq 15), 7, .inl (fun _ => 0)))] s.heap.size = A at hD ⊢
  have hA : ∀ q : Nat, s.heap.size ≤ q → A q := fun q h => by rw [← hAe]; exact Or.inr h
  have hS : va_S A s.heap s.heap [] := va_S.rf
  have hP : va_P (dC, dI) vwCl [(h0, .inr (10, oF q)), ((q 15), .inl ((cq 15), 7, .inl (fun _ => 0)))] s.heap := hP
  have hl := lv_entry ([.ref h0, .int a1, .int a2]) (n := 6) (Nat.le_of_ble_eq_true rfl)
  rw [lg_entry_eq]
  generalize (lg_sl ([.ref h0, .int a1, .int a2]) ++ List.replicate (6 - (lg_sl ([.ref h0, .int a1, .int a2])).length) Slot.unset).toArray = ls at hl ⊢
  have hl : lv_has ls 6 [(0, .ref h0), (1, .int a1), (2, .int a2)] := hl
  refine lv_aload_n hx hb dX10_allot_0 rfl (lv_at hl 0 rfl) ?_
  refine lv_iload_n hx hb dX10_allot_1 rfl (lv_at hl 1 rfl) ?_
  have hPc := hP.sub (ws' := [(h0, .inr (10, oF q))]) [0] rfl
  have hDc := hD.sub (ws' := [(h0, .inr (10, oF q))]) [0] (by decide) rfl
  have hKc := hK.sub (tys' := []) [] rfl
  have hFc : ∀ q, va_A [] s.heap.size q → A q := pu_free hS hA
  refine va_callq (va_runV (As := [.int a1]) (rest := []) ⟨hx, hb, hml, hown, hts⟩ (c_X10_agreementAt l dC dI s.heap.size h0 q cq a1) (cwV 1 hts gX10_allot_X10_agreementAt rfl rfl rfl (by decide +kernel) ⟨(Nat.le_of_ble_eq_true rfl), (Nat.le_of_ble_eq_true rfl)⟩) (pr_V (r := (RX10, TX10, 16)) hPc hKc hDc 0 10 rfl rfl) rfl rfl hl.1 rfl (lv_room (Nat.le_of_ble_eq_true rfl)) dX10_allot_2 ⟨(Nat.le_of_ble_eq_true rfl), (Nat.le_of_ble_eq_true rfl)⟩) hS (fun q _ h => hFc q h) hFc (fun r_2 u t H locs ht hvm w_1 hB hz1 hk1 hS => ?_)
  have hP := pu_keep hP hk1
  clear hk1 hz1 hvm hB hPc hDc hKc hFc ht
  subst w_1
  refine W.eq (g2 := F0 m 5 ls [.null]) rfl ?_
  refine lv_astore_nN (lv' := [(3, .null), (0, .ref h0), (1, .int a1), (2, .int a2)]) hx hb dX10_allot_5 rfl hl (by decide) rfl (fun ls hl => ?_)
  refine lv_aload_nN hx hb dX10_allot_6 rfl (lv_at hl 0 rfl) ?_
  refine lv_ifnonnullN hx hb dX10_allot_7 ?_
  refine lv_aload_n hx hb dX10_allot_10 rfl (lv_at hl 1 rfl) ?_
  refine lv_iconst (v := (-1)) hx hb dX10_allot_11 (by decide) ?_
  have hPc := hP.sub (ws' := [(h0, .inr (10, oF q)), ((q 15), .inl ((cq 15), 7, .inl (fun _ => 0)))]) [0, 1] rfl
  have hDc := hD.sub (ws' := [(h0, .inr (10, oF q)), ((q 15), .inl ((cq 15), 7, .inl (fun _ => 0)))]) [0, 1] (by decide) rfl
  have hKc := hK.sub (tys' := [((cq 15), .int)]) [0] rfl
  have hFc := va_free (wc := [(h0, .inr (10, oF q)), ((q 15), .inl ((cq 15), 7, .inl (fun _ => 0)))]) hD hS hA [0, 1] rfl
  refine va_calli (va_runV (As := [.int (-1)]) (rest := []) ⟨hx, hb, hml, hown, hts⟩ (c_X10_refuse l dC dI H.size h0 q cq (-1) (by unfold vp_in; decide)) (cwV 1 hts gX10_allot_X10_refuse rfl rfl rfl (by decide +kernel) ⟨(Nat.le_of_ble_eq_true rfl), (Nat.le_of_ble_eq_true rfl)⟩) (pr_V (r := (RX10, TX10, 16)) hPc hKc hDc 0 10 rfl rfl) rfl rfl hl.1 rfl (lv_room (Nat.le_of_ble_eq_true rfl)) dX10_allot_12 ⟨(Nat.le_of_ble_eq_true rfl), (Nat.le_of_ble_eq_true rfl)⟩) hS (fun q _ h => hFc q h) hFc (fun r_4 u t H locs ht hvm w_3 hB hz1 hk1 hS => ?_)
  subst w_3
  exact W.iret (v := (-1)) hx hb hr (fun t ht hW => ⟨⟨(-1), (), rfl, rfl, trivial⟩, hS.F ht⟩) hS.2.2 dX10_allot_15
set_option maxHeartbeats 4000000 in
set_option maxRecDepth 100000 in
theorem c_X10_fine (l : Launch) (dC : Nat → ClassId) (dI : Nat → Nat → Nat) (sz : Nat) (h0 : Nat) (q : Nat → Nat) (cq : Nat → ClassId) (a1 : Int32) (a2 : Int32) (a3 : Int32) (a4 : Int32) : Met l yX10_fine wsX10_fine ({ frames := 1, cells := 0, slots := 0, locals := 21 }) (va_Pc [.ref h0, .int a1, .int a2, .int a3, .int a4] (pcW (dC, dI) [((cq 15), .int)] [(h0, .inr (10, oF q)), ((q 15), .inl ((cq 15), 7, .inl (fun _ => 0)))] sz)) (va_Qi (fun (r : Int32) (u : Unit) => r = (-1)) (fun _ _ => True) (va_A [(h0, .inr (10, oF q)), ((q 15), .inl ((cq 15), 7, .inl (fun _ => 0)))] sz)) 0 0 (va_A [(h0, .inr (10, oF q)), ((q 15), .inl ((cq 15), 7, .inl (fun _ => 0)))] sz) := by
  refine Met.ofW (cc := cX10_fine) (maxL := 6) (ret := (some .int)) (by decide) rfl ?_
  intro p e s m args below meth c s₁ B hml hv
  obtain ⟨rfl, hsz, hP, hK, hD0⟩ := hv
  have hx := B.exec
  have hb := B.bytes
  have hr := B.returns
  have hts := atoms_spec (ws := wsX10_fine) B.pre
  have hown : s.vm.findClass RX10 = some m.cls := findClass_of_methodNamed B.named
  have hlocks := B.notSynchronized
  subst hsz
  have hD := hD0.self (sz := s.heap.size)
  generalize hAe : va_A [(h0, .inr (10, oF q)), ((q 15), .inl ((cq 15), 7, .inl (fun _ => 0)))] s.heap.size = A at hD ⊢
  have hA : ∀ q : Nat, s.heap.size ≤ q → A q := fun q h => by rw [← hAe]; exact Or.inr h
  have hS : va_S A s.heap s.heap [] := va_S.rf
  have hP : va_P (dC, dI) vwCl [(h0, .inr (10, oF q)), ((q 15), .inl ((cq 15), 7, .inl (fun _ => 0)))] s.heap := hP
  have hl := lv_entry ([.ref h0, .int a1, .int a2, .int a3, .int a4]) (n := 6) (Nat.le_of_ble_eq_true rfl)
  rw [lg_entry_eq]
  generalize (lg_sl ([.ref h0, .int a1, .int a2, .int a3, .int a4]) ++ List.replicate (6 - (lg_sl ([.ref h0, .int a1, .int a2, .int a3, .int a4])).length) Slot.unset).toArray = ls at hl ⊢
  have hl : lv_has ls 6 [(0, .ref h0), (1, .int a1), (2, .int a2), (3, .int a3), (4, .int a4)] := hl
  refine lv_aload_n hx hb dX10_fine_0 rfl (lv_at hl 0 rfl) ?_
  refine lv_iload_n hx hb dX10_fine_1 rfl (lv_at hl 1 rfl) ?_
  have hPc := hP.sub (ws' := [(h0, .inr (10, oF q))]) [0] rfl
  have hDc := hD.sub (ws' := [(h0, .inr (10, oF q))]) [0] (by decide) rfl
  have hKc := hK.sub (tys' := []) [] rfl
  have hFc : ∀ q, va_A [] s.heap.size q → A q := pu_free hS hA
  refine va_callq (va_runV (As := [.int a1]) (rest := []) ⟨hx, hb, hml, hown, hts⟩ (c_X10_agreementAt l dC dI s.heap.size h0 q cq a1) (cwV 1 hts gX10_fine_X10_agreementAt rfl rfl rfl (by decide +kernel) ⟨(Nat.le_of_ble_eq_true rfl), (Nat.le_of_ble_eq_true rfl)⟩) (pr_V (r := (RX10, TX10, 16)) hPc hKc hDc 0 10 rfl rfl) rfl rfl hl.1 rfl (lv_room (Nat.le_of_ble_eq_true rfl)) dX10_fine_2 ⟨(Nat.le_of_ble_eq_true rfl), (Nat.le_of_ble_eq_true rfl)⟩) hS (fun q _ h => hFc q h) hFc (fun r_2 u t H locs ht hvm w_1 hB hz1 hk1 hS => ?_)
  have hP := pu_keep hP hk1
  clear hk1 hz1 hvm hB hPc hDc hKc hFc ht
  subst w_1
  refine W.eq (g2 := F0 m 5 ls [.null]) rfl ?_
  refine lv_astoreN (lv' := [(5, .null), (0, .ref h0), (1, .int a1), (2, .int a2), (3, .int a3), (4, .int a4)]) hx hb dX10_fine_5 hl (by decide) rfl (fun ls hl => ?_)
  refine lv_aloadN hx hb dX10_fine_7 (lv_at hl 0 rfl) ?_
  refine lv_ifnonnullN hx hb dX10_fine_9 ?_
  refine lv_aload_n hx hb dX10_fine_12 rfl (lv_at hl 1 rfl) ?_
  refine lv_iconst (v := (-1)) hx hb dX10_fine_13 (by decide) ?_
  have hPc := hP.sub (ws' := [(h0, .inr (10, oF q)), ((q 15), .inl ((cq 15), 7, .inl (fun _ => 0)))]) [0, 1] rfl
  have hDc := hD.sub (ws' := [(h0, .inr (10, oF q)), ((q 15), .inl ((cq 15), 7, .inl (fun _ => 0)))]) [0, 1] (by decide) rfl
  have hKc := hK.sub (tys' := [((cq 15), .int)]) [0] rfl
  have hFc := va_free (wc := [(h0, .inr (10, oF q)), ((q 15), .inl ((cq 15), 7, .inl (fun _ => 0)))]) hD hS hA [0, 1] rfl
  refine va_calli (va_runV (As := [.int (-1)]) (rest := []) ⟨hx, hb, hml, hown, hts⟩ (c_X10_refuse l dC dI H.size h0 q cq (-1) (by unfold vp_in; decide)) (cwV 1 hts gX10_fine_X10_refuse rfl rfl rfl (by decide +kernel) ⟨(Nat.le_of_ble_eq_true rfl), (Nat.le_of_ble_eq_true rfl)⟩) (pr_V (r := (RX10, TX10, 16)) hPc hKc hDc 0 10 rfl rfl) rfl rfl hl.1 rfl (lv_room (Nat.le_of_ble_eq_true rfl)) dX10_fine_14 ⟨(Nat.le_of_ble_eq_true rfl), (Nat.le_of_ble_eq_true rfl)⟩) hS (fun q _ h => hFc q h) hFc (fun r_4 u t H locs ht hvm w_3 hB hz1 hk1 hS => ?_)
  subst w_3
  exact W.iret (v := (-1)) hx hb hr (fun t ht hW => ⟨⟨(-1), (), rfl, rfl, trivial⟩, hS.F ht⟩) hS.2.2 dX10_fine_17
set_option maxHeartbeats 4000000 in
set_option maxRecDepth 100000 in
theorem c_X10_read (l : Launch) (dC : Nat → ClassId) (dI : Nat → Nat → Nat) (sz : Nat) (h0 : Nat) (q : Nat → Nat) (cq : Nat → ClassId) (a1 : Int32) (a2 : Int32) : Met l yX10_read wsX10_read ({ frames := 1, cells := 0, slots := 0, locals := 21 }) (va_Pc [.ref h0, .int a1, .int a2] (pcW (dC, dI) [((cq 15), .int)] [(h0, .inr (10, oF q)), ((q 15), .inl ((cq 15), 7, .inl (fun _ => 0)))] sz)) (va_Qi (fun (r : Int32) (u : Unit) => r = (-1)) (fun _ _ => True) (va_A [(h0, .inr (10, oF q)), ((q 15), .inl ((cq 15), 7, .inl (fun _ => 0)))] sz)) 0 0 (va_A [(h0, .inr (10, oF q)), ((q 15), .inl ((cq 15), 7, .inl (fun _ => 0)))] sz) := by
  refine Met.ofW (cc := cX10_read) (maxL := 4) (ret := (some .int)) (by decide) rfl ?_
  intro p e s m args below meth c s₁ B hml hv
  obtain ⟨rfl, hsz, hP, hK, hD0⟩ := hv
  have hx := B.exec
  have hb := B.bytes
  have hr := B.returns
  have hts := atoms_spec (ws := wsX10_read) B.pre
  have hown : s.vm.findClass RX10 = some m.cls := findClass_of_methodNamed B.named
  have hlocks := B.notSynchronized
  subst hsz
  have hD := hD0.self (sz := s.heap.size)
  generalize hAe : va_A [(h0, .inr (10, oF q)), ((q 15), .inl ((cq 15), 7, .inl (fun _ => 0)))] s.heap.size = A at hD ⊢
  have hA : ∀ q : Nat, s.heap.size ≤ q → A q := fun q h => by rw [← hAe]; exact Or.inr h
  have hS : va_S A s.heap s.heap [] := va_S.rf
  have hP : va_P (dC, dI) vwCl [(h0, .inr (10, oF q)), ((q 15), .inl ((cq 15), 7, .inl (fun _ => 0)))] s.heap := hP
  have hl := lv_entry ([.ref h0, .int a1, .int a2]) (n := 4) (Nat.le_of_ble_eq_true rfl)
  rw [lg_entry_eq]
  generalize (lg_sl ([.ref h0, .int a1, .int a2]) ++ List.replicate (4 - (lg_sl ([.ref h0, .int a1, .int a2])).length) Slot.unset).toArray = ls at hl ⊢
  have hl : lv_has ls 4 [(0, .ref h0), (1, .int a1), (2, .int a2)] := hl
  refine lv_aload_n hx hb dX10_read_0 rfl (lv_at hl 0 rfl) ?_
  refine lv_iload_n hx hb dX10_read_1 rfl (lv_at hl 1 rfl) ?_
  have hPc := hP.sub (ws' := [(h0, .inr (10, oF q))]) [0] rfl
  have hDc := hD.sub (ws' := [(h0, .inr (10, oF q))]) [0] (by decide) rfl
  have hKc := hK.sub (tys' := []) [] rfl
  have hFc : ∀ q, va_A [] s.heap.size q → A q := pu_free hS hA
  refine va_callq (va_runV (As := [.int a1]) (rest := []) ⟨hx, hb, hml, hown, hts⟩ (c_X10_agreementAt l dC dI s.heap.size h0 q cq a1) (cwV 1 hts gX10_read_X10_agreementAt rfl rfl rfl (by decide +kernel) ⟨(Nat.le_of_ble_eq_true rfl), (Nat.le_of_ble_eq_true rfl)⟩) (pr_V (r := (RX10, TX10, 16)) hPc hKc hDc 0 10 rfl rfl) rfl rfl hl.1 rfl (lv_room (Nat.le_of_ble_eq_true rfl)) dX10_read_2 ⟨(Nat.le_of_ble_eq_true rfl), (Nat.le_of_ble_eq_true rfl)⟩) hS (fun q _ h => hFc q h) hFc (fun r_2 u t H locs ht hvm w_1 hB hz1 hk1 hS => ?_)
  have hP := pu_keep hP hk1
  clear hk1 hz1 hvm hB hPc hDc hKc hFc ht
  subst w_1
  refine W.eq (g2 := F0 m 5 ls [.null]) rfl ?_
  refine lv_iload_n hx hb dX10_read_5 rfl (lv_at hl 2 rfl) ?_
  have hPc := hP.sub (ws' := []) [] rfl
  have hDc := hD.sub (ws' := []) [] (by decide) rfl
  have hKc := hK.sub (tys' := []) [] rfl
  have hFc : ∀ q, va_A [] H.size q → A q := pu_free hS hA
  refine va_callq (va_runS (As := [.null, .int a2]) (rest := []) ⟨hx, hb, hml, hown, hts⟩ (c_X10_fineAt l dC dI H.size a2) (va_cwS 2 hts gX10_read_X10_fineAt rfl rfl rfl (by decide +kernel) ⟨(Nat.le_of_ble_eq_true rfl), (Nat.le_of_ble_eq_true rfl)⟩) (pr_S hPc hKc hDc) rfl rfl hl.1 rfl (lv_room (Nat.le_of_ble_eq_true rfl)) dX10_read_6 ⟨(Nat.le_of_ble_eq_true rfl), (Nat.le_of_ble_eq_true rfl)⟩) hS (fun q _ h => hFc q h) hFc (fun r_4 u t H locs ht hvm w_3 hB hz1 hk1 hS => ?_)
  have hP := pu_keep hP hk1
  clear hk1 hz1 hvm hB hPc hDc hKc hFc ht
  subst w_3
  refine W.eq (g2 := F0 m 9 ls [.null]) rfl ?_
  refine lv_astore_nN (lv' := [(3, .null), (0, .ref h0), (1, .int a1), (2, .int a2)]) hx hb dX10_read_9 rfl hl (by decide) rfl (fun ls hl => ?_)
  refine lv_aload_nN hx hb dX10_read_10 rfl (lv_at hl 0 rfl) ?_
  refine lv_ifnonnullN hx hb dX10_read_11 ?_
  refine lv_aload_n hx hb dX10_read_14 rfl (lv_at hl 1 rfl) ?_
  refine lv_iconst (v := (-1)) hx hb dX10_read_15 (by decide) ?_
  have hPc := hP.sub (ws' := [(h0, .inr (10, oF q)), ((q 15), .inl ((cq 15), 7, .inl (fun _ => 0)))]) [0, 1] rfl
  have hDc := hD.sub (ws' := [(h0, .inr (10, oF q)), ((q 15), .inl ((cq 15), 7, .inl (fun _ => 0)))]) [0, 1] (by decide) rfl
  have hKc := hK.sub (tys' := [((cq 15), .int)]) [0] rfl
  have hFc := va_free (wc := [(h0, .inr (10, oF q)), ((q 15), .inl ((cq 15), 7, .inl (fun _ => 0)))]) hD hS hA [0, 1] rfl
  refine va_calli (va_runV (As := [.int (-1)]) (rest := []) ⟨hx, hb, hml, hown, hts⟩ (c_X10_refuse l dC dI H.size h0 q cq (-1) (by unfold vp_in; decide)) (cwV 1 hts gX10_read_X10_refuse rfl rfl rfl (by decide +kernel) ⟨(Nat.le_of_ble_eq_true rfl), (Nat.le_of_ble_eq_true rfl)⟩) (pr_V (r := (RX10, TX10, 16)) hPc hKc hDc 0 10 rfl rfl) rfl rfl hl.1 rfl (lv_room (Nat.le_of_ble_eq_true rfl)) dX10_read_16 ⟨(Nat.le_of_ble_eq_true rfl), (Nat.le_of_ble_eq_true rfl)⟩) hS (fun q _ h => hFc q h) hFc (fun r_6 u t H locs ht hvm w_5 hB hz1 hk1 hS => ?_)
  subst w_5
  exact W.iret (v := (-1)) hx hb hr (fun t ht hW => ⟨⟨(-1), (), rfl, rfl, trivial⟩, hS.F ht⟩) hS.2.2 dX10_read_19
set_option maxHeartbeats 4000000 in
set_option maxRecDepth 100000 in
theorem c_X10_stands (l : Launch) (dC : Nat → ClassId) (dI : Nat → Nat → Nat) (sz : Nat) (h0 : Nat) (q : Nat → Nat) (cq : Nat → ClassId) (a1 : Int32) (a2 : Int32) (a3 : Int32) : Met l yX10_stands wsX10_stands ({ frames := 1, cells := 0, slots := 0, locals := 21 }) (va_Pc [.ref h0, .int a1, .int a2, .int a3] (pcW (dC, dI) [((cq 15), .int)] [(h0, .inr (10, oF q)), ((q 15), .inl ((cq 15), 7, .inl (fun _ => 0)))] sz)) (va_Qi (fun (r : Int32) (u : Unit) => r = (-1)) (fun _ _ => True) (va_A [(h0, .inr (10, oF q)), ((q 15), .inl ((cq 15), 7, .inl (fun _ => 0)))] sz)) 0 0 (va_A [(h0, .inr (10, oF q)), ((q 15), .inl ((cq 15), 7, .inl (fun _ => 0)))] sz) := by
  refine Met.ofW (cc := cX10_stands) (maxL := 6) (ret := (some .int)) (by decide) rfl ?_
  intro p e s m args below meth c s₁ B hml hv
  obtain ⟨rfl, hsz, hP, hK, hD0⟩ := hv
  have hx := B.exec
  have hb := B.bytes
  have hr := B.returns
  have hts := atoms_spec (ws := wsX10_stands) B.pre
  have hown : s.vm.findClass RX10 = some m.cls := findClass_of_methodNamed B.named
  have hlocks := B.notSynchronized
  subst hsz
  have hD := hD0.self (sz := s.heap.size)
  generalize hAe : va_A [(h0, .inr (10, oF q)), ((q 15), .inl ((cq 15), 7, .inl (fun _ => 0)))] s.heap.size = A at hD ⊢
  have hA : ∀ q : Nat, s.heap.size ≤ q → A q := fun q h => by rw [← hAe]; exact Or.inr h
  have hS : va_S A s.heap s.heap [] := va_S.rf
  have hP : va_P (dC, dI) vwCl [(h0, .inr (10, oF q)), ((q 15), .inl ((cq 15), 7, .inl (fun _ => 0)))] s.heap := hP
  have hl := lv_entry ([.ref h0, .int a1, .int a2, .int a3]) (n := 6) (Nat.le_of_ble_eq_true rfl)
  rw [lg_entry_eq]
  generalize (lg_sl ([.ref h0, .int a1, .int a2, .int a3]) ++ List.replicate (6 - (lg_sl ([.ref h0, .int a1, .int a2, .int a3])).length) Slot.unset).toArray = ls at hl ⊢
  have hl : lv_has ls 6 [(0, .ref h0), (1, .int a1), (2, .int a2), (3, .int a3)] := hl
  refine lv_aload_n hx hb dX10_stands_0 rfl (lv_at hl 0 rfl) ?_
  refine lv_iload_n hx hb dX10_stands_1 rfl (lv_at hl 1 rfl) ?_
  have hPc := hP.sub (ws' := [(h0, .inr (10, oF q))]) [0] rfl
  have hDc := hD.sub (ws' := [(h0, .inr (10, oF q))]) [0] (by decide) rfl
  have hKc := hK.sub (tys' := []) [] rfl
  have hFc : ∀ q, va_A [] s.heap.size q → A q := pu_free hS hA
  refine va_callq (va_runV (As := [.int a1]) (rest := []) ⟨hx, hb, hml, hown, hts⟩ (c_X10_agreementAt l dC dI s.heap.size h0 q cq a1) (cwV 1 hts gX10_stands_X10_agreementAt rfl rfl rfl (by decide +kernel) ⟨(Nat.le_of_ble_eq_true rfl), (Nat.le_of_ble_eq_true rfl)⟩) (pr_V (r := (RX10, TX10, 16)) hPc hKc hDc 0 10 rfl rfl) rfl rfl hl.1 rfl (lv_room (Nat.le_of_ble_eq_true rfl)) dX10_stands_2 ⟨(Nat.le_of_ble_eq_true rfl), (Nat.le_of_ble_eq_true rfl)⟩) hS (fun q _ h => hFc q h) hFc (fun r_2 u t H locs ht hvm w_1 hB hz1 hk1 hS => ?_)
  have hP := pu_keep hP hk1
  clear hk1 hz1 hvm hB hPc hDc hKc hFc ht
  subst w_1
  refine W.eq (g2 := F0 m 5 ls [.null]) rfl ?_
  refine lv_astoreN (lv' := [(4, .null), (0, .ref h0), (1, .int a1), (2, .int a2), (3, .int a3)]) hx hb dX10_stands_5 hl (by decide) rfl (fun ls hl => ?_)
  refine lv_aloadN hx hb dX10_stands_7 (lv_at hl 0 rfl) ?_
  refine lv_iload_n hx hb dX10_stands_9 rfl (lv_at hl 3 rfl) ?_
  have hPc := hP.sub (ws' := []) [] rfl
  have hDc := hD.sub (ws' := []) [] (by decide) rfl
  have hKc := hK.sub (tys' := []) [] rfl
  have hFc : ∀ q, va_A [] H.size q → A q := pu_free hS hA
  refine va_callq (va_runS (As := [.null, .int a2]) (rest := []) ⟨hx, hb, hml, hown, hts⟩ (c_X10_fineAt l dC dI H.size a2) (va_cwS 2 hts gX10_stands_X10_fineAt rfl rfl rfl (by decide +kernel) ⟨(Nat.le_of_ble_eq_true rfl), (Nat.le_of_ble_eq_true rfl)⟩) (pr_S hPc hKc hDc) rfl rfl hl.1 rfl (lv_room (Nat.le_of_ble_eq_true rfl)) dX10_stands_10 ⟨(Nat.le_of_ble_eq_true rfl), (Nat.le_of_ble_eq_true rfl)⟩) hS (fun q _ h => hFc q h) hFc (fun r_4 u t H locs ht hvm w_3 hB hz1 hk1 hS => ?_)
  have hP := pu_keep hP hk1
  clear hk1 hz1 hvm hB hPc hDc hKc hFc ht
  subst w_3
  refine W.eq (g2 := F0 m 13 ls [.null]) rfl ?_
  refine lv_astoreN (lv' := [(5, .null), (4, .null), (0, .ref h0), (1, .int a1), (2, .int a2), (3, .int a3)]) hx hb dX10_stands_13 hl (by decide) rfl (fun ls hl => ?_)
  refine lv_aloadN hx hb dX10_stands_15 (lv_at hl 1 rfl) ?_
  refine lv_ifnullN (tgt := 25) hx hb dX10_stands_17 (by decide) ?_
  refine lv_aload_n hx hb dX10_stands_25 rfl (lv_at hl 2 rfl) ?_
  refine lv_iconst (v := (-1)) hx hb dX10_stands_26 (by decide) ?_
  have hPc := hP.sub (ws' := [(h0, .inr (10, oF q)), ((q 15), .inl ((cq 15), 7, .inl (fun _ => 0)))]) [0, 1] rfl
  have hDc := hD.sub (ws' := [(h0, .inr (10, oF q)), ((q 15), .inl ((cq 15), 7, .inl (fun _ => 0)))]) [0, 1] (by decide) rfl
  have hKc := hK.sub (tys' := [((cq 15), .int)]) [0] rfl
  have hFc := va_free (wc := [(h0, .inr (10, oF q)), ((q 15), .inl ((cq 15), 7, .inl (fun _ => 0)))]) hD hS hA [0, 1] rfl
  refine va_calli (va_runV (As := [.int (-1)]) (rest := []) ⟨hx, hb, hml, hown, hts⟩ (c_X10_refuse l dC dI H.size h0 q cq (-1) (by unfold vp_in; decide)) (cwV 1 hts gX10_stands_X10_refuse rfl rfl rfl (by decide +kernel) ⟨(Nat.le_of_ble_eq_true rfl), (Nat.le_of_ble_eq_true rfl)⟩) (pr_V (r := (RX10, TX10, 16)) hPc hKc hDc 0 10 rfl rfl) rfl rfl hl.1 rfl (lv_room (Nat.le_of_ble_eq_true rfl)) dX10_stands_27 ⟨(Nat.le_of_ble_eq_true rfl), (Nat.le_of_ble_eq_true rfl)⟩) hS (fun q _ h => hFc q h) hFc (fun r_6 u t H locs ht hvm w_5 hB hz1 hk1 hS => ?_)
  subst w_5
  exact W.iret (v := (-1)) hx hb hr (fun t ht hW => ⟨⟨(-1), (), rfl, rfl, trivial⟩, hS.F ht⟩) hS.2.2 dX10_stands_30
set_option maxHeartbeats 4000000 in
set_option maxRecDepth 100000 in
theorem c_X10_rations (l : Launch) (dC : Nat → ClassId) (dI : Nat → Nat → Nat) (sz : Nat) (h0 : Nat) (q : Nat → Nat) (cq : Nat → ClassId) (a1 : Int32) (a2 : Int32) (a3 : Int32) : Met l yX10_rations wsX10_rations ({ frames := 1, cells := 0, slots := 0, locals := 21 }) (va_Pc [.ref h0, .int a1, .int a2, .int a3] (pcW (dC, dI) [((cq 15), .int)] [(h0, .inr (10, oF q)), ((q 15), .inl ((cq 15), 7, .inl (fun _ => 0)))] sz)) (va_Qi (fun (r : Int32) (u : Unit) => r = (-1)) (fun _ _ => True) (va_A [(h0, .inr (10, oF q)), ((q 15), .inl ((cq 15), 7, .inl (fun _ => 0)))] sz)) 0 0 (va_A [(h0, .inr (10, oF q)), ((q 15), .inl ((cq 15), 7, .inl (fun _ => 0)))] sz) := by
  refine Met.ofW (cc := cX10_rations) (maxL := 5) (ret := (some .int)) (by decide) rfl ?_
  intro p e s m args below meth c s₁ B hml hv
  obtain ⟨rfl, hsz, hP, hK, hD0⟩ := hv
  have hx := B.exec
  have hb := B.bytes
  have hr := B.returns
  have hts := atoms_spec (ws := wsX10_rations) B.pre
  have hown : s.vm.findClass RX10 = some m.cls := findClass_of_methodNamed B.named
  have hlocks := B.notSynchronized
  subst hsz
  have hD := hD0.self (sz := s.heap.size)
  generalize hAe : va_A [(h0, .inr (10, oF q)), ((q 15), .inl ((cq 15), 7, .inl (fun _ => 0)))] s.heap.size = A at hD ⊢
  have hA : ∀ q : Nat, s.heap.size ≤ q → A q := fun q h => by rw [← hAe]; exact Or.inr h
  have hS : va_S A s.heap s.heap [] := va_S.rf
  have hP : va_P (dC, dI) vwCl [(h0, .inr (10, oF q)), ((q 15), .inl ((cq 15), 7, .inl (fun _ => 0)))] s.heap := hP
  have hl := lv_entry ([.ref h0, .int a1, .int a2, .int a3]) (n := 5) (Nat.le_of_ble_eq_true rfl)
  rw [lg_entry_eq]
  generalize (lg_sl ([.ref h0, .int a1, .int a2, .int a3]) ++ List.replicate (5 - (lg_sl ([.ref h0, .int a1, .int a2, .int a3])).length) Slot.unset).toArray = ls at hl ⊢
  have hl : lv_has ls 5 [(0, .ref h0), (1, .int a1), (2, .int a2), (3, .int a3)] := hl
  refine lv_aload_n hx hb dX10_rations_0 rfl (lv_at hl 0 rfl) ?_
  refine lv_iload_n hx hb dX10_rations_1 rfl (lv_at hl 1 rfl) ?_
  have hPc := hP.sub (ws' := [(h0, .inr (10, oF q))]) [0] rfl
  have hDc := hD.sub (ws' := [(h0, .inr (10, oF q))]) [0] (by decide) rfl
  have hKc := hK.sub (tys' := []) [] rfl
  have hFc : ∀ q, va_A [] s.heap.size q → A q := pu_free hS hA
  refine va_callq (va_runV (As := [.int a1]) (rest := []) ⟨hx, hb, hml, hown, hts⟩ (c_X10_agreementAt l dC dI s.heap.size h0 q cq a1) (cwV 1 hts gX10_rations_X10_agreementAt rfl rfl rfl (by decide +kernel) ⟨(Nat.le_of_ble_eq_true rfl), (Nat.le_of_ble_eq_true rfl)⟩) (pr_V (r := (RX10, TX10, 16)) hPc hKc hDc 0 10 rfl rfl) rfl rfl hl.1 rfl (lv_room (Nat.le_of_ble_eq_true rfl)) dX10_rations_2 ⟨(Nat.le_of_ble_eq_true rfl), (Nat.le_of_ble_eq_true rfl)⟩) hS (fun q _ h => hFc q h) hFc (fun r_2 u t H locs ht hvm w_1 hB hz1 hk1 hS => ?_)
  have hP := pu_keep hP hk1
  clear hk1 hz1 hvm hB hPc hDc hKc hFc ht
  subst w_1
  refine W.eq (g2 := F0 m 5 ls [.null]) rfl ?_
  refine lv_astoreN (lv' := [(4, .null), (0, .ref h0), (1, .int a1), (2, .int a2), (3, .int a3)]) hx hb dX10_rations_5 hl (by decide) rfl (fun ls hl => ?_)
  refine lv_aloadN hx hb dX10_rations_7 (lv_at hl 0 rfl) ?_
  refine lv_ifnonnullN hx hb dX10_rations_9 ?_
  refine lv_aload_n hx hb dX10_rations_12 rfl (lv_at hl 1 rfl) ?_
  refine lv_iconst (v := (-1)) hx hb dX10_rations_13 (by decide) ?_
  have hPc := hP.sub (ws' := [(h0, .inr (10, oF q)), ((q 15), .inl ((cq 15), 7, .inl (fun _ => 0)))]) [0, 1] rfl
  have hDc := hD.sub (ws' := [(h0, .inr (10, oF q)), ((q 15), .inl ((cq 15), 7, .inl (fun _ => 0)))]) [0, 1] (by decide) rfl
  have hKc := hK.sub (tys' := [((cq 15), .int)]) [0] rfl
  have hFc := va_free (wc := [(h0, .inr (10, oF q)), ((q 15), .inl ((cq 15), 7, .inl (fun _ => 0)))]) hD hS hA [0, 1] rfl
  refine va_calli (va_runV (As := [.int (-1)]) (rest := []) ⟨hx, hb, hml, hown, hts⟩ (c_X10_refuse l dC dI H.size h0 q cq (-1) (by unfold vp_in; decide)) (cwV 1 hts gX10_rations_X10_refuse rfl rfl rfl (by decide +kernel) ⟨(Nat.le_of_ble_eq_true rfl), (Nat.le_of_ble_eq_true rfl)⟩) (pr_V (r := (RX10, TX10, 16)) hPc hKc hDc 0 10 rfl rfl) rfl rfl hl.1 rfl (lv_room (Nat.le_of_ble_eq_true rfl)) dX10_rations_14 ⟨(Nat.le_of_ble_eq_true rfl), (Nat.le_of_ble_eq_true rfl)⟩) hS (fun q _ h => hFc q h) hFc (fun r_4 u t H locs ht hvm w_3 hB hz1 hk1 hS => ?_)
  subst w_3
  exact W.iret (v := (-1)) hx hb hr (fun t ht hW => ⟨⟨(-1), (), rfl, rfl, trivial⟩, hS.F ht⟩) hS.2.2 dX10_rations_17
set_option maxHeartbeats 4000000 in
set_option maxRecDepth 100000 in
theorem c_X10_agreementOf (l : Launch) (dC : Nat → ClassId) (dI : Nat → Nat → Nat) (sz : Nat) (h0 : Nat) (q : Nat → Nat) (cq : Nat → ClassId) (a1 : Int32) (a2 : Int32) : Met l yX10_agreementOf wsX10_agreementOf ({ frames := 1, cells := 0, slots := 0, locals := 21 }) (va_Pc [.ref h0, .int a1, .int a2] (pcW (dC, dI) [((cq 15), .int)] [(h0, .inr (10, oF q)), ((q 15), .inl ((cq 15), 7, .inl (fun _ => 0)))] sz)) (va_Qi (fun (r : Int32) (u : Unit) => r = (-1)) (fun _ _ => True) (va_A [(h0, .inr (10, oF q)), ((q 15), .inl ((cq 15), 7, .inl (fun _ => 0)))] sz)) 0 0 (va_A [(h0, .inr (10, oF q)), ((q 15), .inl ((cq 15), 7, .inl (fun _ => 0)))] sz) := by
  refine Met.ofW (cc := cX10_agreementOf) (maxL := 4) (ret := (some .int)) (by decide) rfl ?_
  intro p e s m args below meth c s₁ B hml hv
  obtain ⟨rfl, hsz, hP, hK, hD0⟩ := hv
  have hx := B.exec
  have hb := B.bytes
  have hr := B.returns
  have hts := atoms_spec (ws := wsX10_agreementOf) B.pre
  have hown : s.vm.findClass RX10 = some m.cls := findClass_of_methodNamed B.named
  have hlocks := B.notSynchronized
  subst hsz
  have hD := hD0.self (sz := s.heap.size)
  generalize hAe : va_A [(h0, .inr (10, oF q)), ((q 15), .inl ((cq 15), 7, .inl (fun _ => 0)))] s.heap.size = A at hD ⊢
  have hA : ∀ q : Nat, s.heap.size ≤ q → A q := fun q h => by rw [← hAe]; exact Or.inr h
  have hS : va_S A s.heap s.heap [] := va_S.rf
  have hP : va_P (dC, dI) vwCl [(h0, .inr (10, oF q)), ((q 15), .inl ((cq 15), 7, .inl (fun _ => 0)))] s.heap := hP
  have hl := lv_entry ([.ref h0, .int a1, .int a2]) (n := 4) (Nat.le_of_ble_eq_true rfl)
  rw [lg_entry_eq]
  generalize (lg_sl ([.ref h0, .int a1, .int a2]) ++ List.replicate (4 - (lg_sl ([.ref h0, .int a1, .int a2])).length) Slot.unset).toArray = ls at hl ⊢
  have hl : lv_has ls 4 [(0, .ref h0), (1, .int a1), (2, .int a2)] := hl
  refine lv_aload_n hx hb dX10_agreementOf_0 rfl (lv_at hl 0 rfl) ?_
  refine lv_iload_n hx hb dX10_agreementOf_1 rfl (lv_at hl 1 rfl) ?_
  have hPc := hP.sub (ws' := [(h0, .inr (10, oF q))]) [0] rfl
  have hDc := hD.sub (ws' := [(h0, .inr (10, oF q))]) [0] (by decide) rfl
  have hKc := hK.sub (tys' := []) [] rfl
  have hFc : ∀ q, va_A [] s.heap.size q → A q := pu_free hS hA
  refine va_callq (va_runV (As := [.int a1]) (rest := []) ⟨hx, hb, hml, hown, hts⟩ (c_X10_agreementAt l dC dI s.heap.size h0 q cq a1) (cwV 1 hts gX10_agreementOf_X10_agreementAt rfl rfl rfl (by decide +kernel) ⟨(Nat.le_of_ble_eq_true rfl), (Nat.le_of_ble_eq_true rfl)⟩) (pr_V (r := (RX10, TX10, 16)) hPc hKc hDc 0 10 rfl rfl) rfl rfl hl.1 rfl (lv_room (Nat.le_of_ble_eq_true rfl)) dX10_agreementOf_2 ⟨(Nat.le_of_ble_eq_true rfl), (Nat.le_of_ble_eq_true rfl)⟩) hS (fun q _ h => hFc q h) hFc (fun r_2 u t H locs ht hvm w_1 hB hz1 hk1 hS => ?_)
  have hP := pu_keep hP hk1
  clear hk1 hz1 hvm hB hPc hDc hKc hFc ht
  subst w_1
  refine W.eq (g2 := F0 m 5 ls [.null]) rfl ?_
  refine lv_astore_nN (lv' := [(3, .null), (0, .ref h0), (1, .int a1), (2, .int a2)]) hx hb dX10_agreementOf_5 rfl hl (by decide) rfl (fun ls hl => ?_)
  refine lv_aload_nN hx hb dX10_agreementOf_6 rfl (lv_at hl 0 rfl) ?_
  refine lv_ifnonnullN hx hb dX10_agreementOf_7 ?_
  refine lv_aload_n hx hb dX10_agreementOf_10 rfl (lv_at hl 1 rfl) ?_
  refine lv_iconst (v := (-1)) hx hb dX10_agreementOf_11 (by decide) ?_
  have hPc := hP.sub (ws' := [(h0, .inr (10, oF q)), ((q 15), .inl ((cq 15), 7, .inl (fun _ => 0)))]) [0, 1] rfl
  have hDc := hD.sub (ws' := [(h0, .inr (10, oF q)), ((q 15), .inl ((cq 15), 7, .inl (fun _ => 0)))]) [0, 1] (by decide) rfl
  have hKc := hK.sub (tys' := [((cq 15), .int)]) [0] rfl
  have hFc := va_free (wc := [(h0, .inr (10, oF q)), ((q 15), .inl ((cq 15), 7, .inl (fun _ => 0)))]) hD hS hA [0, 1] rfl
  refine va_calli (va_runV (As := [.int (-1)]) (rest := []) ⟨hx, hb, hml, hown, hts⟩ (c_X10_refuse l dC dI H.size h0 q cq (-1) (by unfold vp_in; decide)) (cwV 1 hts gX10_agreementOf_X10_refuse rfl rfl rfl (by decide +kernel) ⟨(Nat.le_of_ble_eq_true rfl), (Nat.le_of_ble_eq_true rfl)⟩) (pr_V (r := (RX10, TX10, 16)) hPc hKc hDc 0 10 rfl rfl) rfl rfl hl.1 rfl (lv_room (Nat.le_of_ble_eq_true rfl)) dX10_agreementOf_12 ⟨(Nat.le_of_ble_eq_true rfl), (Nat.le_of_ble_eq_true rfl)⟩) hS (fun q _ h => hFc q h) hFc (fun r_4 u t H locs ht hvm w_3 hB hz1 hk1 hS => ?_)
  subst w_3
  exact W.iret (v := (-1)) hx hb hr (fun t ht hW => ⟨⟨(-1), (), rfl, rfl, trivial⟩, hS.F ht⟩) hS.2.2 dX10_agreementOf_15
set_option maxHeartbeats 4000000 in
set_option maxRecDepth 100000 in
theorem c_X10_aboard (l : Launch) (dC : Nat → ClassId) (dI : Nat → Nat → Nat) (sz : Nat) (h0 : Nat) (q : Nat → Nat) (cq : Nat → ClassId) (a1 : Int32) (a2 : Int32) (a3 : Int32) : Met l yX10_aboard wsX10_aboard ({ frames := 1, cells := 0, slots := 0, locals := 21 }) (va_Pc [.ref h0, .int a1, .int a2, .int a3] (pcW (dC, dI) [((cq 15), .int)] [(h0, .inr (10, oF q)), ((q 15), .inl ((cq 15), 7, .inl (fun _ => 0)))] sz)) (va_Qi (fun (r : Int32) (u : Unit) => r = (-1)) (fun _ _ => True) (va_A [(h0, .inr (10, oF q)), ((q 15), .inl ((cq 15), 7, .inl (fun _ => 0)))] sz)) 0 0 (va_A [(h0, .inr (10, oF q)), ((q 15), .inl ((cq 15), 7, .inl (fun _ => 0)))] sz) := by
  refine Met.ofW (cc := cX10_aboard) (maxL := 6) (ret := (some .int)) (by decide) rfl ?_
  intro p e s m args below meth c s₁ B hml hv
  obtain ⟨rfl, hsz, hP, hK, hD0⟩ := hv
  have hx := B.exec
  have hb := B.bytes
  have hr := B.returns
  have hts := atoms_spec (ws := wsX10_aboard) B.pre
  have hown : s.vm.findClass RX10 = some m.cls := findClass_of_methodNamed B.named
  have hlocks := B.notSynchronized
  subst hsz
  have hD := hD0.self (sz := s.heap.size)
  generalize hAe : va_A [(h0, .inr (10, oF q)), ((q 15), .inl ((cq 15), 7, .inl (fun _ => 0)))] s.heap.size = A at hD ⊢
  have hA : ∀ q : Nat, s.heap.size ≤ q → A q := fun q h => by rw [← hAe]; exact Or.inr h
  have hS : va_S A s.heap s.heap [] := va_S.rf
  have hP : va_P (dC, dI) vwCl [(h0, .inr (10, oF q)), ((q 15), .inl ((cq 15), 7, .inl (fun _ => 0)))] s.heap := hP
  have hl := lv_entry ([.ref h0, .int a1, .int a2, .int a3]) (n := 6) (Nat.le_of_ble_eq_true rfl)
  rw [lg_entry_eq]
  generalize (lg_sl ([.ref h0, .int a1, .int a2, .int a3]) ++ List.replicate (6 - (lg_sl ([.ref h0, .int a1, .int a2, .int a3])).length) Slot.unset).toArray = ls at hl ⊢
  have hl : lv_has ls 6 [(0, .ref h0), (1, .int a1), (2, .int a2), (3, .int a3)] := hl
  refine lv_aload_n hx hb dX10_aboard_0 rfl (lv_at hl 0 rfl) ?_
  refine lv_iload_n hx hb dX10_aboard_1 rfl (lv_at hl 1 rfl) ?_
  have hPc := hP.sub (ws' := [(h0, .inr (10, oF q))]) [0] rfl
  have hDc := hD.sub (ws' := [(h0, .inr (10, oF q))]) [0] (by decide) rfl
  have hKc := hK.sub (tys' := []) [] rfl
  have hFc : ∀ q, va_A [] s.heap.size q → A q := pu_free hS hA
  refine va_callq (va_runV (As := [.int a1]) (rest := []) ⟨hx, hb, hml, hown, hts⟩ (c_X10_voyageAt l dC dI s.heap.size h0 q cq a1) (cwV 1 hts gX10_aboard_X10_voyageAt rfl rfl rfl (by decide +kernel) ⟨(Nat.le_of_ble_eq_true rfl), (Nat.le_of_ble_eq_true rfl)⟩) (pr_V (r := (RX10, TX10, 16)) hPc hKc hDc 0 10 rfl rfl) rfl rfl hl.1 rfl (lv_room (Nat.le_of_ble_eq_true rfl)) dX10_aboard_2 ⟨(Nat.le_of_ble_eq_true rfl), (Nat.le_of_ble_eq_true rfl)⟩) hS (fun q _ h => hFc q h) hFc (fun r_2 u t H locs ht hvm w_1 hB hz1 hk1 hS => ?_)
  have hP := pu_keep hP hk1
  clear hk1 hz1 hvm hB hPc hDc hKc hFc ht
  subst w_1
  refine W.eq (g2 := F0 m 5 ls [.null]) rfl ?_
  refine lv_astoreN (lv' := [(4, .null), (0, .ref h0), (1, .int a1), (2, .int a2), (3, .int a3)]) hx hb dX10_aboard_5 hl (by decide) rfl (fun ls hl => ?_)
  refine lv_aloadN hx hb dX10_aboard_7 (lv_at hl 0 rfl) ?_
  refine lv_ifnonnullN hx hb dX10_aboard_9 ?_
  refine lv_aload_n hx hb dX10_aboard_12 rfl (lv_at hl 1 rfl) ?_
  refine lv_iconst (v := (-1)) hx hb dX10_aboard_13 (by decide) ?_
  have hPc := hP.sub (ws' := [(h0, .inr (10, oF q)), ((q 15), .inl ((cq 15), 7, .inl (fun _ => 0)))]) [0, 1] rfl
  have hDc := hD.sub (ws' := [(h0, .inr (10, oF q)), ((q 15), .inl ((cq 15), 7, .inl (fun _ => 0)))]) [0, 1] (by decide) rfl
  have hKc := hK.sub (tys' := [((cq 15), .int)]) [0] rfl
  have hFc := va_free (wc := [(h0, .inr (10, oF q)), ((q 15), .inl ((cq 15), 7, .inl (fun _ => 0)))]) hD hS hA [0, 1] rfl
  refine va_calli (va_runV (As := [.int (-1)]) (rest := []) ⟨hx, hb, hml, hown, hts⟩ (c_X10_refuse l dC dI H.size h0 q cq (-1) (by unfold vp_in; decide)) (cwV 1 hts gX10_aboard_X10_refuse rfl rfl rfl (by decide +kernel) ⟨(Nat.le_of_ble_eq_true rfl), (Nat.le_of_ble_eq_true rfl)⟩) (pr_V (r := (RX10, TX10, 16)) hPc hKc hDc 0 10 rfl rfl) rfl rfl hl.1 rfl (lv_room (Nat.le_of_ble_eq_true rfl)) dX10_aboard_14 ⟨(Nat.le_of_ble_eq_true rfl), (Nat.le_of_ble_eq_true rfl)⟩) hS (fun q _ h => hFc q h) hFc (fun r_4 u t H locs ht hvm w_3 hB hz1 hk1 hS => ?_)
  subst w_3
  exact W.iret (v := (-1)) hx hb hr (fun t ht hW => ⟨⟨(-1), (), rfl, rfl, trivial⟩, hS.F ht⟩) hS.2.2 dX10_aboard_17
set_option maxHeartbeats 4000000 in
set_option maxRecDepth 100000 in
theorem c_X10_group (l : Launch) (dC : Nat → ClassId) (dI : Nat → Nat → Nat) (sz : Nat) (h0 : Nat) (q : Nat → Nat) (cq : Nat → ClassId) (a1 : Int32) : Met l yX10_group wsX10_group ({ frames := 1, cells := 0, slots := 0, locals := 21 }) (va_Pc [.ref h0, .int a1] (pcW (dC, dI) [((cq 15), .int)] [(h0, .inr (10, oF q)), ((q 15), .inl ((cq 15), 7, .inl (fun _ => 0)))] sz)) (va_Qi (fun (r : Int32) (u : Unit) => r = (-1)) (fun _ _ => True) (va_A [(h0, .inr (10, oF q)), ((q 15), .inl ((cq 15), 7, .inl (fun _ => 0)))] sz)) 0 0 (va_A [(h0, .inr (10, oF q)), ((q 15), .inl ((cq 15), 7, .inl (fun _ => 0)))] sz) := by
  refine Met.ofW (cc := cX10_group) (maxL := 3) (ret := (some .int)) (by decide) rfl ?_
  intro p e s m args below meth c s₁ B hml hv
  obtain ⟨rfl, hsz, hP, hK, hD0⟩ := hv
  have hx := B.exec
  have hb := B.bytes
  have hr := B.returns
  have hts := atoms_spec (ws := wsX10_group) B.pre
  have hown : s.vm.findClass RX10 = some m.cls := findClass_of_methodNamed B.named
  have hlocks := B.notSynchronized
  subst hsz
  have hD := hD0.self (sz := s.heap.size)
  generalize hAe : va_A [(h0, .inr (10, oF q)), ((q 15), .inl ((cq 15), 7, .inl (fun _ => 0)))] s.heap.size = A at hD ⊢
  have hA : ∀ q : Nat, s.heap.size ≤ q → A q := fun q h => by rw [← hAe]; exact Or.inr h
  have hS : va_S A s.heap s.heap [] := va_S.rf
  have hP : va_P (dC, dI) vwCl [(h0, .inr (10, oF q)), ((q 15), .inl ((cq 15), 7, .inl (fun _ => 0)))] s.heap := hP
  have hl := lv_entry ([.ref h0, .int a1]) (n := 3) (Nat.le_of_ble_eq_true rfl)
  rw [lg_entry_eq]
  generalize (lg_sl ([.ref h0, .int a1]) ++ List.replicate (3 - (lg_sl ([.ref h0, .int a1])).length) Slot.unset).toArray = ls at hl ⊢
  have hl : lv_has ls 3 [(0, .ref h0), (1, .int a1)] := hl
  refine lv_aload_n hx hb dX10_group_0 rfl (lv_at hl 0 rfl) ?_
  refine lv_iload_n hx hb dX10_group_1 rfl (lv_at hl 1 rfl) ?_
  have hPc := hP.sub (ws' := [(h0, .inr (10, oF q))]) [0] rfl
  have hDc := hD.sub (ws' := [(h0, .inr (10, oF q))]) [0] (by decide) rfl
  have hKc := hK.sub (tys' := []) [] rfl
  have hFc : ∀ q, va_A [] s.heap.size q → A q := pu_free hS hA
  refine va_callq (va_runV (As := [.int a1]) (rest := []) ⟨hx, hb, hml, hown, hts⟩ (c_X10_manAt l dC dI s.heap.size h0 q cq a1) (cwV 1 hts gX10_group_X10_manAt rfl rfl rfl (by decide +kernel) ⟨(Nat.le_of_ble_eq_true rfl), (Nat.le_of_ble_eq_true rfl)⟩) (pr_V (r := (RX10, TX10, 16)) hPc hKc hDc 0 10 rfl rfl) rfl rfl hl.1 rfl (lv_room (Nat.le_of_ble_eq_true rfl)) dX10_group_2 ⟨(Nat.le_of_ble_eq_true rfl), (Nat.le_of_ble_eq_true rfl)⟩) hS (fun q _ h => hFc q h) hFc (fun r_2 u t H locs ht hvm w_1 hB hz1 hk1 hS => ?_)
  have hP := pu_keep hP hk1
  clear hk1 hz1 hvm hB hPc hDc hKc hFc ht
  subst w_1
  refine W.eq (g2 := F0 m 5 ls [.null]) rfl ?_
  refine lv_astore_nN (lv' := [(2, .null), (0, .ref h0), (1, .int a1)]) hx hb dX10_group_5 rfl hl (by decide) rfl (fun ls hl => ?_)
  refine lv_aload_nN hx hb dX10_group_6 rfl (lv_at hl 0 rfl) ?_
  refine lv_ifnonnullN hx hb dX10_group_7 ?_
  refine lv_aload_n hx hb dX10_group_10 rfl (lv_at hl 1 rfl) ?_
  refine lv_iconst (v := (-1)) hx hb dX10_group_11 (by decide) ?_
  have hPc := hP.sub (ws' := [(h0, .inr (10, oF q)), ((q 15), .inl ((cq 15), 7, .inl (fun _ => 0)))]) [0, 1] rfl
  have hDc := hD.sub (ws' := [(h0, .inr (10, oF q)), ((q 15), .inl ((cq 15), 7, .inl (fun _ => 0)))]) [0, 1] (by decide) rfl
  have hKc := hK.sub (tys' := [((cq 15), .int)]) [0] rfl
  have hFc := va_free (wc := [(h0, .inr (10, oF q)), ((q 15), .inl ((cq 15), 7, .inl (fun _ => 0)))]) hD hS hA [0, 1] rfl
  refine va_calli (va_runV (As := [.int (-1)]) (rest := []) ⟨hx, hb, hml, hown, hts⟩ (c_X10_refuse l dC dI H.size h0 q cq (-1) (by unfold vp_in; decide)) (cwV 1 hts gX10_group_X10_refuse rfl rfl rfl (by decide +kernel) ⟨(Nat.le_of_ble_eq_true rfl), (Nat.le_of_ble_eq_true rfl)⟩) (pr_V (r := (RX10, TX10, 16)) hPc hKc hDc 0 10 rfl rfl) rfl rfl hl.1 rfl (lv_room (Nat.le_of_ble_eq_true rfl)) dX10_group_12 ⟨(Nat.le_of_ble_eq_true rfl), (Nat.le_of_ble_eq_true rfl)⟩) hS (fun q _ h => hFc q h) hFc (fun r_4 u t H locs ht hvm w_3 hB hz1 hk1 hS => ?_)
  subst w_3
  refine lv_goto (tgt := 22) hx hb dX10_group_15 (by decide) ?_
  exact W.iret (v := (-1)) hx hb hr (fun t ht hW => ⟨⟨(-1), (), rfl, rfl, trivial⟩, hS.F ht⟩) hS.2.2 dX10_group_22
set_option maxHeartbeats 4000000 in
set_option maxRecDepth 100000 in
theorem c_X10_borrowed (l : Launch) (dC : Nat → ClassId) (dI : Nat → Nat → Nat) (sz : Nat) (h0 : Nat) (q : Nat → Nat) (cq : Nat → ClassId) (a1 : Int32) : Met l yX10_borrowed wsX10_borrowed ({ frames := 1, cells := 0, slots := 0, locals := 21 }) (va_Pc [.ref h0, .int a1] (pcW (dC, dI) [((cq 15), .int)] [(h0, .inr (10, oF q)), ((q 15), .inl ((cq 15), 7, .inl (fun _ => 0)))] sz)) (va_Qi (fun (r : Int32) (u : Unit) => r = (-1)) (fun _ _ => True) (va_A [(h0, .inr (10, oF q)), ((q 15), .inl ((cq 15), 7, .inl (fun _ => 0)))] sz)) 0 0 (va_A [(h0, .inr (10, oF q)), ((q 15), .inl ((cq 15), 7, .inl (fun _ => 0)))] sz) := by
  refine Met.ofW (cc := cX10_borrowed) (maxL := 3) (ret := (some .int)) (by decide) rfl ?_
  intro p e s m args below meth c s₁ B hml hv
  obtain ⟨rfl, hsz, hP, hK, hD0⟩ := hv
  have hx := B.exec
  have hb := B.bytes
  have hr := B.returns
  have hts := atoms_spec (ws := wsX10_borrowed) B.pre
  have hown : s.vm.findClass RX10 = some m.cls := findClass_of_methodNamed B.named
  have hlocks := B.notSynchronized
  subst hsz
  have hD := hD0.self (sz := s.heap.size)
  generalize hAe : va_A [(h0, .inr (10, oF q)), ((q 15), .inl ((cq 15), 7, .inl (fun _ => 0)))] s.heap.size = A at hD ⊢
  have hA : ∀ q : Nat, s.heap.size ≤ q → A q := fun q h => by rw [← hAe]; exact Or.inr h
  have hS : va_S A s.heap s.heap [] := va_S.rf
  have hP : va_P (dC, dI) vwCl [(h0, .inr (10, oF q)), ((q 15), .inl ((cq 15), 7, .inl (fun _ => 0)))] s.heap := hP
  have hl := lv_entry ([.ref h0, .int a1]) (n := 3) (Nat.le_of_ble_eq_true rfl)
  rw [lg_entry_eq]
  generalize (lg_sl ([.ref h0, .int a1]) ++ List.replicate (3 - (lg_sl ([.ref h0, .int a1])).length) Slot.unset).toArray = ls at hl ⊢
  have hl : lv_has ls 3 [(0, .ref h0), (1, .int a1)] := hl
  refine lv_aload_n hx hb dX10_borrowed_0 rfl (lv_at hl 0 rfl) ?_
  refine lv_iload_n hx hb dX10_borrowed_1 rfl (lv_at hl 1 rfl) ?_
  have hPc := hP.sub (ws' := [(h0, .inr (10, oF q))]) [0] rfl
  have hDc := hD.sub (ws' := [(h0, .inr (10, oF q))]) [0] (by decide) rfl
  have hKc := hK.sub (tys' := []) [] rfl
  have hFc : ∀ q, va_A [] s.heap.size q → A q := pu_free hS hA
  refine va_callq (va_runV (As := [.int a1]) (rest := []) ⟨hx, hb, hml, hown, hts⟩ (c_X10_agreementAt l dC dI s.heap.size h0 q cq a1) (cwV 1 hts gX10_borrowed_X10_agreementAt rfl rfl rfl (by decide +kernel) ⟨(Nat.le_of_ble_eq_true rfl), (Nat.le_of_ble_eq_true rfl)⟩) (pr_V (r := (RX10, TX10, 16)) hPc hKc hDc 0 10 rfl rfl) rfl rfl hl.1 rfl (lv_room (Nat.le_of_ble_eq_true rfl)) dX10_borrowed_2 ⟨(Nat.le_of_ble_eq_true rfl), (Nat.le_of_ble_eq_true rfl)⟩) hS (fun q _ h => hFc q h) hFc (fun r_2 u t H locs ht hvm w_1 hB hz1 hk1 hS => ?_)
  have hP := pu_keep hP hk1
  clear hk1 hz1 hvm hB hPc hDc hKc hFc ht
  subst w_1
  refine W.eq (g2 := F0 m 5 ls [.null]) rfl ?_
  refine lv_astore_nN (lv' := [(2, .null), (0, .ref h0), (1, .int a1)]) hx hb dX10_borrowed_5 rfl hl (by decide) rfl (fun ls hl => ?_)
  refine lv_aload_nN hx hb dX10_borrowed_6 rfl (lv_at hl 0 rfl) ?_
  refine lv_ifnonnullN hx hb dX10_borrowed_7 ?_
  refine lv_aload_n hx hb dX10_borrowed_10 rfl (lv_at hl 1 rfl) ?_
  refine lv_iconst (v := (-1)) hx hb dX10_borrowed_11 (by decide) ?_
  have hPc := hP.sub (ws' := [(h0, .inr (10, oF q)), ((q 15), .inl ((cq 15), 7, .inl (fun _ => 0)))]) [0, 1] rfl
  have hDc := hD.sub (ws' := [(h0, .inr (10, oF q)), ((q 15), .inl ((cq 15), 7, .inl (fun _ => 0)))]) [0, 1] (by decide) rfl
  have hKc := hK.sub (tys' := [((cq 15), .int)]) [0] rfl
  have hFc := va_free (wc := [(h0, .inr (10, oF q)), ((q 15), .inl ((cq 15), 7, .inl (fun _ => 0)))]) hD hS hA [0, 1] rfl
  refine va_calli (va_runV (As := [.int (-1)]) (rest := []) ⟨hx, hb, hml, hown, hts⟩ (c_X10_refuse l dC dI H.size h0 q cq (-1) (by unfold vp_in; decide)) (cwV 1 hts gX10_borrowed_X10_refuse rfl rfl rfl (by decide +kernel) ⟨(Nat.le_of_ble_eq_true rfl), (Nat.le_of_ble_eq_true rfl)⟩) (pr_V (r := (RX10, TX10, 16)) hPc hKc hDc 0 10 rfl rfl) rfl rfl hl.1 rfl (lv_room (Nat.le_of_ble_eq_true rfl)) dX10_borrowed_12 ⟨(Nat.le_of_ble_eq_true rfl), (Nat.le_of_ble_eq_true rfl)⟩) hS (fun q _ h => hFc q h) hFc (fun r_4 u t H locs ht hvm w_3 hB hz1 hk1 hS => ?_)
  subst w_3
  exact W.iret (v := (-1)) hx hb hr (fun t ht hW => ⟨⟨(-1), (), rfl, rfl, trivial⟩, hS.F ht⟩) hS.2.2 dX10_borrowed_15
set_option maxHeartbeats 4000000 in
set_option maxRecDepth 100000 in
theorem c_X10_home (l : Launch) (dC : Nat → ClassId) (dI : Nat → Nat → Nat) (sz : Nat) (h0 : Nat) (q : Nat → Nat) (cq : Nat → ClassId) (a1 : Int32) : Met l yX10_home wsX10_home ({ frames := 1, cells := 0, slots := 0, locals := 21 }) (va_Pc [.ref h0, .int a1] (pcW (dC, dI) [((cq 15), .int)] [(h0, .inr (10, oF q)), ((q 15), .inl ((cq 15), 7, .inl (fun _ => 0)))] sz)) (va_Qi (fun (r : Int32) (u : Unit) => r = (-1)) (fun _ _ => True) (va_A [(h0, .inr (10, oF q)), ((q 15), .inl ((cq 15), 7, .inl (fun _ => 0)))] sz)) 0 0 (va_A [(h0, .inr (10, oF q)), ((q 15), .inl ((cq 15), 7, .inl (fun _ => 0)))] sz) := by
  refine Met.ofW (cc := cX10_home) (maxL := 6) (ret := (some .int)) (by decide) rfl ?_
  intro p e s m args below meth c s₁ B hml hv
  obtain ⟨rfl, hsz, hP, hK, hD0⟩ := hv
  have hx := B.exec
  have hb := B.bytes
  have hr := B.returns
  have hts := atoms_spec (ws := wsX10_home) B.pre
  have hown : s.vm.findClass RX10 = some m.cls := findClass_of_methodNamed B.named
  have hlocks := B.notSynchronized
  subst hsz
  have hD := hD0.self (sz := s.heap.size)
  generalize hAe : va_A [(h0, .inr (10, oF q)), ((q 15), .inl ((cq 15), 7, .inl (fun _ => 0)))] s.heap.size = A at hD ⊢
  have hA : ∀ q : Nat, s.heap.size ≤ q → A q := fun q h => by rw [← hAe]; exact Or.inr h
  have hS : va_S A s.heap s.heap [] := va_S.rf
  have hP : va_P (dC, dI) vwCl [(h0, .inr (10, oF q)), ((q 15), .inl ((cq 15), 7, .inl (fun _ => 0)))] s.heap := hP
  have hl := lv_entry ([.ref h0, .int a1]) (n := 6) (Nat.le_of_ble_eq_true rfl)
  rw [lg_entry_eq]
  generalize (lg_sl ([.ref h0, .int a1]) ++ List.replicate (6 - (lg_sl ([.ref h0, .int a1])).length) Slot.unset).toArray = ls at hl ⊢
  have hl : lv_has ls 6 [(0, .ref h0), (1, .int a1)] := hl
  refine lv_aload_n hx hb dX10_home_0 rfl (lv_at hl 0 rfl) ?_
  refine lv_iload_n hx hb dX10_home_1 rfl (lv_at hl 1 rfl) ?_
  have hPc := hP.sub (ws' := [(h0, .inr (10, oF q))]) [0] rfl
  have hDc := hD.sub (ws' := [(h0, .inr (10, oF q))]) [0] (by decide) rfl
  have hKc := hK.sub (tys' := []) [] rfl
  have hFc : ∀ q, va_A [] s.heap.size q → A q := pu_free hS hA
  refine va_callq (va_runV (As := [.int a1]) (rest := []) ⟨hx, hb, hml, hown, hts⟩ (c_X10_manAt l dC dI s.heap.size h0 q cq a1) (cwV 1 hts gX10_home_X10_manAt rfl rfl rfl (by decide +kernel) ⟨(Nat.le_of_ble_eq_true rfl), (Nat.le_of_ble_eq_true rfl)⟩) (pr_V (r := (RX10, TX10, 16)) hPc hKc hDc 0 10 rfl rfl) rfl rfl hl.1 rfl (lv_room (Nat.le_of_ble_eq_true rfl)) dX10_home_2 ⟨(Nat.le_of_ble_eq_true rfl), (Nat.le_of_ble_eq_true rfl)⟩) hS (fun q _ h => hFc q h) hFc (fun r_2 u t H locs ht hvm w_1 hB hz1 hk1 hS => ?_)
  have hP := pu_keep hP hk1
  clear hk1 hz1 hvm hB hPc hDc hKc hFc ht
  subst w_1
  refine W.eq (g2 := F0 m 5 ls [.null]) rfl ?_
  refine lv_astore_nN (lv' := [(2, .null), (0, .ref h0), (1, .int a1)]) hx hb dX10_home_5 rfl hl (by decide) rfl (fun ls hl => ?_)
  refine lv_aload_nN hx hb dX10_home_6 rfl (lv_at hl 0 rfl) ?_
  refine lv_ifnonnullN hx hb dX10_home_7 ?_
  refine lv_aload_n hx hb dX10_home_10 rfl (lv_at hl 1 rfl) ?_
  refine lv_iconst (v := (-1)) hx hb dX10_home_11 (by decide) ?_
  have hPc := hP.sub (ws' := [(h0, .inr (10, oF q)), ((q 15), .inl ((cq 15), 7, .inl (fun _ => 0)))]) [0, 1] rfl
  have hDc := hD.sub (ws' := [(h0, .inr (10, oF q)), ((q 15), .inl ((cq 15), 7, .inl (fun _ => 0)))]) [0, 1] (by decide) rfl
  have hKc := hK.sub (tys' := [((cq 15), .int)]) [0] rfl
  have hFc := va_free (wc := [(h0, .inr (10, oF q)), ((q 15), .inl ((cq 15), 7, .inl (fun _ => 0)))]) hD hS hA [0, 1] rfl
  refine va_calli (va_runV (As := [.int (-1)]) (rest := []) ⟨hx, hb, hml, hown, hts⟩ (c_X10_refuse l dC dI H.size h0 q cq (-1) (by unfold vp_in; decide)) (cwV 1 hts gX10_home_X10_refuse rfl rfl rfl (by decide +kernel) ⟨(Nat.le_of_ble_eq_true rfl), (Nat.le_of_ble_eq_true rfl)⟩) (pr_V (r := (RX10, TX10, 16)) hPc hKc hDc 0 10 rfl rfl) rfl rfl hl.1 rfl (lv_room (Nat.le_of_ble_eq_true rfl)) dX10_home_12 ⟨(Nat.le_of_ble_eq_true rfl), (Nat.le_of_ble_eq_true rfl)⟩) hS (fun q _ h => hFc q h) hFc (fun r_4 u t H locs ht hvm w_3 hB hz1 hk1 hS => ?_)
  subst w_3
  exact W.iret (v := (-1)) hx hb hr (fun t ht hW => ⟨⟨(-1), (), rfl, rfl, trivial⟩, hS.F ht⟩) hS.2.2 dX10_home_15
set_option maxHeartbeats 4000000 in
set_option maxRecDepth 100000 in
theorem c_X10_ask (l : Launch) (dC : Nat → ClassId) (dI : Nat → Nat → Nat) (sz : Nat) (h0 : Nat) (q : Nat → Nat) (cq : Nat → ClassId) (a1 : Int32) (a2 : Int32) (a3 : Int32) : Met l yX10_ask wsX10_ask ({ frames := 1, cells := 0, slots := 0, locals := 21 }) (va_Pc [.ref h0, .int a1, .int a2, .int a3] (pcW (dC, dI) [((cq 15), .int)] [(h0, .inr (10, oF q)), ((q 15), .inl ((cq 15), 7, .inl (fun _ => 0)))] sz)) (va_Qi (fun (r : Int32) (u : Unit) => r = (-1)) (fun _ _ => True) (va_A [(h0, .inr (10, oF q)), ((q 15), .inl ((cq 15), 7, .inl (fun _ => 0)))] sz)) 0 0 (va_A [(h0, .inr (10, oF q)), ((q 15), .inl ((cq 15), 7, .inl (fun _ => 0)))] sz) := by
  refine Met.ofW (cc := cX10_ask) (maxL := 6) (ret := (some .int)) (by decide) rfl ?_
  intro p e s m args below meth c s₁ B hml hv
  obtain ⟨rfl, hsz, hP, hK, hD0⟩ := hv
  have hx := B.exec
  have hb := B.bytes
  have hr := B.returns
  have hts := atoms_spec (ws := wsX10_ask) B.pre
  have hown : s.vm.findClass RX10 = some m.cls := findClass_of_methodNamed B.named
  have hlocks := B.notSynchronized
  subst hsz
  have hD := hD0.self (sz := s.heap.size)
  generalize hAe : va_A [(h0, .inr (10, oF q)), ((q 15), .inl ((cq 15), 7, .inl (fun _ => 0)))] s.heap.size = A at hD ⊢
  have hA : ∀ q : Nat, s.heap.size ≤ q → A q := fun q h => by rw [← hAe]; exact Or.inr h
  have hS : va_S A s.heap s.heap [] := va_S.rf
  have hP : va_P (dC, dI) vwCl [(h0, .inr (10, oF q)), ((q 15), .inl ((cq 15), 7, .inl (fun _ => 0)))] s.heap := hP
  have hl := lv_entry ([.ref h0, .int a1, .int a2, .int a3]) (n := 6) (Nat.le_of_ble_eq_true rfl)
  rw [lg_entry_eq]
  generalize (lg_sl ([.ref h0, .int a1, .int a2, .int a3]) ++ List.replicate (6 - (lg_sl ([.ref h0, .int a1, .int a2, .int a3])).length) Slot.unset).toArray = ls at hl ⊢
  have hl : lv_has ls 6 [(0, .ref h0), (1, .int a1), (2, .int a2), (3, .int a3)] := hl
  refine lv_aload_n hx hb dX10_ask_0 rfl (lv_at hl 0 rfl) ?_
  refine lv_iload_n hx hb dX10_ask_1 rfl (lv_at hl 1 rfl) ?_
  have hPc := hP.sub (ws' := [(h0, .inr (10, oF q))]) [0] rfl
  have hDc := hD.sub (ws' := [(h0, .inr (10, oF q))]) [0] (by decide) rfl
  have hKc := hK.sub (tys' := []) [] rfl
  have hFc : ∀ q, va_A [] s.heap.size q → A q := pu_free hS hA
  refine va_callq (va_runV (As := [.int a1]) (rest := []) ⟨hx, hb, hml, hown, hts⟩ (c_X10_manAt l dC dI s.heap.size h0 q cq a1) (cwV 1 hts gX10_ask_X10_manAt rfl rfl rfl (by decide +kernel) ⟨(Nat.le_of_ble_eq_true rfl), (Nat.le_of_ble_eq_true rfl)⟩) (pr_V (r := (RX10, TX10, 16)) hPc hKc hDc 0 10 rfl rfl) rfl rfl hl.1 rfl (lv_room (Nat.le_of_ble_eq_true rfl)) dX10_ask_2 ⟨(Nat.le_of_ble_eq_true rfl), (Nat.le_of_ble_eq_true rfl)⟩) hS (fun q _ h => hFc q h) hFc (fun r_2 u t H locs ht hvm w_1 hB hz1 hk1 hS => ?_)
  have hP := pu_keep hP hk1
  clear hk1 hz1 hvm hB hPc hDc hKc hFc ht
  subst w_1
  refine W.eq (g2 := F0 m 5 ls [.null]) rfl ?_
  refine lv_astoreN (lv' := [(4, .null), (0, .ref h0), (1, .int a1), (2, .int a2), (3, .int a3)]) hx hb dX10_ask_5 hl (by decide) rfl (fun ls hl => ?_)
  refine lv_aloadN hx hb dX10_ask_7 (lv_at hl 0 rfl) ?_
  refine lv_ifnonnullN hx hb dX10_ask_9 ?_
  refine lv_aload_n hx hb dX10_ask_12 rfl (lv_at hl 1 rfl) ?_
  refine lv_iconst (v := (-1)) hx hb dX10_ask_13 (by decide) ?_
  have hPc := hP.sub (ws' := [(h0, .inr (10, oF q)), ((q 15), .inl ((cq 15), 7, .inl (fun _ => 0)))]) [0, 1] rfl
  have hDc := hD.sub (ws' := [(h0, .inr (10, oF q)), ((q 15), .inl ((cq 15), 7, .inl (fun _ => 0)))]) [0, 1] (by decide) rfl
  have hKc := hK.sub (tys' := [((cq 15), .int)]) [0] rfl
  have hFc := va_free (wc := [(h0, .inr (10, oF q)), ((q 15), .inl ((cq 15), 7, .inl (fun _ => 0)))]) hD hS hA [0, 1] rfl
  refine va_calli (va_runV (As := [.int (-1)]) (rest := []) ⟨hx, hb, hml, hown, hts⟩ (c_X10_refuse l dC dI H.size h0 q cq (-1) (by unfold vp_in; decide)) (cwV 1 hts gX10_ask_X10_refuse rfl rfl rfl (by decide +kernel) ⟨(Nat.le_of_ble_eq_true rfl), (Nat.le_of_ble_eq_true rfl)⟩) (pr_V (r := (RX10, TX10, 16)) hPc hKc hDc 0 10 rfl rfl) rfl rfl hl.1 rfl (lv_room (Nat.le_of_ble_eq_true rfl)) dX10_ask_14 ⟨(Nat.le_of_ble_eq_true rfl), (Nat.le_of_ble_eq_true rfl)⟩) hS (fun q _ h => hFc q h) hFc (fun r_4 u t H locs ht hvm w_3 hB hz1 hk1 hS => ?_)
  subst w_3
  exact W.iret (v := (-1)) hx hb hr (fun t ht hW => ⟨⟨(-1), (), rfl, rfl, trivial⟩, hS.F ht⟩) hS.2.2 dX10_ask_17
set_option maxHeartbeats 4000000 in
set_option maxRecDepth 100000 in
theorem c_X10_check (l : Launch) (dC : Nat → ClassId) (dI : Nat → Nat → Nat) (sz : Nat) (h0 : Nat) (q : Nat → Nat) (cq : Nat → ClassId) (a1 : Int32) (a2 : Int32) (a3 : Int32) : Met l yX10_check wsX10_check ({ frames := 1, cells := 0, slots := 0, locals := 21 }) (va_Pc [.ref h0, .int a1, .int a2, .int a3] (pcW (dC, dI) [((cq 15), .int)] [(h0, .inr (10, oF q)), ((q 15), .inl ((cq 15), 7, .inl (fun _ => 0)))] sz)) (va_Qi (fun (r : Int32) (u : Unit) => r = (-1)) (fun _ _ => True) (va_A [(h0, .inr (10, oF q)), ((q 15), .inl ((cq 15), 7, .inl (fun _ => 0)))] sz)) 0 0 (va_A [(h0, .inr (10, oF q)), ((q 15), .inl ((cq 15), 7, .inl (fun _ => 0)))] sz) := by
  refine Met.ofW (cc := cX10_check) (maxL := 9) (ret := (some .int)) (by decide) rfl ?_
  intro p e s m args below meth c s₁ B hml hv
  obtain ⟨rfl, hsz, hP, hK, hD0⟩ := hv
  have hx := B.exec
  have hb := B.bytes
  have hr := B.returns
  have hts := atoms_spec (ws := wsX10_check) B.pre
  have hown : s.vm.findClass RX10 = some m.cls := findClass_of_methodNamed B.named
  have hlocks := B.notSynchronized
  subst hsz
  have hD := hD0.self (sz := s.heap.size)
  generalize hAe : va_A [(h0, .inr (10, oF q)), ((q 15), .inl ((cq 15), 7, .inl (fun _ => 0)))] s.heap.size = A at hD ⊢
  have hA : ∀ q : Nat, s.heap.size ≤ q → A q := fun q h => by rw [← hAe]; exact Or.inr h
  have hS : va_S A s.heap s.heap [] := va_S.rf
  have hP : va_P (dC, dI) vwCl [(h0, .inr (10, oF q)), ((q 15), .inl ((cq 15), 7, .inl (fun _ => 0)))] s.heap := hP
  have hl := lv_entry ([.ref h0, .int a1, .int a2, .int a3]) (n := 9) (Nat.le_of_ble_eq_true rfl)
  rw [lg_entry_eq]
  generalize (lg_sl ([.ref h0, .int a1, .int a2, .int a3]) ++ List.replicate (9 - (lg_sl ([.ref h0, .int a1, .int a2, .int a3])).length) Slot.unset).toArray = ls at hl ⊢
  have hl : lv_has ls 9 [(0, .ref h0), (1, .int a1), (2, .int a2), (3, .int a3)] := hl
  refine lv_aload_n hx hb dX10_check_0 rfl (lv_at hl 0 rfl) ?_
  refine lv_iload_n hx hb dX10_check_1 rfl (lv_at hl 1 rfl) ?_
  have hPc := hP.sub (ws' := [(h0, .inr (10, oF q))]) [0] rfl
  have hDc := hD.sub (ws' := [(h0, .inr (10, oF q))]) [0] (by decide) rfl
  have hKc := hK.sub (tys' := []) [] rfl
  have hFc : ∀ q, va_A [] s.heap.size q → A q := pu_free hS hA
  refine va_callq (va_runV (As := [.int a1]) (rest := []) ⟨hx, hb, hml, hown, hts⟩ (c_X10_voyageAt l dC dI s.heap.size h0 q cq a1) (cwV 1 hts gX10_check_X10_voyageAt rfl rfl rfl (by decide +kernel) ⟨(Nat.le_of_ble_eq_true rfl), (Nat.le_of_ble_eq_true rfl)⟩) (pr_V (r := (RX10, TX10, 16)) hPc hKc hDc 0 10 rfl rfl) rfl rfl hl.1 rfl (lv_room (Nat.le_of_ble_eq_true rfl)) dX10_check_2 ⟨(Nat.le_of_ble_eq_true rfl), (Nat.le_of_ble_eq_true rfl)⟩) hS (fun q _ h => hFc q h) hFc (fun r_2 u t H locs ht hvm w_1 hB hz1 hk1 hS => ?_)
  have hP := pu_keep hP hk1
  clear hk1 hz1 hvm hB hPc hDc hKc hFc ht
  subst w_1
  refine W.eq (g2 := F0 m 5 ls [.null]) rfl ?_
  refine lv_astoreN (lv' := [(4, .null), (0, .ref h0), (1, .int a1), (2, .int a2), (3, .int a3)]) hx hb dX10_check_5 hl (by decide) rfl (fun ls hl => ?_)
  refine lv_aloadN hx hb dX10_check_7 (lv_at hl 0 rfl) ?_
  refine lv_ifnonnullN hx hb dX10_check_9 ?_
  refine lv_aload_n hx hb dX10_check_12 rfl (lv_at hl 1 rfl) ?_
  refine lv_iconst (v := (-1)) hx hb dX10_check_13 (by decide) ?_
  have hPc := hP.sub (ws' := [(h0, .inr (10, oF q)), ((q 15), .inl ((cq 15), 7, .inl (fun _ => 0)))]) [0, 1] rfl
  have hDc := hD.sub (ws' := [(h0, .inr (10, oF q)), ((q 15), .inl ((cq 15), 7, .inl (fun _ => 0)))]) [0, 1] (by decide) rfl
  have hKc := hK.sub (tys' := [((cq 15), .int)]) [0] rfl
  have hFc := va_free (wc := [(h0, .inr (10, oF q)), ((q 15), .inl ((cq 15), 7, .inl (fun _ => 0)))]) hD hS hA [0, 1] rfl
  refine va_calli (va_runV (As := [.int (-1)]) (rest := []) ⟨hx, hb, hml, hown, hts⟩ (c_X10_refuse l dC dI H.size h0 q cq (-1) (by unfold vp_in; decide)) (cwV 1 hts gX10_check_X10_refuse rfl rfl rfl (by decide +kernel) ⟨(Nat.le_of_ble_eq_true rfl), (Nat.le_of_ble_eq_true rfl)⟩) (pr_V (r := (RX10, TX10, 16)) hPc hKc hDc 0 10 rfl rfl) rfl rfl hl.1 rfl (lv_room (Nat.le_of_ble_eq_true rfl)) dX10_check_14 ⟨(Nat.le_of_ble_eq_true rfl), (Nat.le_of_ble_eq_true rfl)⟩) hS (fun q _ h => hFc q h) hFc (fun r_4 u t H locs ht hvm w_3 hB hz1 hk1 hS => ?_)
  subst w_3
  exact W.iret (v := (-1)) hx hb hr (fun t ht hW => ⟨⟨(-1), (), rfl, rfl, trivial⟩, hS.F ht⟩) hS.2.2 dX10_check_17
set_option maxHeartbeats 4000000 in
set_option maxRecDepth 100000 in
theorem c_X10_owed (l : Launch) (dC : Nat → ClassId) (dI : Nat → Nat → Nat) (sz : Nat) (h0 : Nat) (q : Nat → Nat) (cq : Nat → ClassId) (a1 : Int32) (a2 : Int32) (a3 : Int32) : Met l yX10_owed wsX10_owed ({ frames := 1, cells := 0, slots := 0, locals := 21 }) (va_Pc [.ref h0, .int a1, .int a2, .int a3] (pcW (dC, dI) [((cq 15), .int)] [(h0, .inr (10, oF q)), ((q 15), .inl ((cq 15), 7, .inl (fun _ => 0)))] sz)) (va_Qi (fun (r : Int32) (u : Unit) => r = 1000000001) (fun _ _ => True) (va_A [(h0, .inr (10, oF q)), ((q 15), .inl ((cq 15), 7, .inl (fun _ => 0)))] sz)) 0 0 (va_A [(h0, .inr (10, oF q)), ((q 15), .inl ((cq 15), 7, .inl (fun _ => 0)))] sz) := by
  refine Met.ofW (cc := cX10_owed) (maxL := 6) (ret := (some .int)) (by decide) rfl ?_
  intro p e s m args below meth c s₁ B hml hv
  obtain ⟨rfl, hsz, hP, hK, hD0⟩ := hv
  have hx := B.exec
  have hb := B.bytes
  have hr := B.returns
  have hts := atoms_spec (ws := wsX10_owed) B.pre
  have hown : s.vm.findClass RX10 = some m.cls := findClass_of_methodNamed B.named
  have hlocks := B.notSynchronized
  subst hsz
  have hD := hD0.self (sz := s.heap.size)
  generalize hAe : va_A [(h0, .inr (10, oF q)), ((q 15), .inl ((cq 15), 7, .inl (fun _ => 0)))] s.heap.size = A at hD ⊢
  have hA : ∀ q : Nat, s.heap.size ≤ q → A q := fun q h => by rw [← hAe]; exact Or.inr h
  have hS : va_S A s.heap s.heap [] := va_S.rf
  have hP : va_P (dC, dI) vwCl [(h0, .inr (10, oF q)), ((q 15), .inl ((cq 15), 7, .inl (fun _ => 0)))] s.heap := hP
  have hl := lv_entry ([.ref h0, .int a1, .int a2, .int a3]) (n := 6) (Nat.le_of_ble_eq_true rfl)
  rw [lg_entry_eq]
  generalize (lg_sl ([.ref h0, .int a1, .int a2, .int a3]) ++ List.replicate (6 - (lg_sl ([.ref h0, .int a1, .int a2, .int a3])).length) Slot.unset).toArray = ls at hl ⊢
  have hl : lv_has ls 6 [(0, .ref h0), (1, .int a1), (2, .int a2), (3, .int a3)] := hl
  refine lv_aload_n hx hb dX10_owed_0 rfl (lv_at hl 0 rfl) ?_
  refine lv_iload_n hx hb dX10_owed_1 rfl (lv_at hl 1 rfl) ?_
  have hPc := hP.sub (ws' := [(h0, .inr (10, oF q))]) [0] rfl
  have hDc := hD.sub (ws' := [(h0, .inr (10, oF q))]) [0] (by decide) rfl
  have hKc := hK.sub (tys' := []) [] rfl
  have hFc : ∀ q, va_A [] s.heap.size q → A q := pu_free hS hA
  refine va_callq (va_runV (As := [.int a1]) (rest := []) ⟨hx, hb, hml, hown, hts⟩ (c_X10_agreementAt l dC dI s.heap.size h0 q cq a1) (cwV 1 hts gX10_owed_X10_agreementAt rfl rfl rfl (by decide +kernel) ⟨(Nat.le_of_ble_eq_true rfl), (Nat.le_of_ble_eq_true rfl)⟩) (pr_V (r := (RX10, TX10, 16)) hPc hKc hDc 0 10 rfl rfl) rfl rfl hl.1 rfl (lv_room (Nat.le_of_ble_eq_true rfl)) dX10_owed_2 ⟨(Nat.le_of_ble_eq_true rfl), (Nat.le_of_ble_eq_true rfl)⟩) hS (fun q _ h => hFc q h) hFc (fun r_2 u t H locs ht hvm w_1 hB hz1 hk1 hS => ?_)
  have hP := pu_keep hP hk1
  clear hk1 hz1 hvm hB hPc hDc hKc hFc ht
  subst w_1
  refine W.eq (g2 := F0 m 5 ls [.null]) rfl ?_
  refine lv_astoreN (lv' := [(4, .null), (0, .ref h0), (1, .int a1), (2, .int a2), (3, .int a3)]) hx hb dX10_owed_5 hl (by decide) rfl (fun ls hl => ?_)
  refine lv_aloadN hx hb dX10_owed_7 (lv_at hl 0 rfl) ?_
  refine lv_ifnonnullN hx hb dX10_owed_9 ?_
  refine lv_ldcw (v := 1000000000) hx hb hown (hts (.constant RX10 294 (1000000000)) (by decide +kernel)) dX10_owed_12 ?_
  refine lv_aload_n hx hb dX10_owed_15 rfl (lv_at hl 1 rfl) ?_
  refine lv_iconst (v := (-1)) hx hb dX10_owed_16 (by decide) ?_
  have hPc := hP.sub (ws' := [(h0, .inr (10, oF q)), ((q 15), .inl ((cq 15), 7, .inl (fun _ => 0)))]) [0, 1] rfl
  have hDc := hD.sub (ws' := [(h0, .inr (10, oF q)), ((q 15), .inl ((cq 15), 7, .inl (fun _ => 0)))]) [0, 1] (by decide) rfl
  have hKc := hK.sub (tys' := [((cq 15), .int)]) [0] rfl
  have hFc := va_free (wc := [(h0, .inr (10, oF q)), ((q 15), .inl ((cq 15), 7, .inl (fun _ => 0)))]) hD hS hA [0, 1] rfl
  refine va_calli (va_runV (As := [.int (-1)]) (rest := [.int 1000000000]) ⟨hx, hb, hml, hown, hts⟩ (c_X10_refuse l dC dI H.size h0 q cq (-1) (by unfold vp_in; decide)) (cwV 1 hts gX10_owed_X10_refuse rfl rfl rfl (by decide +kernel) ⟨(Nat.le_of_ble_eq_true rfl), (Nat.le_of_ble_eq_true rfl)⟩) (pr_V (r := (RX10, TX10, 16)) hPc hKc hDc 0 10 rfl rfl) rfl rfl hl.1 rfl (lv_room (Nat.le_of_ble_eq_true rfl)) dX10_owed_17 ⟨(Nat.le_of_ble_eq_true rfl), (Nat.le_of_ble_eq_true rfl)⟩) hS (fun q _ h => hFc q h) hFc (fun r_4 u t H locs ht hvm w_3 hB hz1 hk1 hS => ?_)
  subst w_3
  refine lv_isub hx hb dX10_owed_20 ?_
  refine lv_topi (fun y ey => ?_)
  obtain rfl : y = 1000000001 := ey.trans (by decide)
  exact W.iret (v := 1000000001) hx hb hr (fun t ht hW => ⟨⟨1000000001, (), rfl, rfl, trivial⟩, hS.F ht⟩) hS.2.2 dX10_owed_21
end
section
abbrev wsX110 : List Cond := u_ws RX11 TX11 63
abbrev cX11_refuse : ByteArray := prog_13_method_2_code
def yX11_refuse : MethodName := ⟨RX11, "refuse", "(I)I"⟩
abbrev cX11_refuseFar : ByteArray := prog_13_method_3_code
def yX11_refuseFar : MethodName := ⟨RX11, "refuseFar", "(I)I"⟩
abbrev cX11_isIn : ByteArray := prog_13_method_4_code
def yX11_isIn : MethodName := ⟨RX11, "isIn", "(II)Z"⟩
abbrev cX11_isMan : ByteArray := prog_13_method_5_code
def yX11_isMan : MethodName := ⟨RX11, "isMan", "(I)Z"⟩
abbrev cX11_isVoyage : ByteArray := prog_13_method_6_code
def yX11_isVoyage : MethodName := ⟨RX11, "isVoyage", "(I)Z"⟩
abbrev cX11_isAgreement : ByteArray := prog_13_method_7_code
def yX11_isAgreement : MethodName := ⟨RX11, "isAgreement", "(I)Z"⟩
abbrev cX11_isPort : ByteArray := prog_13_method_8_code
def yX11_isPort : MethodName := ⟨RX11, "isPort", "(I)Z"⟩
abbrev cX11_wasTold : ByteArray := prog_13_method_13_code
def yX11_wasTold : MethodName := ⟨RX11, "wasTold", "(II)Z"⟩
abbrev cX11_goesOn : ByteArray := prog_13_method_14_code
def yX11_goesOn : MethodName := ⟨RX11, "goesOn", "(I)Z"⟩
abbrev cX11_ended : ByteArray := prog_13_method_15_code
def yX11_ended : MethodName := ⟨RX11, "ended", "(II)I"⟩
abbrev cX11_happens : ByteArray := prog_13_method_16_code
def yX11_happens : MethodName := ⟨RX11, "happens", "(IIIIII)I"⟩
abbrev cX11_happensTo : ByteArray := prog_13_method_17_code
def yX11_happensTo : MethodName := ⟨RX11, "happensTo", "(III)I"⟩
abbrev cX11_sailed : ByteArray := prog_13_method_18_code
def yX11_sailed : MethodName := ⟨RX11, "sailed", "(II)I"⟩
abbrev cX11_heard : ByteArray := prog_13_method_19_code
def yX11_heard : MethodName := ⟨RX11, "heard", "(II)I"⟩
abbrev cX11_lost : ByteArray := prog_13_method_20_code
def yX11_lost : MethodName := ⟨RX11, "lost", "(II)I"⟩
abbrev cX11_left : ByteArray := prog_13_method_21_code
def yX11_left : MethodName := ⟨RX11, "left", "(IIII)I"⟩
abbrev cX11_happensOf : ByteArray := prog_13_method_22_code
def yX11_happensOf : MethodName := ⟨RX11, "happensOf", "(III)I"⟩
abbrev cX11_died : ByteArray := prog_13_method_23_code
def yX11_died : MethodName := ⟨RX11, "died", "(II)I"⟩
abbrev cX11_back : ByteArray := prog_13_method_24_code
def yX11_back : MethodName := ⟨RX11, "back", "(II)I"⟩
abbrev cX11_sign : ByteArray := prog_13_method_26_code
def yX11_sign : MethodName := ⟨RX11, "sign", "()I"⟩
abbrev cX11_held : ByteArray := prog_13_method_27_code
def yX11_held : MethodName := ⟨RX11, "held", "(J)I"⟩
abbrev cX11_takes : ByteArray := prog_13_method_28_code
def yX11_takes : MethodName := ⟨RX11, "takes", "(I)Z"⟩
abbrev cX11_isLetter : ByteArray := prog_13_method_29_code
def yX11_isLetter : MethodName := ⟨RX11, "isLetter", "(I)Z"⟩
abbrev cX11_sum : ByteArray := prog_13_method_30_code
def yX11_sum : MethodName := ⟨RX11, "sum", "()I"⟩
abbrev cX11_term : ByteArray := prog_13_method_31_code
def yX11_term : MethodName := ⟨RX11, "term", "()I"⟩
abbrev cX11_breaks : ByteArray := prog_13_method_32_code
def yX11_breaks : MethodName := ⟨RX11, "breaks", "()I"⟩
abbrev cX11_unit : ByteArray := prog_13_method_33_code
def yX11_unit : MethodName := ⟨RX11, "unit", "()I"⟩
abbrev cX11_goesThrough : ByteArray := prog_13_method_34_code
def yX11_goesThrough : MethodName := ⟨RX11, "goesThrough", "(II)I"⟩
abbrev cX11_actOn : ByteArray := prog_13_method_36_code
def yX11_actOn : MethodName := ⟨RX11, "actOn", "(II)I"⟩
abbrev cX11_worth : ByteArray := prog_13_method_37_code
def yX11_worth : MethodName := ⟨RX11, "worth", "(II)I"⟩
abbrev cX11_bare : ByteArray := prog_13_method_38_code
def yX11_bare : MethodName := ⟨RX11, "bare", "()V"⟩
abbrev cX11_puts : ByteArray := prog_13_method_39_code
def yX11_puts : MethodName := ⟨RX11, "puts", "(IIIIZ)V"⟩
abbrev cX11_sailedOn : ByteArray := prog_13_method_40_code
def yX11_sailedOn : MethodName := ⟨RX11, "sailedOn", "(II)I"⟩
abbrev cX11_lastHeard : ByteArray := prog_13_method_41_code
def yX11_lastHeard : MethodName := ⟨RX11, "lastHeard", "(III)I"⟩
abbrev cX11_whereOf : ByteArray := prog_13_method_42_code
def yX11_whereOf : MethodName := ⟨RX11, "whereOf", "(III)I"⟩
abbrev cX11_isDead : ByteArray := prog_13_method_43_code
def yX11_isDead : MethodName := ⟨RX11, "isDead", "(III)Z"⟩
abbrev cX11_hasSailed : ByteArray := prog_13_method_44_code
def yX11_hasSailed : MethodName := ⟨RX11, "hasSailed", "(III)Z"⟩
abbrev cX11_isUnknown : ByteArray := prog_13_method_45_code
def yX11_isUnknown : MethodName := ⟨RX11, "isUnknown", "(III)Z"⟩
abbrev cX11_stateOf : ByteArray := prog_13_method_46_code
def yX11_stateOf : MethodName := ⟨RX11, "stateOf", "(III)I"⟩
abbrev cX11_aboardOf : ByteArray := prog_13_method_47_code
def yX11_aboardOf : MethodName := ⟨RX11, "aboardOf", "(III)I"⟩
abbrev cX11_earnsOf : ByteArray := prog_13_method_48_code
def yX11_earnsOf : MethodName := ⟨RX11, "earnsOf", "(III)I"⟩
abbrev cX11_sign_ : ByteArray := prog_13_method_49_code
def yX11_sign_ : MethodName := ⟨RX11, "sign", "(IIIII)I"⟩
abbrev cX11_off : ByteArray := prog_13_method_50_code
def yX11_off : MethodName := ⟨RX11, "off", "(II)I"⟩
abbrev cX11_wrongTimes : ByteArray := prog_13_method_51_code
def yX11_wrongTimes : MethodName := ⟨RX11, "wrongTimes", "(II)I"⟩
abbrev cX11_state : ByteArray := prog_13_method_52_code
def yX11_state : MethodName := ⟨RX11, "state", "(III)I"⟩
abbrev cX11_earns : ByteArray := prog_13_method_53_code
def yX11_earns : MethodName := ⟨RX11, "earns", "(III)I"⟩
abbrev cX11_advance : ByteArray := prog_13_method_54_code
def yX11_advance : MethodName := ⟨RX11, "advance", "(II)I"⟩
abbrev cX11_sold : ByteArray := prog_13_method_55_code
def yX11_sold : MethodName := ⟨RX11, "sold", "(II)I"⟩
abbrev cX11_allot : ByteArray := prog_13_method_56_code
def yX11_allot : MethodName := ⟨RX11, "allot", "(II)I"⟩
abbrev cX11_fine : ByteArray := prog_13_method_57_code
def yX11_fine : MethodName := ⟨RX11, "fine", "(IIIZ)I"⟩
abbrev cX11_isFine : ByteArray := prog_13_method_58_code
def yX11_isFine : MethodName := ⟨RX11, "isFine", "(II)Z"⟩
abbrev cX11_read : ByteArray := prog_13_method_59_code
def yX11_read : MethodName := ⟨RX11, "read", "(II)I"⟩
abbrev cX11_standsOf : ByteArray := prog_13_method_60_code
def yX11_standsOf : MethodName := ⟨RX11, "standsOf", "(III)I"⟩
abbrev cX11_stands : ByteArray := prog_13_method_61_code
def yX11_stands : MethodName := ⟨RX11, "stands", "(III)I"⟩
abbrev cX11_rations : ByteArray := prog_13_method_62_code
def yX11_rations : MethodName := ⟨RX11, "rations", "(III)I"⟩
abbrev cX11_owedOf : ByteArray := prog_13_method_63_code
def yX11_owedOf : MethodName := ⟨RX11, "owedOf", "(III)I"⟩
abbrev cX11_owed : ByteArray := prog_13_method_64_code
def yX11_owed : MethodName := ⟨RX11, "owed", "(III)I"⟩
abbrev cX11_agreementOf : ByteArray := prog_13_method_65_code
def yX11_agreementOf : MethodName := ⟨RX11, "agreementOf", "(II)I"⟩
abbrev cX11_aboard : ByteArray := prog_13_method_66_code
def yX11_aboard : MethodName := ⟨RX11, "aboard", "(III)I"⟩
abbrev cX11_isAlike : ByteArray := prog_13_method_67_code
def yX11_isAlike : MethodName := ⟨RX11, "isAlike", "(II)Z"⟩
abbrev cX11_findGroups : ByteArray := prog_13_method_68_code
def yX11_findGroups : MethodName := ⟨RX11, "findGroups", "()V"⟩
abbrev cX11_group : ByteArray := prog_13_method_69_code
def yX11_group : MethodName := ⟨RX11, "group", "(I)I"⟩
abbrev cX11_endOf : ByteArray := prog_13_method_70_code
def yX11_endOf : MethodName := ⟨RX11, "endOf", "(I)I"⟩
abbrev cX11_borrowed : ByteArray := prog_13_method_71_code
def yX11_borrowed : MethodName := ⟨RX11, "borrowed", "(I)I"⟩
abbrev cX11_wayTo : ByteArray := prog_13_method_72_code
def yX11_wayTo : MethodName := ⟨RX11, "wayTo", "(II)I"⟩
abbrev cX11_home : ByteArray := prog_13_method_73_code
def yX11_home : MethodName := ⟨RX11, "home", "(I)I"⟩
abbrev cX11_ask : ByteArray := prog_13_method_74_code
def yX11_ask : MethodName := ⟨RX11, "ask", "(III)I"⟩
abbrev cX11_check : ByteArray := prog_13_method_80_code
def yX11_check : MethodName := ⟨RX11, "check", "(III)I"⟩
def wsX11_refuse : List Cond := .code yX11_refuse cX11_refuse 2 (some .int) :: ([.fieldLink RX11 7 "ShipOfficeModel" "refusals" "[I"] ++ wsX110)
def wsX11_refuseFar : List Cond := .code yX11_refuseFar cX11_refuseFar 2 (some .int) :: ([.constant RX11 152 (1000000000), .methodLink RX11 153 yX11_refuse, .instanceMethod yX11_refuse, .selects RX11 yX11_refuse yX11_refuse, .initialized RX11, .code yX11_refuse cX11_refuse 2 (some .int), .fieldLink RX11 7 "ShipOfficeModel" "refusals" "[I"] ++ wsX110)
def wsX11_isIn : List Cond := .code yX11_isIn cX11_isIn 2 (some .boolean) :: ([])
def wsX11_isMan : List Cond := .code yX11_isMan cX11_isMan 2 (some .boolean) :: ([.fieldLink RX11 157 "ShipOfficeModel" "men" "I", .methodLink RX11 161 yX11_isIn, .static yX11_isIn, .initialized RX11, .code yX11_isIn cX11_isIn 2 (some .boolean)] ++ wsX110)
def wsX11_isVoyage : List Cond := .code yX11_isVoyage cX11_isVoyage 2 (some .boolean) :: ([.fieldLink RX11 165 "ShipOfficeModel" "voyages" "I", .methodLink RX11 161 yX11_isIn, .static yX11_isIn, .initialized RX11, .code yX11_isIn cX11_isIn 2 (some .boolean)] ++ wsX110)
def wsX11_isAgreement : List Cond := .code yX11_isAgreement cX11_isAgreement 2 (some .boolean) :: ([.fieldLink RX11 168 "ShipOfficeModel" "agreements" "I", .methodLink RX11 161 yX11_isIn, .static yX11_isIn, .initialized RX11, .code yX11_isIn cX11_isIn 2 (some .boolean)] ++ wsX110)
def wsX11_isPort : List Cond := .code yX11_isPort cX11_isPort 1 (some .boolean) :: ([.methodLink RX11 161 yX11_isIn, .static yX11_isIn, .initialized RX11, .code yX11_isIn cX11_isIn 2 (some .boolean)])
def wsX11_ended_r1 : List Cond := [Cond.fieldLink RX11 37 "ShipOfficeModel" "endedOn" "[I", Cond.fieldLink RX11 168 "ShipOfficeModel" "agreements" "I", Cond.fieldLink RX11 73 "ShipOfficeModel" "voyage" "[I", Cond.fieldLink RX11 88 "ShipOfficeModel" "offOn" "[I", Cond.fieldLink RX11 171 "ShipOfficeModel" "now" "I", Cond.methodLink RX11 185 yX11_isVoyage, Cond.instanceMethod yX11_isVoyage, Cond.selects RX11 yX11_isVoyage yX11_isVoyage, Cond.initialized RX11, Cond.code yX11_isVoyage cX11_isVoyage 2 (some .boolean), Cond.fieldLink RX11 165 "ShipOfficeModel" "voyages" "I", Cond.methodLink RX11 161 yX11_isIn, Cond.static yX11_isIn, Cond.code yX11_isIn cX11_isIn 2 (some .boolean), Cond.methodLink RX11 174 yX11_isPort, Cond.static yX11_isPort, Cond.code yX11_isPort cX11_isPort 1 (some .boolean), Cond.methodLink RX11 153 yX11_refuse, Cond.instanceMethod yX11_refuse, Cond.selects RX11 yX11_refuse yX11_refuse, Cond.code yX11_refuse cX11_refuse 2 (some .int), Cond.fieldLink RX11 7 "ShipOfficeModel" "refusals" "[I", Cond.methodLink RX11 182 yX11_wasTold, Cond.instanceMethod yX11_wasTold]
def wsX11_ended_r2 : List Cond := [Cond.selects RX11 yX11_wasTold yX11_wasTold, Cond.code yX11_wasTold cX11_wasTold 4 (some .boolean), Cond.fieldLink RX11 179 "ShipOfficeModel" "happened" "I", Cond.fieldLink RX11 40 "ShipOfficeModel" "what" "[I", Cond.fieldLink RX11 43 "ShipOfficeModel" "whose" "[I", Cond.methodLink RX11 188 yX11_goesOn, Cond.instanceMethod yX11_goesOn, Cond.selects RX11 yX11_goesOn yX11_goesOn, Cond.code yX11_goesOn cX11_goesOn 2 (some .boolean)]
def wsX11_ended : List Cond := .code yX11_ended cX11_ended 5 (some .int) :: ((wsX11_ended_r1 ++ wsX11_ended_r2) ++ wsX110)
def wsX11_happensTo_r1 : List Cond := [Cond.fieldLink RX11 37 "ShipOfficeModel" "endedOn" "[I", Cond.fieldLink RX11 31 "ShipOfficeModel" "opened" "[I", Cond.methodLink RX11 185 yX11_isVoyage, Cond.instanceMethod yX11_isVoyage, Cond.selects RX11 yX11_isVoyage yX11_isVoyage, Cond.initialized RX11, Cond.code yX11_isVoyage cX11_isVoyage 2 (some .boolean), Cond.fieldLink RX11 165 "ShipOfficeModel" "voyages" "I", Cond.methodLink RX11 161 yX11_isIn, Cond.static yX11_isIn, Cond.code yX11_isIn cX11_isIn 2 (some .boolean), Cond.methodLink RX11 153 yX11_refuse, Cond.instanceMethod yX11_refuse, Cond.selects RX11 yX11_refuse yX11_refuse, Cond.code yX11_refuse cX11_refuse 2 (some .int), Cond.fieldLink RX11 7 "ShipOfficeModel" "refusals" "[I", Cond.methodLink RX11 182 yX11_wasTold, Cond.instanceMethod yX11_wasTold, Cond.selects RX11 yX11_wasTold yX11_wasTold, Cond.code yX11_wasTold cX11_wasTold 4 (some .boolean), Cond.fieldLink RX11 179 "ShipOfficeModel" "happened" "I", Cond.fieldLink RX11 40 "ShipOfficeModel" "what" "[I", Cond.fieldLink RX11 43 "ShipOfficeModel" "whose" "[I", Cond.methodLink RX11 191 yX11_happens]
def wsX11_happensTo_r2 : List Cond := [Cond.instanceMethod yX11_happens, Cond.selects RX11 yX11_happens yX11_happens, Cond.code yX11_happens cX11_happens 7 (some .int), Cond.fieldLink RX11 171 "ShipOfficeModel" "now" "I", Cond.fieldLink RX11 46 "ShipOfficeModel" "day" "[I", Cond.fieldLink RX11 49 "ShipOfficeModel" "known" "[I", Cond.fieldLink RX11 52 "ShipOfficeModel" "way" "[I", Cond.fieldLink RX11 55 "ShipOfficeModel" "port" "[I"]
def wsX11_happensTo : List Cond := .code yX11_happensTo cX11_happensTo 4 (some .int) :: ((wsX11_happensTo_r1 ++ wsX11_happensTo_r2) ++ wsX110)
def wsX11_sailed_r1 : List Cond := [Cond.methodLink RX11 195 yX11_happensTo, Cond.instanceMethod yX11_happensTo, Cond.selects RX11 yX11_happensTo yX11_happensTo, Cond.initialized RX11, Cond.code yX11_happensTo cX11_happensTo 4 (some .int), Cond.fieldLink RX11 37 "ShipOfficeModel" "endedOn" "[I", Cond.fieldLink RX11 31 "ShipOfficeModel" "opened" "[I", Cond.methodLink RX11 185 yX11_isVoyage, Cond.instanceMethod yX11_isVoyage, Cond.selects RX11 yX11_isVoyage yX11_isVoyage, Cond.code yX11_isVoyage cX11_isVoyage 2 (some .boolean), Cond.fieldLink RX11 165 "ShipOfficeModel" "voyages" "I", Cond.methodLink RX11 161 yX11_isIn, Cond.static yX11_isIn, Cond.code yX11_isIn cX11_isIn 2 (some .boolean), Cond.methodLink RX11 153 yX11_refuse, Cond.instanceMethod yX11_refuse, Cond.selects RX11 yX11_refuse yX11_refuse, Cond.code yX11_refuse cX11_refuse 2 (some .int), Cond.fieldLink RX11 7 "ShipOfficeModel" "refusals" "[I", Cond.methodLink RX11 182 yX11_wasTold, Cond.instanceMethod yX11_wasTold, Cond.selects RX11 yX11_wasTold yX11_wasTold, Cond.code yX11_wasTold cX11_wasTold 4 (some .boolean)]
def wsX11_sailed_r2 : List Cond := [Cond.fieldLink RX11 179 "ShipOfficeModel" "happened" "I", Cond.fieldLink RX11 40 "ShipOfficeModel" "what" "[I", Cond.fieldLink RX11 43 "ShipOfficeModel" "whose" "[I", Cond.methodLink RX11 191 yX11_happens, Cond.instanceMethod yX11_happens, Cond.selects RX11 yX11_happens yX11_happens, Cond.code yX11_happens cX11_happens 7 (some .int), Cond.fieldLink RX11 171 "ShipOfficeModel" "now" "I", Cond.fieldLink RX11 46 "ShipOfficeModel" "day" "[I", Cond.fieldLink RX11 49 "ShipOfficeModel" "known" "[I", Cond.fieldLink RX11 52 "ShipOfficeModel" "way" "[I", Cond.fieldLink RX11 55 "ShipOfficeModel" "port" "[I"]
def wsX11_sailed : List Cond := .code yX11_sailed cX11_sailed 3 (some .int) :: ((wsX11_sailed_r1 ++ wsX11_sailed_r2) ++ wsX110)
def wsX11_heard_r1 : List Cond := [Cond.methodLink RX11 195 yX11_happensTo, Cond.instanceMethod yX11_happensTo, Cond.selects RX11 yX11_happensTo yX11_happensTo, Cond.initialized RX11, Cond.code yX11_happensTo cX11_happensTo 4 (some .int), Cond.fieldLink RX11 37 "ShipOfficeModel" "endedOn" "[I", Cond.fieldLink RX11 31 "ShipOfficeModel" "opened" "[I", Cond.methodLink RX11 185 yX11_isVoyage, Cond.instanceMethod yX11_isVoyage, Cond.selects RX11 yX11_isVoyage yX11_isVoyage, Cond.code yX11_isVoyage cX11_isVoyage 2 (some .boolean), Cond.fieldLink RX11 165 "ShipOfficeModel" "voyages" "I", Cond.methodLink RX11 161 yX11_isIn, Cond.static yX11_isIn, Cond.code yX11_isIn cX11_isIn 2 (some .boolean), Cond.methodLink RX11 153 yX11_refuse, Cond.instanceMethod yX11_refuse, Cond.selects RX11 yX11_refuse yX11_refuse, Cond.code yX11_refuse cX11_refuse 2 (some .int), Cond.fieldLink RX11 7 "ShipOfficeModel" "refusals" "[I", Cond.methodLink RX11 182 yX11_wasTold, Cond.instanceMethod yX11_wasTold, Cond.selects RX11 yX11_wasTold yX11_wasTold, Cond.code yX11_wasTold cX11_wasTold 4 (some .boolean)]
def wsX11_heard_r2 : List Cond := [Cond.fieldLink RX11 179 "ShipOfficeModel" "happened" "I", Cond.fieldLink RX11 40 "ShipOfficeModel" "what" "[I", Cond.fieldLink RX11 43 "ShipOfficeModel" "whose" "[I", Cond.methodLink RX11 191 yX11_happens, Cond.instanceMethod yX11_happens, Cond.selects RX11 yX11_happens yX11_happens, Cond.code yX11_happens cX11_happens 7 (some .int), Cond.fieldLink RX11 171 "ShipOfficeModel" "now" "I", Cond.fieldLink RX11 46 "ShipOfficeModel" "day" "[I", Cond.fieldLink RX11 49 "ShipOfficeModel" "known" "[I", Cond.fieldLink RX11 52 "ShipOfficeModel" "way" "[I", Cond.fieldLink RX11 55 "ShipOfficeModel" "port" "[I"]
def wsX11_heard : List Cond := .code yX11_heard cX11_heard 3 (some .int) :: ((wsX11_heard_r1 ++ wsX11_heard_r2) ++ wsX110)
def wsX11_lost_r1 : List Cond := [Cond.methodLink RX11 195 yX11_happensTo, Cond.instanceMethod yX11_happensTo, Cond.selects RX11 yX11_happensTo yX11_happensTo, Cond.initialized RX11, Cond.code yX11_happensTo cX11_happensTo 4 (some .int), Cond.fieldLink RX11 37 "ShipOfficeModel" "endedOn" "[I", Cond.fieldLink RX11 31 "ShipOfficeModel" "opened" "[I", Cond.methodLink RX11 185 yX11_isVoyage, Cond.instanceMethod yX11_isVoyage, Cond.selects RX11 yX11_isVoyage yX11_isVoyage, Cond.code yX11_isVoyage cX11_isVoyage 2 (some .boolean), Cond.fieldLink RX11 165 "ShipOfficeModel" "voyages" "I", Cond.methodLink RX11 161 yX11_isIn, Cond.static yX11_isIn, Cond.code yX11_isIn cX11_isIn 2 (some .boolean), Cond.methodLink RX11 153 yX11_refuse, Cond.instanceMethod yX11_refuse, Cond.selects RX11 yX11_refuse yX11_refuse, Cond.code yX11_refuse cX11_refuse 2 (some .int), Cond.fieldLink RX11 7 "ShipOfficeModel" "refusals" "[I", Cond.methodLink RX11 182 yX11_wasTold, Cond.instanceMethod yX11_wasTold, Cond.selects RX11 yX11_wasTold yX11_wasTold, Cond.code yX11_wasTold cX11_wasTold 4 (some .boolean)]
def wsX11_lost_r2 : List Cond := [Cond.fieldLink RX11 179 "ShipOfficeModel" "happened" "I", Cond.fieldLink RX11 40 "ShipOfficeModel" "what" "[I", Cond.fieldLink RX11 43 "ShipOfficeModel" "whose" "[I", Cond.methodLink RX11 191 yX11_happens, Cond.instanceMethod yX11_happens, Cond.selects RX11 yX11_happens yX11_happens, Cond.code yX11_happens cX11_happens 7 (some .int), Cond.fieldLink RX11 171 "ShipOfficeModel" "now" "I", Cond.fieldLink RX11 46 "ShipOfficeModel" "day" "[I", Cond.fieldLink RX11 49 "ShipOfficeModel" "known" "[I", Cond.fieldLink RX11 52 "ShipOfficeModel" "way" "[I", Cond.fieldLink RX11 55 "ShipOfficeModel" "port" "[I"]
def wsX11_lost : List Cond := .code yX11_lost cX11_lost 3 (some .int) :: ((wsX11_lost_r1 ++ wsX11_lost_r2) ++ wsX110)
def wsX11_left_r1 : List Cond := [Cond.fieldLink RX11 88 "ShipOfficeModel" "offOn" "[I", Cond.fieldLink RX11 85 "ShipOfficeModel" "signed" "[I", Cond.methodLink RX11 199 yX11_isAgreement, Cond.instanceMethod yX11_isAgreement, Cond.selects RX11 yX11_isAgreement yX11_isAgreement, Cond.initialized RX11, Cond.code yX11_isAgreement cX11_isAgreement 2 (some .boolean), Cond.fieldLink RX11 168 "ShipOfficeModel" "agreements" "I", Cond.methodLink RX11 161 yX11_isIn, Cond.static yX11_isIn, Cond.code yX11_isIn cX11_isIn 2 (some .boolean), Cond.methodLink RX11 174 yX11_isPort, Cond.static yX11_isPort, Cond.code yX11_isPort cX11_isPort 1 (some .boolean), Cond.methodLink RX11 153 yX11_refuse, Cond.instanceMethod yX11_refuse, Cond.selects RX11 yX11_refuse yX11_refuse, Cond.code yX11_refuse cX11_refuse 2 (some .int), Cond.fieldLink RX11 7 "ShipOfficeModel" "refusals" "[I", Cond.methodLink RX11 191 yX11_happens, Cond.instanceMethod yX11_happens, Cond.selects RX11 yX11_happens yX11_happens, Cond.code yX11_happens cX11_happens 7 (some .int), Cond.fieldLink RX11 171 "ShipOfficeModel" "now" "I"]
def wsX11_left_r2 : List Cond := [Cond.fieldLink RX11 179 "ShipOfficeModel" "happened" "I", Cond.fieldLink RX11 40 "ShipOfficeModel" "what" "[I", Cond.fieldLink RX11 43 "ShipOfficeModel" "whose" "[I", Cond.fieldLink RX11 46 "ShipOfficeModel" "day" "[I", Cond.fieldLink RX11 49 "ShipOfficeModel" "known" "[I", Cond.fieldLink RX11 52 "ShipOfficeModel" "way" "[I", Cond.fieldLink RX11 55 "ShipOfficeModel" "port" "[I"]
def wsX11_left : List Cond := .code yX11_left cX11_left 5 (some .int) :: ((wsX11_left_r1 ++ wsX11_left_r2) ++ wsX110)
def wsX11_happensOf_r1 : List Cond := [Cond.fieldLink RX11 88 "ShipOfficeModel" "offOn" "[I", Cond.fieldLink RX11 85 "ShipOfficeModel" "signed" "[I", Cond.methodLink RX11 199 yX11_isAgreement, Cond.instanceMethod yX11_isAgreement, Cond.selects RX11 yX11_isAgreement yX11_isAgreement, Cond.initialized RX11, Cond.code yX11_isAgreement cX11_isAgreement 2 (some .boolean), Cond.fieldLink RX11 168 "ShipOfficeModel" "agreements" "I", Cond.methodLink RX11 161 yX11_isIn, Cond.static yX11_isIn, Cond.code yX11_isIn cX11_isIn 2 (some .boolean), Cond.methodLink RX11 153 yX11_refuse, Cond.instanceMethod yX11_refuse, Cond.selects RX11 yX11_refuse yX11_refuse, Cond.code yX11_refuse cX11_refuse 2 (some .int), Cond.fieldLink RX11 7 "ShipOfficeModel" "refusals" "[I", Cond.methodLink RX11 191 yX11_happens, Cond.instanceMethod yX11_happens, Cond.selects RX11 yX11_happens yX11_happens, Cond.code yX11_happens cX11_happens 7 (some .int), Cond.fieldLink RX11 171 "ShipOfficeModel" "now" "I", Cond.fieldLink RX11 179 "ShipOfficeModel" "happened" "I", Cond.fieldLink RX11 40 "ShipOfficeModel" "what" "[I", Cond.fieldLink RX11 43 "ShipOfficeModel" "whose" "[I"]
def wsX11_happensOf_r2 : List Cond := [Cond.fieldLink RX11 46 "ShipOfficeModel" "day" "[I", Cond.fieldLink RX11 49 "ShipOfficeModel" "known" "[I", Cond.fieldLink RX11 52 "ShipOfficeModel" "way" "[I", Cond.fieldLink RX11 55 "ShipOfficeModel" "port" "[I"]
def wsX11_happensOf : List Cond := .code yX11_happensOf cX11_happensOf 4 (some .int) :: ((wsX11_happensOf_r1 ++ wsX11_happensOf_r2) ++ wsX110)
def wsX11_died_r1 : List Cond := [Cond.methodLink RX11 202 yX11_happensOf, Cond.instanceMethod yX11_happensOf, Cond.selects RX11 yX11_happensOf yX11_happensOf, Cond.initialized RX11, Cond.code yX11_happensOf cX11_happensOf 4 (some .int), Cond.fieldLink RX11 88 "ShipOfficeModel" "offOn" "[I", Cond.fieldLink RX11 85 "ShipOfficeModel" "signed" "[I", Cond.methodLink RX11 199 yX11_isAgreement, Cond.instanceMethod yX11_isAgreement, Cond.selects RX11 yX11_isAgreement yX11_isAgreement, Cond.code yX11_isAgreement cX11_isAgreement 2 (some .boolean), Cond.fieldLink RX11 168 "ShipOfficeModel" "agreements" "I", Cond.methodLink RX11 161 yX11_isIn, Cond.static yX11_isIn, Cond.code yX11_isIn cX11_isIn 2 (some .boolean), Cond.methodLink RX11 153 yX11_refuse, Cond.instanceMethod yX11_refuse, Cond.selects RX11 yX11_refuse yX11_refuse, Cond.code yX11_refuse cX11_refuse 2 (some .int), Cond.fieldLink RX11 7 "ShipOfficeModel" "refusals" "[I", Cond.methodLink RX11 191 yX11_happens, Cond.instanceMethod yX11_happens, Cond.selects RX11 yX11_happens yX11_happens, Cond.code yX11_happens cX11_happens 7 (some .int)]
def wsX11_died_r2 : List Cond := [Cond.fieldLink RX11 171 "ShipOfficeModel" "now" "I", Cond.fieldLink RX11 179 "ShipOfficeModel" "happened" "I", Cond.fieldLink RX11 40 "ShipOfficeModel" "what" "[I", Cond.fieldLink RX11 43 "ShipOfficeModel" "whose" "[I", Cond.fieldLink RX11 46 "ShipOfficeModel" "day" "[I", Cond.fieldLink RX11 49 "ShipOfficeModel" "known" "[I", Cond.fieldLink RX11 52 "ShipOfficeModel" "way" "[I", Cond.fieldLink RX11 55 "ShipOfficeModel" "port" "[I"]
def wsX11_died : List Cond := .code yX11_died cX11_died 3 (some .int) :: ((wsX11_died_r1 ++ wsX11_died_r2) ++ wsX110)
def wsX11_back_r1 : List Cond := [Cond.methodLink RX11 202 yX11_happensOf, Cond.instanceMethod yX11_happensOf, Cond.selects RX11 yX11_happensOf yX11_happensOf, Cond.initialized RX11, Cond.code yX11_happensOf cX11_happensOf 4 (some .int), Cond.fieldLink RX11 88 "ShipOfficeModel" "offOn" "[I", Cond.fieldLink RX11 85 "ShipOfficeModel" "signed" "[I", Cond.methodLink RX11 199 yX11_isAgreement, Cond.instanceMethod yX11_isAgreement, Cond.selects RX11 yX11_isAgreement yX11_isAgreement, Cond.code yX11_isAgreement cX11_isAgreement 2 (some .boolean), Cond.fieldLink RX11 168 "ShipOfficeModel" "agreements" "I", Cond.methodLink RX11 161 yX11_isIn, Cond.static yX11_isIn, Cond.code yX11_isIn cX11_isIn 2 (some .boolean), Cond.methodLink RX11 153 yX11_refuse, Cond.instanceMethod yX11_refuse, Cond.selects RX11 yX11_refuse yX11_refuse, Cond.code yX11_refuse cX11_refuse 2 (some .int), Cond.fieldLink RX11 7 "ShipOfficeModel" "refusals" "[I", Cond.methodLink RX11 191 yX11_happens, Cond.instanceMethod yX11_happens, Cond.selects RX11 yX11_happens yX11_happens, Cond.code yX11_happens cX11_happens 7 (some .int)]
def wsX11_back_r2 : List Cond := [Cond.fieldLink RX11 171 "ShipOfficeModel" "now" "I", Cond.fieldLink RX11 179 "ShipOfficeModel" "happened" "I", Cond.fieldLink RX11 40 "ShipOfficeModel" "what" "[I", Cond.fieldLink RX11 43 "ShipOfficeModel" "whose" "[I", Cond.fieldLink RX11 46 "ShipOfficeModel" "day" "[I", Cond.fieldLink RX11 49 "ShipOfficeModel" "known" "[I", Cond.fieldLink RX11 52 "ShipOfficeModel" "way" "[I", Cond.fieldLink RX11 55 "ShipOfficeModel" "port" "[I"]
def wsX11_back : List Cond := .code yX11_back cX11_back 3 (some .int) :: ((wsX11_back_r1 ++ wsX11_back_r2) ++ wsX110)
def wsX11_sign__r1 : List Cond := [Cond.fieldLink RX11 168 "ShipOfficeModel" "agreements" "I", Cond.fieldLink RX11 37 "ShipOfficeModel" "endedOn" "[I", Cond.fieldLink RX11 88 "ShipOfficeModel" "offOn" "[I", Cond.fieldLink RX11 70 "ShipOfficeModel" "man" "[I", Cond.fieldLink RX11 128 "ShipOfficeModel" "letters" "[I", Cond.fieldLink RX11 171 "ShipOfficeModel" "now" "I", Cond.fieldLink RX11 22 "ShipOfficeModel" "born" "[I", Cond.fieldLink RX11 73 "ShipOfficeModel" "voyage" "[I", Cond.fieldLink RX11 76 "ShipOfficeModel" "wage" "[I", Cond.fieldLink RX11 79 "ShipOfficeModel" "rank" "[I", Cond.fieldLink RX11 82 "ShipOfficeModel" "paper" "[I", Cond.fieldLink RX11 85 "ShipOfficeModel" "signed" "[I", Cond.fieldLink RX11 94 "ShipOfficeModel" "given" "[I", Cond.methodLink RX11 297 yX11_isMan, Cond.instanceMethod yX11_isMan, Cond.selects RX11 yX11_isMan yX11_isMan, Cond.initialized RX11, Cond.code yX11_isMan cX11_isMan 2 (some .boolean), Cond.fieldLink RX11 157 "ShipOfficeModel" "men" "I", Cond.methodLink RX11 161 yX11_isIn, Cond.static yX11_isIn, Cond.code yX11_isIn cX11_isIn 2 (some .boolean), Cond.methodLink RX11 185 yX11_isVoyage, Cond.instanceMethod yX11_isVoyage]
def wsX11_sign__r2 : List Cond := [Cond.selects RX11 yX11_isVoyage yX11_isVoyage, Cond.code yX11_isVoyage cX11_isVoyage 2 (some .boolean), Cond.fieldLink RX11 165 "ShipOfficeModel" "voyages" "I", Cond.methodLink RX11 199 yX11_isAgreement, Cond.instanceMethod yX11_isAgreement, Cond.selects RX11 yX11_isAgreement yX11_isAgreement, Cond.code yX11_isAgreement cX11_isAgreement 2 (some .boolean), Cond.methodLink RX11 153 yX11_refuse, Cond.instanceMethod yX11_refuse, Cond.selects RX11 yX11_refuse yX11_refuse, Cond.code yX11_refuse cX11_refuse 2 (some .int), Cond.fieldLink RX11 7 "ShipOfficeModel" "refusals" "[I", Cond.methodLink RX11 182 yX11_wasTold, Cond.instanceMethod yX11_wasTold, Cond.selects RX11 yX11_wasTold yX11_wasTold, Cond.code yX11_wasTold cX11_wasTold 4 (some .boolean), Cond.fieldLink RX11 179 "ShipOfficeModel" "happened" "I", Cond.fieldLink RX11 40 "ShipOfficeModel" "what" "[I", Cond.fieldLink RX11 43 "ShipOfficeModel" "whose" "[I", Cond.methodLink RX11 188 yX11_goesOn, Cond.instanceMethod yX11_goesOn, Cond.selects RX11 yX11_goesOn yX11_goesOn, Cond.code yX11_goesOn cX11_goesOn 2 (some .boolean), Cond.methodLink RX11 275 yX11_bare]
def wsX11_sign__r3 : List Cond := [Cond.instanceMethod yX11_bare, Cond.selects RX11 yX11_bare yX11_bare, Cond.code yX11_bare cX11_bare 2 none, Cond.methodLink RX11 285 yX11_worth, Cond.instanceMethod yX11_worth, Cond.selects RX11 yX11_worth yX11_worth, Cond.code yX11_worth cX11_worth 4 (some .int), Cond.fieldLink RX11 58 "ShipOfficeModel" "textSize" "[I", Cond.methodLink RX11 263 yX11_actOn, Cond.instanceMethod yX11_actOn, Cond.selects RX11 yX11_actOn yX11_actOn, Cond.code yX11_actOn cX11_actOn 5 (some .int), Cond.fieldLink RX11 256 "ShipOfficeModel" "acts" "I", Cond.fieldLink RX11 61 "ShipOfficeModel" "purpose" "[I", Cond.fieldLink RX11 64 "ShipOfficeModel" "from" "[I", Cond.methodLink RX11 259 yX11_goesThrough, Cond.instanceMethod yX11_goesThrough, Cond.selects RX11 yX11_goesThrough yX11_goesThrough, Cond.code yX11_goesThrough cX11_goesThrough 3 (some .int), Cond.fieldLink RX11 216 "ShipOfficeModel" "base" "I", Cond.fieldLink RX11 213 "ShipOfficeModel" "size" "I", Cond.fieldLink RX11 210 "ShipOfficeModel" "at" "I", Cond.fieldLink RX11 244 "ShipOfficeModel" "deep" "I", Cond.fieldLink RX11 223 "ShipOfficeModel" "isWell" "Z"]
def wsX11_sign__r4 : List Cond := [Cond.methodLink RX11 250 yX11_sum, Cond.instanceMethod yX11_sum, Cond.selects RX11 yX11_sum yX11_sum, Cond.code yX11_sum cX11_sum 4 (some .int), Cond.methodLink RX11 231 yX11_term, Cond.instanceMethod yX11_term, Cond.selects RX11 yX11_term yX11_term, Cond.methodLink RX11 227 yX11_sign, Cond.instanceMethod yX11_sign, Cond.selects RX11 yX11_sign yX11_sign, Cond.code yX11_sign cX11_sign 1 (some .int), Cond.fieldLink RX11 125 "ShipOfficeModel" "tape" "[I", Cond.fieldLink RX11 67 "ShipOfficeModel" "text" "[I", Cond.methodLink RX11 234 yX11_held, Cond.static yX11_held, Cond.code yX11_held cX11_held 2 (some .int), Cond.constantLong RX11 219 (1000000000), Cond.constantLong RX11 221 (-1000000000), Cond.code yX11_term cX11_term 4 (some .int), Cond.methodLink RX11 238 yX11_unit, Cond.instanceMethod yX11_unit, Cond.selects RX11 yX11_unit yX11_unit, Cond.code yX11_unit cX11_unit 5 (some .int), Cond.methodLink RX11 241 yX11_isLetter]
def wsX11_sign__r5 : List Cond := [Cond.static yX11_isLetter, Cond.code yX11_isLetter cX11_isLetter 1 (some .boolean), Cond.methodLink RX11 247 yX11_breaks, Cond.instanceMethod yX11_breaks, Cond.selects RX11 yX11_breaks yX11_breaks, Cond.code yX11_breaks cX11_breaks 1 (some .int), Cond.methodLink RX11 253 yX11_takes, Cond.instanceMethod yX11_takes, Cond.selects RX11 yX11_takes yX11_takes, Cond.code yX11_takes cX11_takes 2 (some .boolean)]
def wsX11_sign_ : List Cond := .code yX11_sign_ cX11_sign_ 8 (some .int) :: ((wsX11_sign__r1 ++ (wsX11_sign__r2 ++ (wsX11_sign__r3 ++ (wsX11_sign__r4 ++ wsX11_sign__r5)))) ++ wsX110)
def wsX11_off_r1 : List Cond := [Cond.fieldLink RX11 88 "ShipOfficeModel" "offOn" "[I", Cond.fieldLink RX11 171 "ShipOfficeModel" "now" "I", Cond.methodLink RX11 199 yX11_isAgreement, Cond.instanceMethod yX11_isAgreement, Cond.selects RX11 yX11_isAgreement yX11_isAgreement, Cond.initialized RX11, Cond.code yX11_isAgreement cX11_isAgreement 2 (some .boolean), Cond.fieldLink RX11 168 "ShipOfficeModel" "agreements" "I", Cond.methodLink RX11 161 yX11_isIn, Cond.static yX11_isIn, Cond.code yX11_isIn cX11_isIn 2 (some .boolean), Cond.methodLink RX11 174 yX11_isPort, Cond.static yX11_isPort, Cond.code yX11_isPort cX11_isPort 1 (some .boolean), Cond.methodLink RX11 153 yX11_refuse, Cond.instanceMethod yX11_refuse, Cond.selects RX11 yX11_refuse yX11_refuse, Cond.code yX11_refuse cX11_refuse 2 (some .int), Cond.fieldLink RX11 7 "ShipOfficeModel" "refusals" "[I", Cond.methodLink RX11 188 yX11_goesOn, Cond.instanceMethod yX11_goesOn, Cond.selects RX11 yX11_goesOn yX11_goesOn, Cond.code yX11_goesOn cX11_goesOn 2 (some .boolean), Cond.fieldLink RX11 73 "ShipOfficeModel" "voyage" "[I"]
def wsX11_off_r2 : List Cond := [Cond.methodLink RX11 182 yX11_wasTold, Cond.instanceMethod yX11_wasTold, Cond.selects RX11 yX11_wasTold yX11_wasTold, Cond.code yX11_wasTold cX11_wasTold 4 (some .boolean), Cond.fieldLink RX11 179 "ShipOfficeModel" "happened" "I", Cond.fieldLink RX11 40 "ShipOfficeModel" "what" "[I", Cond.fieldLink RX11 43 "ShipOfficeModel" "whose" "[I"]
def wsX11_off : List Cond := .code yX11_off cX11_off 3 (some .int) :: ((wsX11_off_r1 ++ wsX11_off_r2) ++ wsX110)
def wsX11_state_r1 : List Cond := [Cond.methodLink RX11 199 yX11_isAgreement, Cond.instanceMethod yX11_isAgreement, Cond.selects RX11 yX11_isAgreement yX11_isAgreement, Cond.initialized RX11, Cond.code yX11_isAgreement cX11_isAgreement 2 (some .boolean), Cond.fieldLink RX11 168 "ShipOfficeModel" "agreements" "I", Cond.methodLink RX11 161 yX11_isIn, Cond.static yX11_isIn, Cond.code yX11_isIn cX11_isIn 2 (some .boolean), Cond.methodLink RX11 300 yX11_wrongTimes, Cond.instanceMethod yX11_wrongTimes, Cond.selects RX11 yX11_wrongTimes yX11_wrongTimes, Cond.code yX11_wrongTimes cX11_wrongTimes 3 (some .int), Cond.fieldLink RX11 171 "ShipOfficeModel" "now" "I", Cond.methodLink RX11 153 yX11_refuse, Cond.instanceMethod yX11_refuse, Cond.selects RX11 yX11_refuse yX11_refuse, Cond.code yX11_refuse cX11_refuse 2 (some .int), Cond.fieldLink RX11 7 "ShipOfficeModel" "refusals" "[I", Cond.methodLink RX11 266 yX11_stateOf, Cond.instanceMethod yX11_stateOf, Cond.selects RX11 yX11_stateOf yX11_stateOf, Cond.code yX11_stateOf cX11_stateOf 5 (some .int), Cond.fieldLink RX11 85 "ShipOfficeModel" "signed" "[I"]
def wsX11_state_r2 : List Cond := [Cond.fieldLink RX11 88 "ShipOfficeModel" "offOn" "[I", Cond.fieldLink RX11 40 "ShipOfficeModel" "what" "[I", Cond.fieldLink RX11 73 "ShipOfficeModel" "voyage" "[I", Cond.methodLink RX11 288 yX11_isDead, Cond.instanceMethod yX11_isDead, Cond.selects RX11 yX11_isDead yX11_isDead, Cond.code yX11_isDead cX11_isDead 5 (some .boolean), Cond.fieldLink RX11 179 "ShipOfficeModel" "happened" "I", Cond.fieldLink RX11 43 "ShipOfficeModel" "whose" "[I", Cond.fieldLink RX11 49 "ShipOfficeModel" "known" "[I", Cond.fieldLink RX11 46 "ShipOfficeModel" "day" "[I", Cond.methodLink RX11 291 yX11_whereOf, Cond.instanceMethod yX11_whereOf, Cond.selects RX11 yX11_whereOf yX11_whereOf, Cond.code yX11_whereOf cX11_whereOf 6 (some .int), Cond.methodLink RX11 281 yX11_hasSailed, Cond.instanceMethod yX11_hasSailed, Cond.selects RX11 yX11_hasSailed yX11_hasSailed, Cond.code yX11_hasSailed cX11_hasSailed 5 (some .boolean), Cond.methodLink RX11 278 yX11_sailedOn, Cond.instanceMethod yX11_sailedOn, Cond.selects RX11 yX11_sailedOn yX11_sailedOn, Cond.code yX11_sailedOn cX11_sailedOn 4 (some .int), Cond.methodLink RX11 294 yX11_isUnknown]
def wsX11_state_r3 : List Cond := [Cond.instanceMethod yX11_isUnknown, Cond.selects RX11 yX11_isUnknown yX11_isUnknown, Cond.code yX11_isUnknown cX11_isUnknown 4 (some .boolean), Cond.methodLink RX11 275 yX11_bare, Cond.instanceMethod yX11_bare, Cond.selects RX11 yX11_bare yX11_bare, Cond.code yX11_bare cX11_bare 2 none, Cond.fieldLink RX11 128 "ShipOfficeModel" "letters" "[I", Cond.methodLink RX11 272 yX11_lastHeard, Cond.instanceMethod yX11_lastHeard, Cond.selects RX11 yX11_lastHeard yX11_lastHeard, Cond.code yX11_lastHeard cX11_lastHeard 6 (some .int), Cond.methodLink RX11 285 yX11_worth, Cond.instanceMethod yX11_worth, Cond.selects RX11 yX11_worth yX11_worth, Cond.code yX11_worth cX11_worth 4 (some .int), Cond.fieldLink RX11 58 "ShipOfficeModel" "textSize" "[I", Cond.methodLink RX11 263 yX11_actOn, Cond.instanceMethod yX11_actOn, Cond.selects RX11 yX11_actOn yX11_actOn, Cond.code yX11_actOn cX11_actOn 5 (some .int), Cond.fieldLink RX11 256 "ShipOfficeModel" "acts" "I", Cond.fieldLink RX11 61 "ShipOfficeModel" "purpose" "[I", Cond.fieldLink RX11 64 "ShipOfficeModel" "from" "[I"]
def wsX11_state_r4 : List Cond := [Cond.methodLink RX11 259 yX11_goesThrough, Cond.instanceMethod yX11_goesThrough, Cond.selects RX11 yX11_goesThrough yX11_goesThrough, Cond.code yX11_goesThrough cX11_goesThrough 3 (some .int), Cond.fieldLink RX11 216 "ShipOfficeModel" "base" "I", Cond.fieldLink RX11 213 "ShipOfficeModel" "size" "I", Cond.fieldLink RX11 210 "ShipOfficeModel" "at" "I", Cond.fieldLink RX11 244 "ShipOfficeModel" "deep" "I", Cond.fieldLink RX11 223 "ShipOfficeModel" "isWell" "Z", Cond.methodLink RX11 250 yX11_sum, Cond.instanceMethod yX11_sum, Cond.selects RX11 yX11_sum yX11_sum, Cond.code yX11_sum cX11_sum 4 (some .int), Cond.methodLink RX11 231 yX11_term, Cond.instanceMethod yX11_term, Cond.selects RX11 yX11_term yX11_term, Cond.methodLink RX11 227 yX11_sign, Cond.instanceMethod yX11_sign, Cond.selects RX11 yX11_sign yX11_sign, Cond.code yX11_sign cX11_sign 1 (some .int), Cond.fieldLink RX11 125 "ShipOfficeModel" "tape" "[I", Cond.fieldLink RX11 67 "ShipOfficeModel" "text" "[I", Cond.methodLink RX11 234 yX11_held, Cond.static yX11_held]
def wsX11_state_r5 : List Cond := [Cond.code yX11_held cX11_held 2 (some .int), Cond.constantLong RX11 219 (1000000000), Cond.constantLong RX11 221 (-1000000000), Cond.code yX11_term cX11_term 4 (some .int), Cond.methodLink RX11 238 yX11_unit, Cond.instanceMethod yX11_unit, Cond.selects RX11 yX11_unit yX11_unit, Cond.code yX11_unit cX11_unit 5 (some .int), Cond.methodLink RX11 241 yX11_isLetter, Cond.static yX11_isLetter, Cond.code yX11_isLetter cX11_isLetter 1 (some .boolean), Cond.methodLink RX11 247 yX11_breaks, Cond.instanceMethod yX11_breaks, Cond.selects RX11 yX11_breaks yX11_breaks, Cond.code yX11_breaks cX11_breaks 1 (some .int), Cond.methodLink RX11 253 yX11_takes, Cond.instanceMethod yX11_takes, Cond.selects RX11 yX11_takes yX11_takes, Cond.code yX11_takes cX11_takes 2 (some .boolean)]
def wsX11_state : List Cond := .code yX11_state cX11_state 5 (some .int) :: ((wsX11_state_r1 ++ (wsX11_state_r2 ++ (wsX11_state_r3 ++ (wsX11_state_r4 ++ wsX11_state_r5)))) ++ wsX110)
def wsX11_earns_r1 : List Cond := [Cond.methodLink RX11 199 yX11_isAgreement, Cond.instanceMethod yX11_isAgreement, Cond.selects RX11 yX11_isAgreement yX11_isAgreement, Cond.initialized RX11, Cond.code yX11_isAgreement cX11_isAgreement 2 (some .boolean), Cond.fieldLink RX11 168 "ShipOfficeModel" "agreements" "I", Cond.methodLink RX11 161 yX11_isIn, Cond.static yX11_isIn, Cond.code yX11_isIn cX11_isIn 2 (some .boolean), Cond.methodLink RX11 300 yX11_wrongTimes, Cond.instanceMethod yX11_wrongTimes, Cond.selects RX11 yX11_wrongTimes yX11_wrongTimes, Cond.code yX11_wrongTimes cX11_wrongTimes 3 (some .int), Cond.fieldLink RX11 171 "ShipOfficeModel" "now" "I", Cond.methodLink RX11 153 yX11_refuse, Cond.instanceMethod yX11_refuse, Cond.selects RX11 yX11_refuse yX11_refuse, Cond.code yX11_refuse cX11_refuse 2 (some .int), Cond.fieldLink RX11 7 "ShipOfficeModel" "refusals" "[I", Cond.methodLink RX11 303 yX11_earnsOf, Cond.instanceMethod yX11_earnsOf, Cond.selects RX11 yX11_earnsOf yX11_earnsOf, Cond.code yX11_earnsOf cX11_earnsOf 7 (some .int), Cond.fieldLink RX11 73 "ShipOfficeModel" "voyage" "[I"]
def wsX11_earns_r2 : List Cond := [Cond.fieldLink RX11 85 "ShipOfficeModel" "signed" "[I", Cond.methodLink RX11 266 yX11_stateOf, Cond.instanceMethod yX11_stateOf, Cond.selects RX11 yX11_stateOf yX11_stateOf, Cond.code yX11_stateOf cX11_stateOf 5 (some .int), Cond.fieldLink RX11 88 "ShipOfficeModel" "offOn" "[I", Cond.fieldLink RX11 40 "ShipOfficeModel" "what" "[I", Cond.methodLink RX11 288 yX11_isDead, Cond.instanceMethod yX11_isDead, Cond.selects RX11 yX11_isDead yX11_isDead, Cond.code yX11_isDead cX11_isDead 5 (some .boolean), Cond.fieldLink RX11 179 "ShipOfficeModel" "happened" "I", Cond.fieldLink RX11 43 "ShipOfficeModel" "whose" "[I", Cond.fieldLink RX11 49 "ShipOfficeModel" "known" "[I", Cond.fieldLink RX11 46 "ShipOfficeModel" "day" "[I", Cond.methodLink RX11 291 yX11_whereOf, Cond.instanceMethod yX11_whereOf, Cond.selects RX11 yX11_whereOf yX11_whereOf, Cond.code yX11_whereOf cX11_whereOf 6 (some .int), Cond.methodLink RX11 281 yX11_hasSailed, Cond.instanceMethod yX11_hasSailed, Cond.selects RX11 yX11_hasSailed yX11_hasSailed, Cond.code yX11_hasSailed cX11_hasSailed 5 (some .boolean), Cond.methodLink RX11 278 yX11_sailedOn]
def wsX11_earns_r3 : List Cond := [Cond.instanceMethod yX11_sailedOn, Cond.selects RX11 yX11_sailedOn yX11_sailedOn, Cond.code yX11_sailedOn cX11_sailedOn 4 (some .int), Cond.methodLink RX11 294 yX11_isUnknown, Cond.instanceMethod yX11_isUnknown, Cond.selects RX11 yX11_isUnknown yX11_isUnknown, Cond.code yX11_isUnknown cX11_isUnknown 4 (some .boolean), Cond.methodLink RX11 275 yX11_bare, Cond.instanceMethod yX11_bare, Cond.selects RX11 yX11_bare yX11_bare, Cond.code yX11_bare cX11_bare 2 none, Cond.fieldLink RX11 128 "ShipOfficeModel" "letters" "[I", Cond.methodLink RX11 272 yX11_lastHeard, Cond.instanceMethod yX11_lastHeard, Cond.selects RX11 yX11_lastHeard yX11_lastHeard, Cond.code yX11_lastHeard cX11_lastHeard 6 (some .int), Cond.methodLink RX11 285 yX11_worth, Cond.instanceMethod yX11_worth, Cond.selects RX11 yX11_worth yX11_worth, Cond.code yX11_worth cX11_worth 4 (some .int), Cond.fieldLink RX11 58 "ShipOfficeModel" "textSize" "[I", Cond.methodLink RX11 263 yX11_actOn, Cond.instanceMethod yX11_actOn, Cond.selects RX11 yX11_actOn yX11_actOn]
def wsX11_earns_r4 : List Cond := [Cond.code yX11_actOn cX11_actOn 5 (some .int), Cond.fieldLink RX11 256 "ShipOfficeModel" "acts" "I", Cond.fieldLink RX11 61 "ShipOfficeModel" "purpose" "[I", Cond.fieldLink RX11 64 "ShipOfficeModel" "from" "[I", Cond.methodLink RX11 259 yX11_goesThrough, Cond.instanceMethod yX11_goesThrough, Cond.selects RX11 yX11_goesThrough yX11_goesThrough, Cond.code yX11_goesThrough cX11_goesThrough 3 (some .int), Cond.fieldLink RX11 216 "ShipOfficeModel" "base" "I", Cond.fieldLink RX11 213 "ShipOfficeModel" "size" "I", Cond.fieldLink RX11 210 "ShipOfficeModel" "at" "I", Cond.fieldLink RX11 244 "ShipOfficeModel" "deep" "I", Cond.fieldLink RX11 223 "ShipOfficeModel" "isWell" "Z", Cond.methodLink RX11 250 yX11_sum, Cond.instanceMethod yX11_sum, Cond.selects RX11 yX11_sum yX11_sum, Cond.code yX11_sum cX11_sum 4 (some .int), Cond.methodLink RX11 231 yX11_term, Cond.instanceMethod yX11_term, Cond.selects RX11 yX11_term yX11_term, Cond.methodLink RX11 227 yX11_sign, Cond.instanceMethod yX11_sign, Cond.selects RX11 yX11_sign yX11_sign, Cond.code yX11_sign cX11_sign 1 (some .int)]
def wsX11_earns_r5 : List Cond := [Cond.fieldLink RX11 125 "ShipOfficeModel" "tape" "[I", Cond.fieldLink RX11 67 "ShipOfficeModel" "text" "[I", Cond.methodLink RX11 234 yX11_held, Cond.static yX11_held, Cond.code yX11_held cX11_held 2 (some .int), Cond.constantLong RX11 219 (1000000000), Cond.constantLong RX11 221 (-1000000000), Cond.code yX11_term cX11_term 4 (some .int), Cond.methodLink RX11 238 yX11_unit, Cond.instanceMethod yX11_unit, Cond.selects RX11 yX11_unit yX11_unit, Cond.code yX11_unit cX11_unit 5 (some .int), Cond.methodLink RX11 241 yX11_isLetter, Cond.static yX11_isLetter, Cond.code yX11_isLetter cX11_isLetter 1 (some .boolean), Cond.methodLink RX11 247 yX11_breaks, Cond.instanceMethod yX11_breaks, Cond.selects RX11 yX11_breaks yX11_breaks, Cond.code yX11_breaks cX11_breaks 1 (some .int), Cond.methodLink RX11 253 yX11_takes, Cond.instanceMethod yX11_takes, Cond.selects RX11 yX11_takes yX11_takes, Cond.code yX11_takes cX11_takes 2 (some .boolean)]
def wsX11_earns : List Cond := .code yX11_earns cX11_earns 5 (some .int) :: ((wsX11_earns_r1 ++ (wsX11_earns_r2 ++ (wsX11_earns_r3 ++ (wsX11_earns_r4 ++ wsX11_earns_r5)))) ++ wsX110)
def wsX11_advance_r1 : List Cond := [Cond.fieldLink RX11 91 "ShipOfficeModel" "note" "[I", Cond.fieldLink RX11 171 "ShipOfficeModel" "now" "I", Cond.constant RX11 178 (99999), Cond.methodLink RX11 199 yX11_isAgreement, Cond.instanceMethod yX11_isAgreement, Cond.selects RX11 yX11_isAgreement yX11_isAgreement, Cond.initialized RX11, Cond.code yX11_isAgreement cX11_isAgreement 2 (some .boolean), Cond.fieldLink RX11 168 "ShipOfficeModel" "agreements" "I", Cond.methodLink RX11 161 yX11_isIn, Cond.static yX11_isIn, Cond.code yX11_isIn cX11_isIn 2 (some .boolean), Cond.methodLink RX11 153 yX11_refuse, Cond.instanceMethod yX11_refuse, Cond.selects RX11 yX11_refuse yX11_refuse, Cond.code yX11_refuse cX11_refuse 2 (some .int), Cond.fieldLink RX11 7 "ShipOfficeModel" "refusals" "[I", Cond.methodLink RX11 266 yX11_stateOf, Cond.instanceMethod yX11_stateOf, Cond.selects RX11 yX11_stateOf yX11_stateOf, Cond.code yX11_stateOf cX11_stateOf 5 (some .int), Cond.fieldLink RX11 85 "ShipOfficeModel" "signed" "[I", Cond.fieldLink RX11 88 "ShipOfficeModel" "offOn" "[I", Cond.fieldLink RX11 40 "ShipOfficeModel" "what" "[I"]
def wsX11_advance_r2 : List Cond := [Cond.fieldLink RX11 73 "ShipOfficeModel" "voyage" "[I", Cond.methodLink RX11 288 yX11_isDead, Cond.instanceMethod yX11_isDead, Cond.selects RX11 yX11_isDead yX11_isDead, Cond.code yX11_isDead cX11_isDead 5 (some .boolean), Cond.fieldLink RX11 179 "ShipOfficeModel" "happened" "I", Cond.fieldLink RX11 43 "ShipOfficeModel" "whose" "[I", Cond.fieldLink RX11 49 "ShipOfficeModel" "known" "[I", Cond.fieldLink RX11 46 "ShipOfficeModel" "day" "[I", Cond.methodLink RX11 291 yX11_whereOf, Cond.instanceMethod yX11_whereOf, Cond.selects RX11 yX11_whereOf yX11_whereOf, Cond.code yX11_whereOf cX11_whereOf 6 (some .int), Cond.methodLink RX11 281 yX11_hasSailed, Cond.instanceMethod yX11_hasSailed, Cond.selects RX11 yX11_hasSailed yX11_hasSailed, Cond.code yX11_hasSailed cX11_hasSailed 5 (some .boolean), Cond.methodLink RX11 278 yX11_sailedOn, Cond.instanceMethod yX11_sailedOn, Cond.selects RX11 yX11_sailedOn yX11_sailedOn, Cond.code yX11_sailedOn cX11_sailedOn 4 (some .int), Cond.methodLink RX11 294 yX11_isUnknown, Cond.instanceMethod yX11_isUnknown, Cond.selects RX11 yX11_isUnknown yX11_isUnknown]
def wsX11_advance_r3 : List Cond := [Cond.code yX11_isUnknown cX11_isUnknown 4 (some .boolean), Cond.methodLink RX11 275 yX11_bare, Cond.instanceMethod yX11_bare, Cond.selects RX11 yX11_bare yX11_bare, Cond.code yX11_bare cX11_bare 2 none, Cond.fieldLink RX11 128 "ShipOfficeModel" "letters" "[I", Cond.methodLink RX11 272 yX11_lastHeard, Cond.instanceMethod yX11_lastHeard, Cond.selects RX11 yX11_lastHeard yX11_lastHeard, Cond.code yX11_lastHeard cX11_lastHeard 6 (some .int), Cond.methodLink RX11 285 yX11_worth, Cond.instanceMethod yX11_worth, Cond.selects RX11 yX11_worth yX11_worth, Cond.code yX11_worth cX11_worth 4 (some .int), Cond.fieldLink RX11 58 "ShipOfficeModel" "textSize" "[I", Cond.methodLink RX11 263 yX11_actOn, Cond.instanceMethod yX11_actOn, Cond.selects RX11 yX11_actOn yX11_actOn, Cond.code yX11_actOn cX11_actOn 5 (some .int), Cond.fieldLink RX11 256 "ShipOfficeModel" "acts" "I", Cond.fieldLink RX11 61 "ShipOfficeModel" "purpose" "[I", Cond.fieldLink RX11 64 "ShipOfficeModel" "from" "[I", Cond.methodLink RX11 259 yX11_goesThrough, Cond.instanceMethod yX11_goesThrough]
def wsX11_advance_r4 : List Cond := [Cond.selects RX11 yX11_goesThrough yX11_goesThrough, Cond.code yX11_goesThrough cX11_goesThrough 3 (some .int), Cond.fieldLink RX11 216 "ShipOfficeModel" "base" "I", Cond.fieldLink RX11 213 "ShipOfficeModel" "size" "I", Cond.fieldLink RX11 210 "ShipOfficeModel" "at" "I", Cond.fieldLink RX11 244 "ShipOfficeModel" "deep" "I", Cond.fieldLink RX11 223 "ShipOfficeModel" "isWell" "Z", Cond.methodLink RX11 250 yX11_sum, Cond.instanceMethod yX11_sum, Cond.selects RX11 yX11_sum yX11_sum, Cond.code yX11_sum cX11_sum 4 (some .int), Cond.methodLink RX11 231 yX11_term, Cond.instanceMethod yX11_term, Cond.selects RX11 yX11_term yX11_term, Cond.methodLink RX11 227 yX11_sign, Cond.instanceMethod yX11_sign, Cond.selects RX11 yX11_sign yX11_sign, Cond.code yX11_sign cX11_sign 1 (some .int), Cond.fieldLink RX11 125 "ShipOfficeModel" "tape" "[I", Cond.fieldLink RX11 67 "ShipOfficeModel" "text" "[I", Cond.methodLink RX11 234 yX11_held, Cond.static yX11_held, Cond.code yX11_held cX11_held 2 (some .int), Cond.constantLong RX11 219 (1000000000)]
def wsX11_advance_r5 : List Cond := [Cond.constantLong RX11 221 (-1000000000), Cond.code yX11_term cX11_term 4 (some .int), Cond.methodLink RX11 238 yX11_unit, Cond.instanceMethod yX11_unit, Cond.selects RX11 yX11_unit yX11_unit, Cond.code yX11_unit cX11_unit 5 (some .int), Cond.methodLink RX11 241 yX11_isLetter, Cond.static yX11_isLetter, Cond.code yX11_isLetter cX11_isLetter 1 (some .boolean), Cond.methodLink RX11 247 yX11_breaks, Cond.instanceMethod yX11_breaks, Cond.selects RX11 yX11_breaks yX11_breaks, Cond.code yX11_breaks cX11_breaks 1 (some .int), Cond.methodLink RX11 253 yX11_takes, Cond.instanceMethod yX11_takes, Cond.selects RX11 yX11_takes yX11_takes, Cond.code yX11_takes cX11_takes 2 (some .boolean)]
def wsX11_advance : List Cond := .code yX11_advance cX11_advance 3 (some .int) :: ((wsX11_advance_r1 ++ (wsX11_advance_r2 ++ (wsX11_advance_r3 ++ (wsX11_advance_r4 ++ wsX11_advance_r5)))) ++ wsX110)
def wsX11_sold : List Cond := .code yX11_sold cX11_sold 3 (some .int) :: ([.fieldLink RX11 91 "ShipOfficeModel" "note" "[I", .fieldLink RX11 94 "ShipOfficeModel" "given" "[I", .methodLink RX11 199 yX11_isAgreement, .instanceMethod yX11_isAgreement, .selects RX11 yX11_isAgreement yX11_isAgreement, .initialized RX11, .code yX11_isAgreement cX11_isAgreement 2 (some .boolean), .fieldLink RX11 168 "ShipOfficeModel" "agreements" "I", .methodLink RX11 161 yX11_isIn, .static yX11_isIn, .code yX11_isIn cX11_isIn 2 (some .boolean), .methodLink RX11 153 yX11_refuse, .instanceMethod yX11_refuse, .selects RX11 yX11_refuse yX11_refuse, .code yX11_refuse cX11_refuse 2 (some .int), .fieldLink RX11 7 "ShipOfficeModel" "refusals" "[I"] ++ wsX110)
def wsX11_allot_r1 : List Cond := [Cond.fieldLink RX11 97 "ShipOfficeModel" "allotted" "[I", Cond.fieldLink RX11 171 "ShipOfficeModel" "now" "I", Cond.fieldLink RX11 76 "ShipOfficeModel" "wage" "[I", Cond.constantLong RX11 310 (100), Cond.methodLink RX11 199 yX11_isAgreement, Cond.instanceMethod yX11_isAgreement, Cond.selects RX11 yX11_isAgreement yX11_isAgreement, Cond.initialized RX11, Cond.code yX11_isAgreement cX11_isAgreement 2 (some .boolean), Cond.fieldLink RX11 168 "ShipOfficeModel" "agreements" "I", Cond.methodLink RX11 161 yX11_isIn, Cond.static yX11_isIn, Cond.code yX11_isIn cX11_isIn 2 (some .boolean), Cond.methodLink RX11 153 yX11_refuse, Cond.instanceMethod yX11_refuse, Cond.selects RX11 yX11_refuse yX11_refuse, Cond.code yX11_refuse cX11_refuse 2 (some .int), Cond.fieldLink RX11 7 "ShipOfficeModel" "refusals" "[I", Cond.methodLink RX11 188 yX11_goesOn, Cond.instanceMethod yX11_goesOn, Cond.selects RX11 yX11_goesOn yX11_goesOn, Cond.code yX11_goesOn cX11_goesOn 2 (some .boolean), Cond.fieldLink RX11 88 "ShipOfficeModel" "offOn" "[I", Cond.fieldLink RX11 73 "ShipOfficeModel" "voyage" "[I"]
def wsX11_allot_r2 : List Cond := [Cond.methodLink RX11 182 yX11_wasTold, Cond.instanceMethod yX11_wasTold, Cond.selects RX11 yX11_wasTold yX11_wasTold, Cond.code yX11_wasTold cX11_wasTold 4 (some .boolean), Cond.fieldLink RX11 179 "ShipOfficeModel" "happened" "I", Cond.fieldLink RX11 40 "ShipOfficeModel" "what" "[I", Cond.fieldLink RX11 43 "ShipOfficeModel" "whose" "[I", Cond.methodLink RX11 306 yX11_puts, Cond.instanceMethod yX11_puts, Cond.selects RX11 yX11_puts yX11_puts, Cond.code yX11_puts cX11_puts 9 none, Cond.fieldLink RX11 85 "ShipOfficeModel" "signed" "[I", Cond.fieldLink RX11 128 "ShipOfficeModel" "letters" "[I", Cond.fieldLink RX11 79 "ShipOfficeModel" "rank" "[I", Cond.fieldLink RX11 22 "ShipOfficeModel" "born" "[I", Cond.fieldLink RX11 70 "ShipOfficeModel" "man" "[I", Cond.methodLink RX11 266 yX11_stateOf, Cond.instanceMethod yX11_stateOf, Cond.selects RX11 yX11_stateOf yX11_stateOf, Cond.code yX11_stateOf cX11_stateOf 5 (some .int), Cond.methodLink RX11 288 yX11_isDead, Cond.instanceMethod yX11_isDead, Cond.selects RX11 yX11_isDead yX11_isDead, Cond.code yX11_isDead cX11_isDead 5 (some .boolean)]
def wsX11_allot_r3 : List Cond := [Cond.fieldLink RX11 49 "ShipOfficeModel" "known" "[I", Cond.fieldLink RX11 46 "ShipOfficeModel" "day" "[I", Cond.methodLink RX11 291 yX11_whereOf, Cond.instanceMethod yX11_whereOf, Cond.selects RX11 yX11_whereOf yX11_whereOf, Cond.code yX11_whereOf cX11_whereOf 6 (some .int), Cond.methodLink RX11 281 yX11_hasSailed, Cond.instanceMethod yX11_hasSailed, Cond.selects RX11 yX11_hasSailed yX11_hasSailed, Cond.code yX11_hasSailed cX11_hasSailed 5 (some .boolean), Cond.methodLink RX11 278 yX11_sailedOn, Cond.instanceMethod yX11_sailedOn, Cond.selects RX11 yX11_sailedOn yX11_sailedOn, Cond.code yX11_sailedOn cX11_sailedOn 4 (some .int), Cond.methodLink RX11 294 yX11_isUnknown, Cond.instanceMethod yX11_isUnknown, Cond.selects RX11 yX11_isUnknown yX11_isUnknown, Cond.code yX11_isUnknown cX11_isUnknown 4 (some .boolean), Cond.methodLink RX11 275 yX11_bare, Cond.instanceMethod yX11_bare, Cond.selects RX11 yX11_bare yX11_bare, Cond.code yX11_bare cX11_bare 2 none, Cond.methodLink RX11 272 yX11_lastHeard, Cond.instanceMethod yX11_lastHeard]
def wsX11_allot_r4 : List Cond := [Cond.selects RX11 yX11_lastHeard yX11_lastHeard, Cond.code yX11_lastHeard cX11_lastHeard 6 (some .int), Cond.methodLink RX11 285 yX11_worth, Cond.instanceMethod yX11_worth, Cond.selects RX11 yX11_worth yX11_worth, Cond.code yX11_worth cX11_worth 4 (some .int), Cond.fieldLink RX11 58 "ShipOfficeModel" "textSize" "[I", Cond.methodLink RX11 263 yX11_actOn, Cond.instanceMethod yX11_actOn, Cond.selects RX11 yX11_actOn yX11_actOn, Cond.code yX11_actOn cX11_actOn 5 (some .int), Cond.fieldLink RX11 256 "ShipOfficeModel" "acts" "I", Cond.fieldLink RX11 61 "ShipOfficeModel" "purpose" "[I", Cond.fieldLink RX11 64 "ShipOfficeModel" "from" "[I", Cond.methodLink RX11 259 yX11_goesThrough, Cond.instanceMethod yX11_goesThrough, Cond.selects RX11 yX11_goesThrough yX11_goesThrough, Cond.code yX11_goesThrough cX11_goesThrough 3 (some .int), Cond.fieldLink RX11 216 "ShipOfficeModel" "base" "I", Cond.fieldLink RX11 213 "ShipOfficeModel" "size" "I", Cond.fieldLink RX11 210 "ShipOfficeModel" "at" "I", Cond.fieldLink RX11 244 "ShipOfficeModel" "deep" "I", Cond.fieldLink RX11 223 "ShipOfficeModel" "isWell" "Z", Cond.methodLink RX11 250 yX11_sum]
def wsX11_allot_r5 : List Cond := [Cond.instanceMethod yX11_sum, Cond.selects RX11 yX11_sum yX11_sum, Cond.code yX11_sum cX11_sum 4 (some .int), Cond.methodLink RX11 231 yX11_term, Cond.instanceMethod yX11_term, Cond.selects RX11 yX11_term yX11_term, Cond.methodLink RX11 227 yX11_sign, Cond.instanceMethod yX11_sign, Cond.selects RX11 yX11_sign yX11_sign, Cond.code yX11_sign cX11_sign 1 (some .int), Cond.fieldLink RX11 125 "ShipOfficeModel" "tape" "[I", Cond.fieldLink RX11 67 "ShipOfficeModel" "text" "[I", Cond.methodLink RX11 234 yX11_held, Cond.static yX11_held, Cond.code yX11_held cX11_held 2 (some .int), Cond.constantLong RX11 219 (1000000000), Cond.constantLong RX11 221 (-1000000000), Cond.code yX11_term cX11_term 4 (some .int), Cond.methodLink RX11 238 yX11_unit, Cond.instanceMethod yX11_unit, Cond.selects RX11 yX11_unit yX11_unit, Cond.code yX11_unit cX11_unit 5 (some .int), Cond.methodLink RX11 241 yX11_isLetter, Cond.static yX11_isLetter]
def wsX11_allot_r6 : List Cond := [Cond.code yX11_isLetter cX11_isLetter 1 (some .boolean), Cond.methodLink RX11 247 yX11_breaks, Cond.instanceMethod yX11_breaks, Cond.selects RX11 yX11_breaks yX11_breaks, Cond.code yX11_breaks cX11_breaks 1 (some .int), Cond.methodLink RX11 253 yX11_takes, Cond.instanceMethod yX11_takes, Cond.selects RX11 yX11_takes yX11_takes, Cond.code yX11_takes cX11_takes 2 (some .boolean), Cond.methodLink RX11 269 yX11_aboardOf, Cond.instanceMethod yX11_aboardOf, Cond.selects RX11 yX11_aboardOf yX11_aboardOf, Cond.code yX11_aboardOf cX11_aboardOf 6 (some .int)]
def wsX11_allot : List Cond := .code yX11_allot cX11_allot 3 (some .int) :: ((wsX11_allot_r1 ++ (wsX11_allot_r2 ++ (wsX11_allot_r3 ++ (wsX11_allot_r4 ++ (wsX11_allot_r5 ++ wsX11_allot_r6))))) ++ wsX110)
def wsX11_fine : List Cond := .code yX11_fine cX11_fine 6 (some .int) :: ([.fieldLink RX11 88 "ShipOfficeModel" "offOn" "[I", .fieldLink RX11 85 "ShipOfficeModel" "signed" "[I", .fieldLink RX11 171 "ShipOfficeModel" "now" "I", .fieldLink RX11 100 "ShipOfficeModel" "fines" "[I", .fieldLink RX11 109 "ShipOfficeModel" "fineDay" "[I", .fieldLink RX11 112 "ShipOfficeModel" "fineSum" "[I", .fieldLink RX11 121 "ShipOfficeModel" "isRead" "[Z", .methodLink RX11 199 yX11_isAgreement, .instanceMethod yX11_isAgreement, .selects RX11 yX11_isAgreement yX11_isAgreement, .initialized RX11, .code yX11_isAgreement cX11_isAgreement 2 (some .boolean), .fieldLink RX11 168 "ShipOfficeModel" "agreements" "I", .methodLink RX11 161 yX11_isIn, .static yX11_isIn, .code yX11_isIn cX11_isIn 2 (some .boolean), .methodLink RX11 153 yX11_refuse, .instanceMethod yX11_refuse, .selects RX11 yX11_refuse yX11_refuse, .code yX11_refuse cX11_refuse 2 (some .int), .fieldLink RX11 7 "ShipOfficeModel" "refusals" "[I"] ++ wsX110)
def wsX11_isFine : List Cond := .code yX11_isFine cX11_isFine 3 (some .boolean) :: ([.fieldLink RX11 100 "ShipOfficeModel" "fines" "[I", .methodLink RX11 199 yX11_isAgreement, .instanceMethod yX11_isAgreement, .selects RX11 yX11_isAgreement yX11_isAgreement, .initialized RX11, .code yX11_isAgreement cX11_isAgreement 2 (some .boolean), .fieldLink RX11 168 "ShipOfficeModel" "agreements" "I", .methodLink RX11 161 yX11_isIn, .static yX11_isIn, .code yX11_isIn cX11_isIn 2 (some .boolean)] ++ wsX110)
def wsX11_read : List Cond := .code yX11_read cX11_read 3 (some .int) :: ([.fieldLink RX11 121 "ShipOfficeModel" "isRead" "[Z", .fieldLink RX11 109 "ShipOfficeModel" "fineDay" "[I", .fieldLink RX11 171 "ShipOfficeModel" "now" "I", .methodLink RX11 312 yX11_isFine, .instanceMethod yX11_isFine, .selects RX11 yX11_isFine yX11_isFine, .initialized RX11, .code yX11_isFine cX11_isFine 3 (some .boolean), .fieldLink RX11 100 "ShipOfficeModel" "fines" "[I", .methodLink RX11 199 yX11_isAgreement, .instanceMethod yX11_isAgreement, .selects RX11 yX11_isAgreement yX11_isAgreement, .code yX11_isAgreement cX11_isAgreement 2 (some .boolean), .fieldLink RX11 168 "ShipOfficeModel" "agreements" "I", .methodLink RX11 161 yX11_isIn, .static yX11_isIn, .code yX11_isIn cX11_isIn 2 (some .boolean), .methodLink RX11 153 yX11_refuse, .instanceMethod yX11_refuse, .selects RX11 yX11_refuse yX11_refuse, .code yX11_refuse cX11_refuse 2 (some .int), .fieldLink RX11 7 "ShipOfficeModel" "refusals" "[I"] ++ wsX110)
def wsX11_stands_r1 : List Cond := [Cond.fieldLink RX11 171 "ShipOfficeModel" "now" "I", Cond.methodLink RX11 312 yX11_isFine, Cond.instanceMethod yX11_isFine, Cond.selects RX11 yX11_isFine yX11_isFine, Cond.initialized RX11, Cond.code yX11_isFine cX11_isFine 3 (some .boolean), Cond.fieldLink RX11 100 "ShipOfficeModel" "fines" "[I", Cond.methodLink RX11 199 yX11_isAgreement, Cond.instanceMethod yX11_isAgreement, Cond.selects RX11 yX11_isAgreement yX11_isAgreement, Cond.code yX11_isAgreement cX11_isAgreement 2 (some .boolean), Cond.fieldLink RX11 168 "ShipOfficeModel" "agreements" "I", Cond.methodLink RX11 161 yX11_isIn, Cond.static yX11_isIn, Cond.code yX11_isIn cX11_isIn 2 (some .boolean), Cond.methodLink RX11 153 yX11_refuse, Cond.instanceMethod yX11_refuse, Cond.selects RX11 yX11_refuse yX11_refuse, Cond.code yX11_refuse cX11_refuse 2 (some .int), Cond.fieldLink RX11 7 "ShipOfficeModel" "refusals" "[I", Cond.methodLink RX11 315 yX11_standsOf, Cond.instanceMethod yX11_standsOf, Cond.selects RX11 yX11_standsOf yX11_standsOf, Cond.code yX11_standsOf cX11_standsOf 6 (some .int)]
def wsX11_stands_r2 : List Cond := [Cond.fieldLink RX11 109 "ShipOfficeModel" "fineDay" "[I", Cond.fieldLink RX11 112 "ShipOfficeModel" "fineSum" "[I", Cond.fieldLink RX11 121 "ShipOfficeModel" "isRead" "[Z", Cond.methodLink RX11 306 yX11_puts, Cond.instanceMethod yX11_puts, Cond.selects RX11 yX11_puts yX11_puts, Cond.code yX11_puts cX11_puts 9 none, Cond.fieldLink RX11 85 "ShipOfficeModel" "signed" "[I", Cond.fieldLink RX11 73 "ShipOfficeModel" "voyage" "[I", Cond.fieldLink RX11 128 "ShipOfficeModel" "letters" "[I", Cond.fieldLink RX11 76 "ShipOfficeModel" "wage" "[I", Cond.fieldLink RX11 79 "ShipOfficeModel" "rank" "[I", Cond.fieldLink RX11 22 "ShipOfficeModel" "born" "[I", Cond.fieldLink RX11 70 "ShipOfficeModel" "man" "[I", Cond.methodLink RX11 266 yX11_stateOf, Cond.instanceMethod yX11_stateOf, Cond.selects RX11 yX11_stateOf yX11_stateOf, Cond.code yX11_stateOf cX11_stateOf 5 (some .int), Cond.fieldLink RX11 88 "ShipOfficeModel" "offOn" "[I", Cond.fieldLink RX11 40 "ShipOfficeModel" "what" "[I", Cond.methodLink RX11 288 yX11_isDead, Cond.instanceMethod yX11_isDead, Cond.selects RX11 yX11_isDead yX11_isDead, Cond.code yX11_isDead cX11_isDead 5 (some .boolean)]
def wsX11_stands_r3 : List Cond := [Cond.fieldLink RX11 179 "ShipOfficeModel" "happened" "I", Cond.fieldLink RX11 43 "ShipOfficeModel" "whose" "[I", Cond.fieldLink RX11 49 "ShipOfficeModel" "known" "[I", Cond.fieldLink RX11 46 "ShipOfficeModel" "day" "[I", Cond.methodLink RX11 291 yX11_whereOf, Cond.instanceMethod yX11_whereOf, Cond.selects RX11 yX11_whereOf yX11_whereOf, Cond.code yX11_whereOf cX11_whereOf 6 (some .int), Cond.methodLink RX11 281 yX11_hasSailed, Cond.instanceMethod yX11_hasSailed, Cond.selects RX11 yX11_hasSailed yX11_hasSailed, Cond.code yX11_hasSailed cX11_hasSailed 5 (some .boolean), Cond.methodLink RX11 278 yX11_sailedOn, Cond.instanceMethod yX11_sailedOn, Cond.selects RX11 yX11_sailedOn yX11_sailedOn, Cond.code yX11_sailedOn cX11_sailedOn 4 (some .int), Cond.methodLink RX11 294 yX11_isUnknown, Cond.instanceMethod yX11_isUnknown, Cond.selects RX11 yX11_isUnknown yX11_isUnknown, Cond.code yX11_isUnknown cX11_isUnknown 4 (some .boolean), Cond.methodLink RX11 275 yX11_bare, Cond.instanceMethod yX11_bare, Cond.selects RX11 yX11_bare yX11_bare, Cond.code yX11_bare cX11_bare 2 none]
def wsX11_stands_r4 : List Cond := [Cond.methodLink RX11 272 yX11_lastHeard, Cond.instanceMethod yX11_lastHeard, Cond.selects RX11 yX11_lastHeard yX11_lastHeard, Cond.code yX11_lastHeard cX11_lastHeard 6 (some .int), Cond.methodLink RX11 285 yX11_worth, Cond.instanceMethod yX11_worth, Cond.selects RX11 yX11_worth yX11_worth, Cond.code yX11_worth cX11_worth 4 (some .int), Cond.fieldLink RX11 58 "ShipOfficeModel" "textSize" "[I", Cond.methodLink RX11 263 yX11_actOn, Cond.instanceMethod yX11_actOn, Cond.selects RX11 yX11_actOn yX11_actOn, Cond.code yX11_actOn cX11_actOn 5 (some .int), Cond.fieldLink RX11 256 "ShipOfficeModel" "acts" "I", Cond.fieldLink RX11 61 "ShipOfficeModel" "purpose" "[I", Cond.fieldLink RX11 64 "ShipOfficeModel" "from" "[I", Cond.methodLink RX11 259 yX11_goesThrough, Cond.instanceMethod yX11_goesThrough, Cond.selects RX11 yX11_goesThrough yX11_goesThrough, Cond.code yX11_goesThrough cX11_goesThrough 3 (some .int), Cond.fieldLink RX11 216 "ShipOfficeModel" "base" "I", Cond.fieldLink RX11 213 "ShipOfficeModel" "size" "I", Cond.fieldLink RX11 210 "ShipOfficeModel" "at" "I", Cond.fieldLink RX11 244 "ShipOfficeModel" "deep" "I"]
def wsX11_stands_r5 : List Cond := [Cond.fieldLink RX11 223 "ShipOfficeModel" "isWell" "Z", Cond.methodLink RX11 250 yX11_sum, Cond.instanceMethod yX11_sum, Cond.selects RX11 yX11_sum yX11_sum, Cond.code yX11_sum cX11_sum 4 (some .int), Cond.methodLink RX11 231 yX11_term, Cond.instanceMethod yX11_term, Cond.selects RX11 yX11_term yX11_term, Cond.methodLink RX11 227 yX11_sign, Cond.instanceMethod yX11_sign, Cond.selects RX11 yX11_sign yX11_sign, Cond.code yX11_sign cX11_sign 1 (some .int), Cond.fieldLink RX11 125 "ShipOfficeModel" "tape" "[I", Cond.fieldLink RX11 67 "ShipOfficeModel" "text" "[I", Cond.methodLink RX11 234 yX11_held, Cond.static yX11_held, Cond.code yX11_held cX11_held 2 (some .int), Cond.constantLong RX11 219 (1000000000), Cond.constantLong RX11 221 (-1000000000), Cond.code yX11_term cX11_term 4 (some .int), Cond.methodLink RX11 238 yX11_unit, Cond.instanceMethod yX11_unit, Cond.selects RX11 yX11_unit yX11_unit, Cond.code yX11_unit cX11_unit 5 (some .int)]
def wsX11_stands_r6 : List Cond := [Cond.methodLink RX11 241 yX11_isLetter, Cond.static yX11_isLetter, Cond.code yX11_isLetter cX11_isLetter 1 (some .boolean), Cond.methodLink RX11 247 yX11_breaks, Cond.instanceMethod yX11_breaks, Cond.selects RX11 yX11_breaks yX11_breaks, Cond.code yX11_breaks cX11_breaks 1 (some .int), Cond.methodLink RX11 253 yX11_takes, Cond.instanceMethod yX11_takes, Cond.selects RX11 yX11_takes yX11_takes, Cond.code yX11_takes cX11_takes 2 (some .boolean), Cond.methodLink RX11 269 yX11_aboardOf, Cond.instanceMethod yX11_aboardOf, Cond.selects RX11 yX11_aboardOf yX11_aboardOf, Cond.code yX11_aboardOf cX11_aboardOf 6 (some .int)]
def wsX11_stands : List Cond := .code yX11_stands cX11_stands 4 (some .int) :: ((wsX11_stands_r1 ++ (wsX11_stands_r2 ++ (wsX11_stands_r3 ++ (wsX11_stands_r4 ++ (wsX11_stands_r5 ++ wsX11_stands_r6))))) ++ wsX110)
def wsX11_rations : List Cond := .code yX11_rations cX11_rations 5 (some .int) :: ([.fieldLink RX11 106 "ShipOfficeModel" "shortDays" "[I", .fieldLink RX11 103 "ShipOfficeModel" "shorts" "[I", .fieldLink RX11 115 "ShipOfficeModel" "shortOn" "[I", .fieldLink RX11 171 "ShipOfficeModel" "now" "I", .fieldLink RX11 118 "ShipOfficeModel" "shortSum" "[I", .methodLink RX11 199 yX11_isAgreement, .instanceMethod yX11_isAgreement, .selects RX11 yX11_isAgreement yX11_isAgreement, .initialized RX11, .code yX11_isAgreement cX11_isAgreement 2 (some .boolean), .fieldLink RX11 168 "ShipOfficeModel" "agreements" "I", .methodLink RX11 161 yX11_isIn, .static yX11_isIn, .code yX11_isIn cX11_isIn 2 (some .boolean), .methodLink RX11 153 yX11_refuse, .instanceMethod yX11_refuse, .selects RX11 yX11_refuse yX11_refuse, .code yX11_refuse cX11_refuse 2 (some .int), .fieldLink RX11 7 "ShipOfficeModel" "refusals" "[I"] ++ wsX110)
def wsX11_owed_r1 : List Cond := [Cond.methodLink RX11 199 yX11_isAgreement, Cond.instanceMethod yX11_isAgreement, Cond.selects RX11 yX11_isAgreement yX11_isAgreement, Cond.initialized RX11, Cond.code yX11_isAgreement cX11_isAgreement 2 (some .boolean), Cond.fieldLink RX11 168 "ShipOfficeModel" "agreements" "I", Cond.methodLink RX11 161 yX11_isIn, Cond.static yX11_isIn, Cond.code yX11_isIn cX11_isIn 2 (some .boolean), Cond.methodLink RX11 300 yX11_wrongTimes, Cond.instanceMethod yX11_wrongTimes, Cond.selects RX11 yX11_wrongTimes yX11_wrongTimes, Cond.code yX11_wrongTimes cX11_wrongTimes 3 (some .int), Cond.fieldLink RX11 171 "ShipOfficeModel" "now" "I", Cond.methodLink RX11 320 yX11_refuseFar, Cond.instanceMethod yX11_refuseFar, Cond.selects RX11 yX11_refuseFar yX11_refuseFar, Cond.code yX11_refuseFar cX11_refuseFar 2 (some .int), Cond.constant RX11 152 (1000000000), Cond.methodLink RX11 153 yX11_refuse, Cond.instanceMethod yX11_refuse, Cond.selects RX11 yX11_refuse yX11_refuse, Cond.code yX11_refuse cX11_refuse 2 (some .int), Cond.fieldLink RX11 7 "ShipOfficeModel" "refusals" "[I"]
def wsX11_owed_r2 : List Cond := [Cond.methodLink RX11 323 yX11_owedOf, Cond.instanceMethod yX11_owedOf, Cond.selects RX11 yX11_owedOf yX11_owedOf, Cond.code yX11_owedOf cX11_owedOf 8 (some .int), Cond.fieldLink RX11 85 "ShipOfficeModel" "signed" "[I", Cond.fieldLink RX11 76 "ShipOfficeModel" "wage" "[I", Cond.constantLong RX11 318 (30), Cond.fieldLink RX11 73 "ShipOfficeModel" "voyage" "[I", Cond.fieldLink RX11 91 "ShipOfficeModel" "note" "[I", Cond.fieldLink RX11 97 "ShipOfficeModel" "allotted" "[I", Cond.fieldLink RX11 100 "ShipOfficeModel" "fines" "[I", Cond.fieldLink RX11 109 "ShipOfficeModel" "fineDay" "[I", Cond.fieldLink RX11 103 "ShipOfficeModel" "shorts" "[I", Cond.fieldLink RX11 115 "ShipOfficeModel" "shortOn" "[I", Cond.fieldLink RX11 118 "ShipOfficeModel" "shortSum" "[I", Cond.fieldLink RX11 52 "ShipOfficeModel" "way" "[I", Cond.constantLong RX11 310 (100), Cond.methodLink RX11 303 yX11_earnsOf, Cond.instanceMethod yX11_earnsOf, Cond.selects RX11 yX11_earnsOf yX11_earnsOf, Cond.code yX11_earnsOf cX11_earnsOf 7 (some .int), Cond.methodLink RX11 266 yX11_stateOf, Cond.instanceMethod yX11_stateOf, Cond.selects RX11 yX11_stateOf yX11_stateOf]
def wsX11_owed_r3 : List Cond := [Cond.code yX11_stateOf cX11_stateOf 5 (some .int), Cond.fieldLink RX11 88 "ShipOfficeModel" "offOn" "[I", Cond.fieldLink RX11 40 "ShipOfficeModel" "what" "[I", Cond.methodLink RX11 288 yX11_isDead, Cond.instanceMethod yX11_isDead, Cond.selects RX11 yX11_isDead yX11_isDead, Cond.code yX11_isDead cX11_isDead 5 (some .boolean), Cond.fieldLink RX11 179 "ShipOfficeModel" "happened" "I", Cond.fieldLink RX11 43 "ShipOfficeModel" "whose" "[I", Cond.fieldLink RX11 49 "ShipOfficeModel" "known" "[I", Cond.fieldLink RX11 46 "ShipOfficeModel" "day" "[I", Cond.methodLink RX11 291 yX11_whereOf, Cond.instanceMethod yX11_whereOf, Cond.selects RX11 yX11_whereOf yX11_whereOf, Cond.code yX11_whereOf cX11_whereOf 6 (some .int), Cond.methodLink RX11 281 yX11_hasSailed, Cond.instanceMethod yX11_hasSailed, Cond.selects RX11 yX11_hasSailed yX11_hasSailed, Cond.code yX11_hasSailed cX11_hasSailed 5 (some .boolean), Cond.methodLink RX11 278 yX11_sailedOn, Cond.instanceMethod yX11_sailedOn, Cond.selects RX11 yX11_sailedOn yX11_sailedOn, Cond.code yX11_sailedOn cX11_sailedOn 4 (some .int), Cond.methodLink RX11 294 yX11_isUnknown]
def wsX11_owed_r4 : List Cond := [Cond.instanceMethod yX11_isUnknown, Cond.selects RX11 yX11_isUnknown yX11_isUnknown, Cond.code yX11_isUnknown cX11_isUnknown 4 (some .boolean), Cond.methodLink RX11 275 yX11_bare, Cond.instanceMethod yX11_bare, Cond.selects RX11 yX11_bare yX11_bare, Cond.code yX11_bare cX11_bare 2 none, Cond.fieldLink RX11 128 "ShipOfficeModel" "letters" "[I", Cond.methodLink RX11 272 yX11_lastHeard, Cond.instanceMethod yX11_lastHeard, Cond.selects RX11 yX11_lastHeard yX11_lastHeard, Cond.code yX11_lastHeard cX11_lastHeard 6 (some .int), Cond.methodLink RX11 285 yX11_worth, Cond.instanceMethod yX11_worth, Cond.selects RX11 yX11_worth yX11_worth, Cond.code yX11_worth cX11_worth 4 (some .int), Cond.fieldLink RX11 58 "ShipOfficeModel" "textSize" "[I", Cond.methodLink RX11 263 yX11_actOn, Cond.instanceMethod yX11_actOn, Cond.selects RX11 yX11_actOn yX11_actOn, Cond.code yX11_actOn cX11_actOn 5 (some .int), Cond.fieldLink RX11 256 "ShipOfficeModel" "acts" "I", Cond.fieldLink RX11 61 "ShipOfficeModel" "purpose" "[I", Cond.fieldLink RX11 64 "ShipOfficeModel" "from" "[I"]
def wsX11_owed_r5 : List Cond := [Cond.methodLink RX11 259 yX11_goesThrough, Cond.instanceMethod yX11_goesThrough, Cond.selects RX11 yX11_goesThrough yX11_goesThrough, Cond.code yX11_goesThrough cX11_goesThrough 3 (some .int), Cond.fieldLink RX11 216 "ShipOfficeModel" "base" "I", Cond.fieldLink RX11 213 "ShipOfficeModel" "size" "I", Cond.fieldLink RX11 210 "ShipOfficeModel" "at" "I", Cond.fieldLink RX11 244 "ShipOfficeModel" "deep" "I", Cond.fieldLink RX11 223 "ShipOfficeModel" "isWell" "Z", Cond.methodLink RX11 250 yX11_sum, Cond.instanceMethod yX11_sum, Cond.selects RX11 yX11_sum yX11_sum, Cond.code yX11_sum cX11_sum 4 (some .int), Cond.methodLink RX11 231 yX11_term, Cond.instanceMethod yX11_term, Cond.selects RX11 yX11_term yX11_term, Cond.methodLink RX11 227 yX11_sign, Cond.instanceMethod yX11_sign, Cond.selects RX11 yX11_sign yX11_sign, Cond.code yX11_sign cX11_sign 1 (some .int), Cond.fieldLink RX11 125 "ShipOfficeModel" "tape" "[I", Cond.fieldLink RX11 67 "ShipOfficeModel" "text" "[I", Cond.methodLink RX11 234 yX11_held, Cond.static yX11_held]
def wsX11_owed_r6 : List Cond := [Cond.code yX11_held cX11_held 2 (some .int), Cond.constantLong RX11 219 (1000000000), Cond.constantLong RX11 221 (-1000000000), Cond.code yX11_term cX11_term 4 (some .int), Cond.methodLink RX11 238 yX11_unit, Cond.instanceMethod yX11_unit, Cond.selects RX11 yX11_unit yX11_unit, Cond.code yX11_unit cX11_unit 5 (some .int), Cond.methodLink RX11 241 yX11_isLetter, Cond.static yX11_isLetter, Cond.code yX11_isLetter cX11_isLetter 1 (some .boolean), Cond.methodLink RX11 247 yX11_breaks, Cond.instanceMethod yX11_breaks, Cond.selects RX11 yX11_breaks yX11_breaks, Cond.code yX11_breaks cX11_breaks 1 (some .int), Cond.methodLink RX11 253 yX11_takes, Cond.instanceMethod yX11_takes, Cond.selects RX11 yX11_takes yX11_takes, Cond.code yX11_takes cX11_takes 2 (some .boolean), Cond.methodLink RX11 315 yX11_standsOf, Cond.instanceMethod yX11_standsOf, Cond.selects RX11 yX11_standsOf yX11_standsOf, Cond.code yX11_standsOf cX11_standsOf 6 (some .int), Cond.fieldLink RX11 112 "ShipOfficeModel" "fineSum" "[I"]
def wsX11_owed_r7 : List Cond := [Cond.fieldLink RX11 121 "ShipOfficeModel" "isRead" "[Z", Cond.methodLink RX11 306 yX11_puts, Cond.instanceMethod yX11_puts, Cond.selects RX11 yX11_puts yX11_puts, Cond.code yX11_puts cX11_puts 9 none, Cond.fieldLink RX11 79 "ShipOfficeModel" "rank" "[I", Cond.fieldLink RX11 22 "ShipOfficeModel" "born" "[I", Cond.fieldLink RX11 70 "ShipOfficeModel" "man" "[I", Cond.methodLink RX11 269 yX11_aboardOf, Cond.instanceMethod yX11_aboardOf, Cond.selects RX11 yX11_aboardOf yX11_aboardOf, Cond.code yX11_aboardOf cX11_aboardOf 6 (some .int)]
def wsX11_owed : List Cond := .code yX11_owed cX11_owed 5 (some .int) :: ((wsX11_owed_r1 ++ (wsX11_owed_r2 ++ (wsX11_owed_r3 ++ (wsX11_owed_r4 ++ (wsX11_owed_r5 ++ (wsX11_owed_r6 ++ wsX11_owed_r7)))))) ++ wsX110)
def wsX11_agreementOf_r1 : List Cond := [Cond.fieldLink RX11 70 "ShipOfficeModel" "man" "[I", Cond.fieldLink RX11 73 "ShipOfficeModel" "voyage" "[I", Cond.fieldLink RX11 76 "ShipOfficeModel" "wage" "[I", Cond.fieldLink RX11 79 "ShipOfficeModel" "rank" "[I", Cond.fieldLink RX11 85 "ShipOfficeModel" "signed" "[I", Cond.fieldLink RX11 88 "ShipOfficeModel" "offOn" "[I", Cond.fieldLink RX11 91 "ShipOfficeModel" "note" "[I", Cond.fieldLink RX11 94 "ShipOfficeModel" "given" "[I", Cond.fieldLink RX11 97 "ShipOfficeModel" "allotted" "[I", Cond.methodLink RX11 199 yX11_isAgreement, Cond.instanceMethod yX11_isAgreement, Cond.selects RX11 yX11_isAgreement yX11_isAgreement, Cond.initialized RX11, Cond.code yX11_isAgreement cX11_isAgreement 2 (some .boolean), Cond.fieldLink RX11 168 "ShipOfficeModel" "agreements" "I", Cond.methodLink RX11 161 yX11_isIn, Cond.static yX11_isIn, Cond.code yX11_isIn cX11_isIn 2 (some .boolean), Cond.methodLink RX11 153 yX11_refuse, Cond.instanceMethod yX11_refuse, Cond.selects RX11 yX11_refuse yX11_refuse, Cond.code yX11_refuse cX11_refuse 2 (some .int), Cond.fieldLink RX11 7 "ShipOfficeModel" "refusals" "[I", Cond.methodLink RX11 188 yX11_goesOn]
def wsX11_agreementOf_r2 : List Cond := [Cond.instanceMethod yX11_goesOn, Cond.selects RX11 yX11_goesOn yX11_goesOn, Cond.code yX11_goesOn cX11_goesOn 2 (some .boolean), Cond.methodLink RX11 182 yX11_wasTold, Cond.instanceMethod yX11_wasTold, Cond.selects RX11 yX11_wasTold yX11_wasTold, Cond.code yX11_wasTold cX11_wasTold 4 (some .boolean), Cond.fieldLink RX11 179 "ShipOfficeModel" "happened" "I", Cond.fieldLink RX11 40 "ShipOfficeModel" "what" "[I", Cond.fieldLink RX11 43 "ShipOfficeModel" "whose" "[I"]
def wsX11_agreementOf : List Cond := .code yX11_agreementOf cX11_agreementOf 3 (some .int) :: ((wsX11_agreementOf_r1 ++ wsX11_agreementOf_r2) ++ wsX110)
def wsX11_aboard_r1 : List Cond := [Cond.methodLink RX11 185 yX11_isVoyage, Cond.instanceMethod yX11_isVoyage, Cond.selects RX11 yX11_isVoyage yX11_isVoyage, Cond.initialized RX11, Cond.code yX11_isVoyage cX11_isVoyage 2 (some .boolean), Cond.fieldLink RX11 165 "ShipOfficeModel" "voyages" "I", Cond.methodLink RX11 161 yX11_isIn, Cond.static yX11_isIn, Cond.code yX11_isIn cX11_isIn 2 (some .boolean), Cond.methodLink RX11 300 yX11_wrongTimes, Cond.instanceMethod yX11_wrongTimes, Cond.selects RX11 yX11_wrongTimes yX11_wrongTimes, Cond.code yX11_wrongTimes cX11_wrongTimes 3 (some .int), Cond.fieldLink RX11 171 "ShipOfficeModel" "now" "I", Cond.methodLink RX11 153 yX11_refuse, Cond.instanceMethod yX11_refuse, Cond.selects RX11 yX11_refuse yX11_refuse, Cond.code yX11_refuse cX11_refuse 2 (some .int), Cond.fieldLink RX11 7 "ShipOfficeModel" "refusals" "[I", Cond.methodLink RX11 269 yX11_aboardOf, Cond.instanceMethod yX11_aboardOf, Cond.selects RX11 yX11_aboardOf yX11_aboardOf, Cond.code yX11_aboardOf cX11_aboardOf 6 (some .int), Cond.fieldLink RX11 168 "ShipOfficeModel" "agreements" "I"]
def wsX11_aboard_r2 : List Cond := [Cond.fieldLink RX11 73 "ShipOfficeModel" "voyage" "[I", Cond.methodLink RX11 266 yX11_stateOf, Cond.instanceMethod yX11_stateOf, Cond.selects RX11 yX11_stateOf yX11_stateOf, Cond.code yX11_stateOf cX11_stateOf 5 (some .int), Cond.fieldLink RX11 85 "ShipOfficeModel" "signed" "[I", Cond.fieldLink RX11 88 "ShipOfficeModel" "offOn" "[I", Cond.fieldLink RX11 40 "ShipOfficeModel" "what" "[I", Cond.methodLink RX11 288 yX11_isDead, Cond.instanceMethod yX11_isDead, Cond.selects RX11 yX11_isDead yX11_isDead, Cond.code yX11_isDead cX11_isDead 5 (some .boolean), Cond.fieldLink RX11 179 "ShipOfficeModel" "happened" "I", Cond.fieldLink RX11 43 "ShipOfficeModel" "whose" "[I", Cond.fieldLink RX11 49 "ShipOfficeModel" "known" "[I", Cond.fieldLink RX11 46 "ShipOfficeModel" "day" "[I", Cond.methodLink RX11 291 yX11_whereOf, Cond.instanceMethod yX11_whereOf, Cond.selects RX11 yX11_whereOf yX11_whereOf, Cond.code yX11_whereOf cX11_whereOf 6 (some .int), Cond.methodLink RX11 281 yX11_hasSailed, Cond.instanceMethod yX11_hasSailed, Cond.selects RX11 yX11_hasSailed yX11_hasSailed, Cond.code yX11_hasSailed cX11_hasSailed 5 (some .boolean)]
def wsX11_aboard_r3 : List Cond := [Cond.methodLink RX11 278 yX11_sailedOn, Cond.instanceMethod yX11_sailedOn, Cond.selects RX11 yX11_sailedOn yX11_sailedOn, Cond.code yX11_sailedOn cX11_sailedOn 4 (some .int), Cond.methodLink RX11 294 yX11_isUnknown, Cond.instanceMethod yX11_isUnknown, Cond.selects RX11 yX11_isUnknown yX11_isUnknown, Cond.code yX11_isUnknown cX11_isUnknown 4 (some .boolean), Cond.methodLink RX11 275 yX11_bare, Cond.instanceMethod yX11_bare, Cond.selects RX11 yX11_bare yX11_bare, Cond.code yX11_bare cX11_bare 2 none, Cond.fieldLink RX11 128 "ShipOfficeModel" "letters" "[I", Cond.methodLink RX11 272 yX11_lastHeard, Cond.instanceMethod yX11_lastHeard, Cond.selects RX11 yX11_lastHeard yX11_lastHeard, Cond.code yX11_lastHeard cX11_lastHeard 6 (some .int), Cond.methodLink RX11 285 yX11_worth, Cond.instanceMethod yX11_worth, Cond.selects RX11 yX11_worth yX11_worth, Cond.code yX11_worth cX11_worth 4 (some .int), Cond.fieldLink RX11 58 "ShipOfficeModel" "textSize" "[I", Cond.methodLink RX11 263 yX11_actOn, Cond.instanceMethod yX11_actOn]
def wsX11_aboard_r4 : List Cond := [Cond.selects RX11 yX11_actOn yX11_actOn, Cond.code yX11_actOn cX11_actOn 5 (some .int), Cond.fieldLink RX11 256 "ShipOfficeModel" "acts" "I", Cond.fieldLink RX11 61 "ShipOfficeModel" "purpose" "[I", Cond.fieldLink RX11 64 "ShipOfficeModel" "from" "[I", Cond.methodLink RX11 259 yX11_goesThrough, Cond.instanceMethod yX11_goesThrough, Cond.selects RX11 yX11_goesThrough yX11_goesThrough, Cond.code yX11_goesThrough cX11_goesThrough 3 (some .int), Cond.fieldLink RX11 216 "ShipOfficeModel" "base" "I", Cond.fieldLink RX11 213 "ShipOfficeModel" "size" "I", Cond.fieldLink RX11 210 "ShipOfficeModel" "at" "I", Cond.fieldLink RX11 244 "ShipOfficeModel" "deep" "I", Cond.fieldLink RX11 223 "ShipOfficeModel" "isWell" "Z", Cond.methodLink RX11 250 yX11_sum, Cond.instanceMethod yX11_sum, Cond.selects RX11 yX11_sum yX11_sum, Cond.code yX11_sum cX11_sum 4 (some .int), Cond.methodLink RX11 231 yX11_term, Cond.instanceMethod yX11_term, Cond.selects RX11 yX11_term yX11_term, Cond.methodLink RX11 227 yX11_sign, Cond.instanceMethod yX11_sign, Cond.selects RX11 yX11_sign yX11_sign]
def wsX11_aboard_r5 : List Cond := [Cond.code yX11_sign cX11_sign 1 (some .int), Cond.fieldLink RX11 125 "ShipOfficeModel" "tape" "[I", Cond.fieldLink RX11 67 "ShipOfficeModel" "text" "[I", Cond.methodLink RX11 234 yX11_held, Cond.static yX11_held, Cond.code yX11_held cX11_held 2 (some .int), Cond.constantLong RX11 219 (1000000000), Cond.constantLong RX11 221 (-1000000000), Cond.code yX11_term cX11_term 4 (some .int), Cond.methodLink RX11 238 yX11_unit, Cond.instanceMethod yX11_unit, Cond.selects RX11 yX11_unit yX11_unit, Cond.code yX11_unit cX11_unit 5 (some .int), Cond.methodLink RX11 241 yX11_isLetter, Cond.static yX11_isLetter, Cond.code yX11_isLetter cX11_isLetter 1 (some .boolean), Cond.methodLink RX11 247 yX11_breaks, Cond.instanceMethod yX11_breaks, Cond.selects RX11 yX11_breaks yX11_breaks, Cond.code yX11_breaks cX11_breaks 1 (some .int), Cond.methodLink RX11 253 yX11_takes, Cond.instanceMethod yX11_takes, Cond.selects RX11 yX11_takes yX11_takes, Cond.code yX11_takes cX11_takes 2 (some .boolean)]
def wsX11_aboard : List Cond := .code yX11_aboard cX11_aboard 5 (some .int) :: ((wsX11_aboard_r1 ++ (wsX11_aboard_r2 ++ (wsX11_aboard_r3 ++ (wsX11_aboard_r4 ++ wsX11_aboard_r5)))) ++ wsX110)
def wsX11_group_r1 : List Cond := [Cond.fieldLink RX11 131 "ShipOfficeModel" "groups" "[I", Cond.methodLink RX11 297 yX11_isMan, Cond.instanceMethod yX11_isMan, Cond.selects RX11 yX11_isMan yX11_isMan, Cond.initialized RX11, Cond.code yX11_isMan cX11_isMan 2 (some .boolean), Cond.fieldLink RX11 157 "ShipOfficeModel" "men" "I", Cond.methodLink RX11 161 yX11_isIn, Cond.static yX11_isIn, Cond.code yX11_isIn cX11_isIn 2 (some .boolean), Cond.methodLink RX11 153 yX11_refuse, Cond.instanceMethod yX11_refuse, Cond.selects RX11 yX11_refuse yX11_refuse, Cond.code yX11_refuse cX11_refuse 2 (some .int), Cond.fieldLink RX11 7 "ShipOfficeModel" "refusals" "[I", Cond.methodLink RX11 329 yX11_findGroups, Cond.instanceMethod yX11_findGroups, Cond.selects RX11 yX11_findGroups yX11_findGroups, Cond.code yX11_findGroups cX11_findGroups 4 none, Cond.methodLink RX11 326 yX11_isAlike, Cond.instanceMethod yX11_isAlike, Cond.selects RX11 yX11_isAlike yX11_isAlike, Cond.code yX11_isAlike cX11_isAlike 7 (some .boolean), Cond.fieldLink RX11 19 "ShipOfficeModel" "marks" "[I"]
def wsX11_group_r2 : List Cond := [Cond.fieldLink RX11 16 "ShipOfficeModel" "name" "[I"]
def wsX11_group : List Cond := .code yX11_group cX11_group 2 (some .int) :: ((wsX11_group_r1 ++ wsX11_group_r2) ++ wsX110)
def wsX11_borrowed_r1 : List Cond := [Cond.fieldLink RX11 82 "ShipOfficeModel" "paper" "[I", Cond.fieldLink RX11 131 "ShipOfficeModel" "groups" "[I", Cond.fieldLink RX11 70 "ShipOfficeModel" "man" "[I", Cond.fieldLink RX11 168 "ShipOfficeModel" "agreements" "I", Cond.fieldLink RX11 85 "ShipOfficeModel" "signed" "[I", Cond.methodLink RX11 199 yX11_isAgreement, Cond.instanceMethod yX11_isAgreement, Cond.selects RX11 yX11_isAgreement yX11_isAgreement, Cond.initialized RX11, Cond.code yX11_isAgreement cX11_isAgreement 2 (some .boolean), Cond.methodLink RX11 161 yX11_isIn, Cond.static yX11_isIn, Cond.code yX11_isIn cX11_isIn 2 (some .boolean), Cond.methodLink RX11 153 yX11_refuse, Cond.instanceMethod yX11_refuse, Cond.selects RX11 yX11_refuse yX11_refuse, Cond.code yX11_refuse cX11_refuse 2 (some .int), Cond.fieldLink RX11 7 "ShipOfficeModel" "refusals" "[I", Cond.methodLink RX11 329 yX11_findGroups, Cond.instanceMethod yX11_findGroups, Cond.selects RX11 yX11_findGroups yX11_findGroups, Cond.code yX11_findGroups cX11_findGroups 4 none, Cond.fieldLink RX11 157 "ShipOfficeModel" "men" "I", Cond.methodLink RX11 326 yX11_isAlike]
def wsX11_borrowed_r2 : List Cond := [Cond.instanceMethod yX11_isAlike, Cond.selects RX11 yX11_isAlike yX11_isAlike, Cond.code yX11_isAlike cX11_isAlike 7 (some .boolean), Cond.fieldLink RX11 19 "ShipOfficeModel" "marks" "[I", Cond.fieldLink RX11 16 "ShipOfficeModel" "name" "[I", Cond.methodLink RX11 332 yX11_endOf, Cond.instanceMethod yX11_endOf, Cond.selects RX11 yX11_endOf yX11_endOf, Cond.code yX11_endOf cX11_endOf 2 (some .int), Cond.fieldLink RX11 88 "ShipOfficeModel" "offOn" "[I", Cond.fieldLink RX11 171 "ShipOfficeModel" "now" "I"]
def wsX11_borrowed : List Cond := .code yX11_borrowed cX11_borrowed 3 (some .int) :: ((wsX11_borrowed_r1 ++ wsX11_borrowed_r2) ++ wsX110)
def wsX11_home_r1 : List Cond := [Cond.fieldLink RX11 168 "ShipOfficeModel" "agreements" "I", Cond.fieldLink RX11 70 "ShipOfficeModel" "man" "[I", Cond.fieldLink RX11 171 "ShipOfficeModel" "now" "I", Cond.fieldLink RX11 52 "ShipOfficeModel" "way" "[I", Cond.fieldLink RX11 55 "ShipOfficeModel" "port" "[I", Cond.fieldLink RX11 34 "ShipOfficeModel" "openPort" "[I", Cond.fieldLink RX11 73 "ShipOfficeModel" "voyage" "[I", Cond.methodLink RX11 297 yX11_isMan, Cond.instanceMethod yX11_isMan, Cond.selects RX11 yX11_isMan yX11_isMan, Cond.initialized RX11, Cond.code yX11_isMan cX11_isMan 2 (some .boolean), Cond.fieldLink RX11 157 "ShipOfficeModel" "men" "I", Cond.methodLink RX11 161 yX11_isIn, Cond.static yX11_isIn, Cond.code yX11_isIn cX11_isIn 2 (some .boolean), Cond.methodLink RX11 153 yX11_refuse, Cond.instanceMethod yX11_refuse, Cond.selects RX11 yX11_refuse yX11_refuse, Cond.code yX11_refuse cX11_refuse 2 (some .int), Cond.fieldLink RX11 7 "ShipOfficeModel" "refusals" "[I", Cond.methodLink RX11 266 yX11_stateOf, Cond.instanceMethod yX11_stateOf, Cond.selects RX11 yX11_stateOf yX11_stateOf]
def wsX11_home_r2 : List Cond := [Cond.code yX11_stateOf cX11_stateOf 5 (some .int), Cond.fieldLink RX11 85 "ShipOfficeModel" "signed" "[I", Cond.fieldLink RX11 88 "ShipOfficeModel" "offOn" "[I", Cond.fieldLink RX11 40 "ShipOfficeModel" "what" "[I", Cond.methodLink RX11 288 yX11_isDead, Cond.instanceMethod yX11_isDead, Cond.selects RX11 yX11_isDead yX11_isDead, Cond.code yX11_isDead cX11_isDead 5 (some .boolean), Cond.fieldLink RX11 179 "ShipOfficeModel" "happened" "I", Cond.fieldLink RX11 43 "ShipOfficeModel" "whose" "[I", Cond.fieldLink RX11 49 "ShipOfficeModel" "known" "[I", Cond.fieldLink RX11 46 "ShipOfficeModel" "day" "[I", Cond.methodLink RX11 291 yX11_whereOf, Cond.instanceMethod yX11_whereOf, Cond.selects RX11 yX11_whereOf yX11_whereOf, Cond.code yX11_whereOf cX11_whereOf 6 (some .int), Cond.methodLink RX11 281 yX11_hasSailed, Cond.instanceMethod yX11_hasSailed, Cond.selects RX11 yX11_hasSailed yX11_hasSailed, Cond.code yX11_hasSailed cX11_hasSailed 5 (some .boolean), Cond.methodLink RX11 278 yX11_sailedOn, Cond.instanceMethod yX11_sailedOn, Cond.selects RX11 yX11_sailedOn yX11_sailedOn, Cond.code yX11_sailedOn cX11_sailedOn 4 (some .int)]
def wsX11_home_r3 : List Cond := [Cond.methodLink RX11 294 yX11_isUnknown, Cond.instanceMethod yX11_isUnknown, Cond.selects RX11 yX11_isUnknown yX11_isUnknown, Cond.code yX11_isUnknown cX11_isUnknown 4 (some .boolean), Cond.methodLink RX11 275 yX11_bare, Cond.instanceMethod yX11_bare, Cond.selects RX11 yX11_bare yX11_bare, Cond.code yX11_bare cX11_bare 2 none, Cond.fieldLink RX11 128 "ShipOfficeModel" "letters" "[I", Cond.methodLink RX11 272 yX11_lastHeard, Cond.instanceMethod yX11_lastHeard, Cond.selects RX11 yX11_lastHeard yX11_lastHeard, Cond.code yX11_lastHeard cX11_lastHeard 6 (some .int), Cond.methodLink RX11 285 yX11_worth, Cond.instanceMethod yX11_worth, Cond.selects RX11 yX11_worth yX11_worth, Cond.code yX11_worth cX11_worth 4 (some .int), Cond.fieldLink RX11 58 "ShipOfficeModel" "textSize" "[I", Cond.methodLink RX11 263 yX11_actOn, Cond.instanceMethod yX11_actOn, Cond.selects RX11 yX11_actOn yX11_actOn, Cond.code yX11_actOn cX11_actOn 5 (some .int), Cond.fieldLink RX11 256 "ShipOfficeModel" "acts" "I", Cond.fieldLink RX11 61 "ShipOfficeModel" "purpose" "[I"]
def wsX11_home_r4 : List Cond := [Cond.fieldLink RX11 64 "ShipOfficeModel" "from" "[I", Cond.methodLink RX11 259 yX11_goesThrough, Cond.instanceMethod yX11_goesThrough, Cond.selects RX11 yX11_goesThrough yX11_goesThrough, Cond.code yX11_goesThrough cX11_goesThrough 3 (some .int), Cond.fieldLink RX11 216 "ShipOfficeModel" "base" "I", Cond.fieldLink RX11 213 "ShipOfficeModel" "size" "I", Cond.fieldLink RX11 210 "ShipOfficeModel" "at" "I", Cond.fieldLink RX11 244 "ShipOfficeModel" "deep" "I", Cond.fieldLink RX11 223 "ShipOfficeModel" "isWell" "Z", Cond.methodLink RX11 250 yX11_sum, Cond.instanceMethod yX11_sum, Cond.selects RX11 yX11_sum yX11_sum, Cond.code yX11_sum cX11_sum 4 (some .int), Cond.methodLink RX11 231 yX11_term, Cond.instanceMethod yX11_term, Cond.selects RX11 yX11_term yX11_term, Cond.methodLink RX11 227 yX11_sign, Cond.instanceMethod yX11_sign, Cond.selects RX11 yX11_sign yX11_sign, Cond.code yX11_sign cX11_sign 1 (some .int), Cond.fieldLink RX11 125 "ShipOfficeModel" "tape" "[I", Cond.fieldLink RX11 67 "ShipOfficeModel" "text" "[I", Cond.methodLink RX11 234 yX11_held]
def wsX11_home_r5 : List Cond := [Cond.static yX11_held, Cond.code yX11_held cX11_held 2 (some .int), Cond.constantLong RX11 219 (1000000000), Cond.constantLong RX11 221 (-1000000000), Cond.code yX11_term cX11_term 4 (some .int), Cond.methodLink RX11 238 yX11_unit, Cond.instanceMethod yX11_unit, Cond.selects RX11 yX11_unit yX11_unit, Cond.code yX11_unit cX11_unit 5 (some .int), Cond.methodLink RX11 241 yX11_isLetter, Cond.static yX11_isLetter, Cond.code yX11_isLetter cX11_isLetter 1 (some .boolean), Cond.methodLink RX11 247 yX11_breaks, Cond.instanceMethod yX11_breaks, Cond.selects RX11 yX11_breaks yX11_breaks, Cond.code yX11_breaks cX11_breaks 1 (some .int), Cond.methodLink RX11 253 yX11_takes, Cond.instanceMethod yX11_takes, Cond.selects RX11 yX11_takes yX11_takes, Cond.code yX11_takes cX11_takes 2 (some .boolean), Cond.methodLink RX11 335 yX11_wayTo, Cond.instanceMethod yX11_wayTo, Cond.selects RX11 yX11_wayTo yX11_wayTo, Cond.code yX11_wayTo cX11_wayTo 6 (some .int)]
def wsX11_home_r6 : List Cond := [Cond.fieldLink RX11 134 "ShipOfficeModel" "far" "[I", Cond.constant RX11 152 (1000000000), Cond.fieldLink RX11 13 "ShipOfficeModel" "mile" "[I"]
def wsX11_home : List Cond := .code yX11_home cX11_home 4 (some .int) :: ((wsX11_home_r1 ++ (wsX11_home_r2 ++ (wsX11_home_r3 ++ (wsX11_home_r4 ++ (wsX11_home_r5 ++ wsX11_home_r6))))) ++ wsX110)
def wsX11_ask : List Cond := .code yX11_ask cX11_ask 5 (some .int) :: ([.fieldLink RX11 25 "ShipOfficeModel" "asks" "[I", .methodLink RX11 297 yX11_isMan, .instanceMethod yX11_isMan, .selects RX11 yX11_isMan yX11_isMan, .initialized RX11, .code yX11_isMan cX11_isMan 2 (some .boolean), .fieldLink RX11 157 "ShipOfficeModel" "men" "I", .methodLink RX11 161 yX11_isIn, .static yX11_isIn, .code yX11_isIn cX11_isIn 2 (some .boolean), .methodLink RX11 153 yX11_refuse, .instanceMethod yX11_refuse, .selects RX11 yX11_refuse yX11_refuse, .code yX11_refuse cX11_refuse 2 (some .int), .fieldLink RX11 7 "ShipOfficeModel" "refusals" "[I"] ++ wsX110)
def wsX11_check_r1 : List Cond := [Cond.fieldLink RX11 357 "ShipOfficeModel" "rowed" "I", Cond.fieldLink RX11 168 "ShipOfficeModel" "agreements" "I", Cond.fieldLink RX11 73 "ShipOfficeModel" "voyage" "[I", Cond.fieldLink RX11 149 "ShipOfficeModel" "row" "[I", Cond.methodLink RX11 185 yX11_isVoyage, Cond.instanceMethod yX11_isVoyage, Cond.selects RX11 yX11_isVoyage yX11_isVoyage, Cond.initialized RX11, Cond.code yX11_isVoyage cX11_isVoyage 2 (some .boolean), Cond.fieldLink RX11 165 "ShipOfficeModel" "voyages" "I", Cond.methodLink RX11 161 yX11_isIn, Cond.static yX11_isIn, Cond.code yX11_isIn cX11_isIn 2 (some .boolean), Cond.methodLink RX11 300 yX11_wrongTimes, Cond.instanceMethod yX11_wrongTimes, Cond.selects RX11 yX11_wrongTimes yX11_wrongTimes, Cond.code yX11_wrongTimes cX11_wrongTimes 3 (some .int), Cond.fieldLink RX11 171 "ShipOfficeModel" "now" "I", Cond.methodLink RX11 153 yX11_refuse, Cond.instanceMethod yX11_refuse, Cond.selects RX11 yX11_refuse yX11_refuse, Cond.code yX11_refuse cX11_refuse 2 (some .int), Cond.fieldLink RX11 7 "ShipOfficeModel" "refusals" "[I", Cond.methodLink RX11 323 yX11_owedOf]
def wsX11_check_r2 : List Cond := [Cond.instanceMethod yX11_owedOf, Cond.selects RX11 yX11_owedOf yX11_owedOf, Cond.code yX11_owedOf cX11_owedOf 8 (some .int), Cond.fieldLink RX11 85 "ShipOfficeModel" "signed" "[I", Cond.fieldLink RX11 76 "ShipOfficeModel" "wage" "[I", Cond.constantLong RX11 318 (30), Cond.fieldLink RX11 91 "ShipOfficeModel" "note" "[I", Cond.fieldLink RX11 97 "ShipOfficeModel" "allotted" "[I", Cond.fieldLink RX11 100 "ShipOfficeModel" "fines" "[I", Cond.fieldLink RX11 109 "ShipOfficeModel" "fineDay" "[I", Cond.fieldLink RX11 103 "ShipOfficeModel" "shorts" "[I", Cond.fieldLink RX11 115 "ShipOfficeModel" "shortOn" "[I", Cond.fieldLink RX11 118 "ShipOfficeModel" "shortSum" "[I", Cond.fieldLink RX11 52 "ShipOfficeModel" "way" "[I", Cond.constantLong RX11 310 (100), Cond.methodLink RX11 303 yX11_earnsOf, Cond.instanceMethod yX11_earnsOf, Cond.selects RX11 yX11_earnsOf yX11_earnsOf, Cond.code yX11_earnsOf cX11_earnsOf 7 (some .int), Cond.methodLink RX11 266 yX11_stateOf, Cond.instanceMethod yX11_stateOf, Cond.selects RX11 yX11_stateOf yX11_stateOf, Cond.code yX11_stateOf cX11_stateOf 5 (some .int), Cond.fieldLink RX11 88 "ShipOfficeModel" "offOn" "[I"]
def wsX11_check_r3 : List Cond := [Cond.fieldLink RX11 40 "ShipOfficeModel" "what" "[I", Cond.methodLink RX11 288 yX11_isDead, Cond.instanceMethod yX11_isDead, Cond.selects RX11 yX11_isDead yX11_isDead, Cond.code yX11_isDead cX11_isDead 5 (some .boolean), Cond.fieldLink RX11 179 "ShipOfficeModel" "happened" "I", Cond.fieldLink RX11 43 "ShipOfficeModel" "whose" "[I", Cond.fieldLink RX11 49 "ShipOfficeModel" "known" "[I", Cond.fieldLink RX11 46 "ShipOfficeModel" "day" "[I", Cond.methodLink RX11 291 yX11_whereOf, Cond.instanceMethod yX11_whereOf, Cond.selects RX11 yX11_whereOf yX11_whereOf, Cond.code yX11_whereOf cX11_whereOf 6 (some .int), Cond.methodLink RX11 281 yX11_hasSailed, Cond.instanceMethod yX11_hasSailed, Cond.selects RX11 yX11_hasSailed yX11_hasSailed, Cond.code yX11_hasSailed cX11_hasSailed 5 (some .boolean), Cond.methodLink RX11 278 yX11_sailedOn, Cond.instanceMethod yX11_sailedOn, Cond.selects RX11 yX11_sailedOn yX11_sailedOn, Cond.code yX11_sailedOn cX11_sailedOn 4 (some .int), Cond.methodLink RX11 294 yX11_isUnknown, Cond.instanceMethod yX11_isUnknown, Cond.selects RX11 yX11_isUnknown yX11_isUnknown]
def wsX11_check_r4 : List Cond := [Cond.code yX11_isUnknown cX11_isUnknown 4 (some .boolean), Cond.methodLink RX11 275 yX11_bare, Cond.instanceMethod yX11_bare, Cond.selects RX11 yX11_bare yX11_bare, Cond.code yX11_bare cX11_bare 2 none, Cond.fieldLink RX11 128 "ShipOfficeModel" "letters" "[I", Cond.methodLink RX11 272 yX11_lastHeard, Cond.instanceMethod yX11_lastHeard, Cond.selects RX11 yX11_lastHeard yX11_lastHeard, Cond.code yX11_lastHeard cX11_lastHeard 6 (some .int), Cond.methodLink RX11 285 yX11_worth, Cond.instanceMethod yX11_worth, Cond.selects RX11 yX11_worth yX11_worth, Cond.code yX11_worth cX11_worth 4 (some .int), Cond.fieldLink RX11 58 "ShipOfficeModel" "textSize" "[I", Cond.methodLink RX11 263 yX11_actOn, Cond.instanceMethod yX11_actOn, Cond.selects RX11 yX11_actOn yX11_actOn, Cond.code yX11_actOn cX11_actOn 5 (some .int), Cond.fieldLink RX11 256 "ShipOfficeModel" "acts" "I", Cond.fieldLink RX11 61 "ShipOfficeModel" "purpose" "[I", Cond.fieldLink RX11 64 "ShipOfficeModel" "from" "[I", Cond.methodLink RX11 259 yX11_goesThrough, Cond.instanceMethod yX11_goesThrough]
def wsX11_check_r5 : List Cond := [Cond.selects RX11 yX11_goesThrough yX11_goesThrough, Cond.code yX11_goesThrough cX11_goesThrough 3 (some .int), Cond.fieldLink RX11 216 "ShipOfficeModel" "base" "I", Cond.fieldLink RX11 213 "ShipOfficeModel" "size" "I", Cond.fieldLink RX11 210 "ShipOfficeModel" "at" "I", Cond.fieldLink RX11 244 "ShipOfficeModel" "deep" "I", Cond.fieldLink RX11 223 "ShipOfficeModel" "isWell" "Z", Cond.methodLink RX11 250 yX11_sum, Cond.instanceMethod yX11_sum, Cond.selects RX11 yX11_sum yX11_sum, Cond.code yX11_sum cX11_sum 4 (some .int), Cond.methodLink RX11 231 yX11_term, Cond.instanceMethod yX11_term, Cond.selects RX11 yX11_term yX11_term, Cond.methodLink RX11 227 yX11_sign, Cond.instanceMethod yX11_sign, Cond.selects RX11 yX11_sign yX11_sign, Cond.code yX11_sign cX11_sign 1 (some .int), Cond.fieldLink RX11 125 "ShipOfficeModel" "tape" "[I", Cond.fieldLink RX11 67 "ShipOfficeModel" "text" "[I", Cond.methodLink RX11 234 yX11_held, Cond.static yX11_held, Cond.code yX11_held cX11_held 2 (some .int), Cond.constantLong RX11 219 (1000000000)]
def wsX11_check_r6 : List Cond := [Cond.constantLong RX11 221 (-1000000000), Cond.code yX11_term cX11_term 4 (some .int), Cond.methodLink RX11 238 yX11_unit, Cond.instanceMethod yX11_unit, Cond.selects RX11 yX11_unit yX11_unit, Cond.code yX11_unit cX11_unit 5 (some .int), Cond.methodLink RX11 241 yX11_isLetter, Cond.static yX11_isLetter, Cond.code yX11_isLetter cX11_isLetter 1 (some .boolean), Cond.methodLink RX11 247 yX11_breaks, Cond.instanceMethod yX11_breaks, Cond.selects RX11 yX11_breaks yX11_breaks, Cond.code yX11_breaks cX11_breaks 1 (some .int), Cond.methodLink RX11 253 yX11_takes, Cond.instanceMethod yX11_takes, Cond.selects RX11 yX11_takes yX11_takes, Cond.code yX11_takes cX11_takes 2 (some .boolean), Cond.methodLink RX11 315 yX11_standsOf, Cond.instanceMethod yX11_standsOf, Cond.selects RX11 yX11_standsOf yX11_standsOf, Cond.code yX11_standsOf cX11_standsOf 6 (some .int), Cond.fieldLink RX11 112 "ShipOfficeModel" "fineSum" "[I", Cond.fieldLink RX11 121 "ShipOfficeModel" "isRead" "[Z", Cond.methodLink RX11 306 yX11_puts]
def wsX11_check_r7 : List Cond := [Cond.instanceMethod yX11_puts, Cond.selects RX11 yX11_puts yX11_puts, Cond.code yX11_puts cX11_puts 9 none, Cond.fieldLink RX11 79 "ShipOfficeModel" "rank" "[I", Cond.fieldLink RX11 22 "ShipOfficeModel" "born" "[I", Cond.fieldLink RX11 70 "ShipOfficeModel" "man" "[I", Cond.methodLink RX11 269 yX11_aboardOf, Cond.instanceMethod yX11_aboardOf, Cond.selects RX11 yX11_aboardOf yX11_aboardOf, Cond.code yX11_aboardOf cX11_aboardOf 6 (some .int)]
def wsX11_check : List Cond := .code yX11_check cX11_check 8 (some .int) :: ((wsX11_check_r1 ++ (wsX11_check_r2 ++ (wsX11_check_r3 ++ (wsX11_check_r4 ++ (wsX11_check_r5 ++ (wsX11_check_r6 ++ wsX11_check_r7)))))) ++ wsX110)
theorem dX11_refuse_0 : decode cX11_refuse 0 = .ok (.aload_n 0, 1) := by decide +kernel
theorem dX11_refuse_1 : decode cX11_refuse 1 = .ok (.getfield 7, 3) := by decide +kernel
theorem dX11_refuse_4 : decode cX11_refuse 4 = .ok (.iload_n 1, 1) := by decide +kernel
theorem dX11_refuse_5 : decode cX11_refuse 5 = .ok (.ineg, 1) := by decide +kernel
theorem dX11_refuse_6 : decode cX11_refuse 6 = .ok (.dup2, 1) := by decide +kernel
theorem dX11_refuse_7 : decode cX11_refuse 7 = .ok (.iaload, 1) := by decide +kernel
theorem dX11_refuse_8 : decode cX11_refuse 8 = .ok (.iconst 1, 1) := by decide +kernel
theorem dX11_refuse_9 : decode cX11_refuse 9 = .ok (.iadd, 1) := by decide +kernel
theorem dX11_refuse_10 : decode cX11_refuse 10 = .ok (.iastore, 1) := by decide +kernel
theorem dX11_refuse_11 : decode cX11_refuse 11 = .ok (.iload_n 1, 1) := by decide +kernel
theorem dX11_refuse_12 : decode cX11_refuse 12 = .ok (.ireturn, 1) := by decide +kernel
set_option maxRecDepth 20000 in
theorem ggX11_refuseFar_X11_refuse : GoodIn wsX11_refuseFar wsX11_refuse := goodIn_r _ [6, 7, 8, 9, 10, 11, 12, 13, 14, 15, 16, 17, 18, 19, 20, 21, 22, 23, 24, 25, 26, 27, 28, 29, 30, 31, 32, 33, 34, 35, 36, 37, 38, 39, 40, 41, 42, 43, 44, 45, 46, 47, 48, 49, 50, 51, 52, 53, 54, 55, 56, 57, 58, 59, 60, 61, 62, 63, 64, 65, 66, 67, 68, 69, 70] (by decide +kernel) (by decide +kernel)
set_option maxRecDepth 20000 in
theorem gX11_refuseFar_X11_refuse : GoodIn wsX11_refuseFar (wsV RX11 153 RX11 yX11_refuse wsX11_refuse) := goodIn_app (goodIn_of _ (by decide +kernel)) ggX11_refuseFar_X11_refuse
theorem dX11_refuseFar_0 : decode cX11_refuseFar 0 = .ok (.ldc 152, 2) := by decide +kernel
theorem dX11_refuseFar_2 : decode cX11_refuseFar 2 = .ok (.aload_n 0, 1) := by decide +kernel
theorem dX11_refuseFar_3 : decode cX11_refuseFar 3 = .ok (.iload_n 1, 1) := by decide +kernel
theorem dX11_refuseFar_4 : decode cX11_refuseFar 4 = .ok (.invokevirtual 153, 3) := by decide +kernel
theorem dX11_refuseFar_7 : decode cX11_refuseFar 7 = .ok (.isub, 1) := by decide +kernel
theorem dX11_refuseFar_8 : decode cX11_refuseFar 8 = .ok (.ireturn, 1) := by decide +kernel
theorem dX11_isIn_0 : decode cX11_isIn 0 = .ok (.iload_n 0, 1) := by decide +kernel
theorem dX11_isIn_1 : decode cX11_isIn 1 = .ok (.ifCond .lt 12, 3) := by decide +kernel
theorem dX11_isIn_4 : decode cX11_isIn 4 = .ok (.iload_n 0, 1) := by decide +kernel
theorem dX11_isIn_5 : decode cX11_isIn 5 = .ok (.iload_n 1, 1) := by decide +kernel
theorem dX11_isIn_6 : decode cX11_isIn 6 = .ok (.if_icmp .ge 7, 3) := by decide +kernel
theorem dX11_isIn_9 : decode cX11_isIn 9 = .ok (.iconst 1, 1) := by decide +kernel
theorem dX11_isIn_10 : decode cX11_isIn 10 = .ok (.goto 4, 3) := by decide +kernel
theorem dX11_isIn_13 : decode cX11_isIn 13 = .ok (.iconst 0, 1) := by decide +kernel
theorem dX11_isIn_14 : decode cX11_isIn 14 = .ok (.ireturn, 1) := by decide +kernel
set_option maxRecDepth 20000 in
theorem ggX11_isMan_X11_isIn : GoodIn wsX11_isMan wsX11_isIn := goodIn_r _ [5] (by decide +kernel) (by decide +kernel)
set_option maxRecDepth 20000 in
theorem gX11_isMan_X11_isIn : GoodIn wsX11_isMan (va_wsS RX11 161 yX11_isIn wsX11_isIn) := goodIn_app (goodIn_of _ (by decide +kernel)) ggX11_isMan_X11_isIn
theorem dX11_isMan_0 : decode cX11_isMan 0 = .ok (.iload_n 1, 1) := by decide +kernel
theorem dX11_isMan_1 : decode cX11_isMan 1 = .ok (.aload_n 0, 1) := by decide +kernel
theorem dX11_isMan_2 : decode cX11_isMan 2 = .ok (.getfield 157, 3) := by decide +kernel
theorem dX11_isMan_5 : decode cX11_isMan 5 = .ok (.invokestatic 161, 3) := by decide +kernel
theorem dX11_isMan_8 : decode cX11_isMan 8 = .ok (.ireturn, 1) := by decide +kernel
set_option maxRecDepth 20000 in
theorem ggX11_isVoyage_X11_isIn : GoodIn wsX11_isVoyage wsX11_isIn := goodIn_r _ [5] (by decide +kernel) (by decide +kernel)
set_option maxRecDepth 20000 in
theorem gX11_isVoyage_X11_isIn : GoodIn wsX11_isVoyage (va_wsS RX11 161 yX11_isIn wsX11_isIn) := goodIn_app (goodIn_of _ (by decide +kernel)) ggX11_isVoyage_X11_isIn
theorem dX11_isVoyage_0 : decode cX11_isVoyage 0 = .ok (.iload_n 1, 1) := by decide +kernel
theorem dX11_isVoyage_1 : decode cX11_isVoyage 1 = .ok (.aload_n 0, 1) := by decide +kernel
theorem dX11_isVoyage_2 : decode cX11_isVoyage 2 = .ok (.getfield 165, 3) := by decide +kernel
theorem dX11_isVoyage_5 : decode cX11_isVoyage 5 = .ok (.invokestatic 161, 3) := by decide +kernel
theorem dX11_isVoyage_8 : decode cX11_isVoyage 8 = .ok (.ireturn, 1) := by decide +kernel
set_option maxRecDepth 20000 in
theorem ggX11_isAgreement_X11_isIn : GoodIn wsX11_isAgreement wsX11_isIn := goodIn_r _ [5] (by decide +kernel) (by decide +kernel)
set_option maxRecDepth 20000 in
theorem gX11_isAgreement_X11_isIn : GoodIn wsX11_isAgreement (va_wsS RX11 161 yX11_isIn wsX11_isIn) := goodIn_app (goodIn_of _ (by decide +kernel)) ggX11_isAgreement_X11_isIn
theorem dX11_isAgreement_0 : decode cX11_isAgreement 0 = .ok (.iload_n 1, 1) := by decide +kernel
theorem dX11_isAgreement_1 : decode cX11_isAgreement 1 = .ok (.aload_n 0, 1) := by decide +kernel
theorem dX11_isAgreement_2 : decode cX11_isAgreement 2 = .ok (.getfield 168, 3) := by decide +kernel
theorem dX11_isAgreement_5 : decode cX11_isAgreement 5 = .ok (.invokestatic 161, 3) := by decide +kernel
theorem dX11_isAgreement_8 : decode cX11_isAgreement 8 = .ok (.ireturn, 1) := by decide +kernel
set_option maxRecDepth 20000 in
theorem ggX11_isPort_X11_isIn : GoodIn wsX11_isPort wsX11_isIn := goodIn_r _ [4] (by decide +kernel) (by decide +kernel)
set_option maxRecDepth 20000 in
theorem gX11_isPort_X11_isIn : GoodIn wsX11_isPort (va_wsS RX11 161 yX11_isIn wsX11_isIn) := goodIn_app (goodIn_of _ (by decide +kernel)) ggX11_isPort_X11_isIn
theorem dX11_isPort_0 : decode cX11_isPort 0 = .ok (.iload_n 0, 1) := by decide +kernel
theorem dX11_isPort_1 : decode cX11_isPort 1 = .ok (.bipush 10, 2) := by decide +kernel
theorem dX11_isPort_3 : decode cX11_isPort 3 = .ok (.invokestatic 161, 3) := by decide +kernel
theorem dX11_isPort_6 : decode cX11_isPort 6 = .ok (.ireturn, 1) := by decide +kernel
set_option maxRecDepth 20000 in
theorem ggX11_ended_X11_isVoyage : GoodIn wsX11_ended wsX11_isVoyage := goodIn_r _ [10, 11, 12, 13, 9, 14, 34, 35, 36, 37, 38, 39, 40, 41, 42, 43, 44, 45, 46, 47, 48, 49, 50, 51, 52, 53, 54, 55, 56, 57, 58, 59, 60, 61, 62, 63, 64, 65, 66, 67, 68, 69, 70, 71, 72, 73, 74, 75, 76, 77, 78, 79, 80, 81, 82, 83, 84, 85, 86, 87, 88, 89, 90, 91, 92, 93, 94, 95, 96] (by decide +kernel) (by decide +kernel)
set_option maxRecDepth 20000 in
theorem gX11_ended_X11_isVoyage : GoodIn wsX11_ended (wsV RX11 185 RX11 yX11_isVoyage wsX11_isVoyage) := goodIn_app (goodIn_of _ (by decide +kernel)) ggX11_ended_X11_isVoyage
set_option maxRecDepth 20000 in
theorem ggX11_ended_X11_refuse : GoodIn wsX11_ended wsX11_refuse := goodIn_r _ [21, 22, 34, 35, 36, 37, 38, 39, 40, 41, 42, 43, 44, 45, 46, 47, 48, 49, 50, 51, 52, 53, 54, 55, 56, 57, 58, 59, 60, 61, 62, 63, 64, 65, 66, 67, 68, 69, 70, 71, 72, 73, 74, 75, 76, 77, 78, 79, 80, 81, 82, 83, 84, 85, 86, 87, 88, 89, 90, 91, 92, 93, 94, 95, 96] (by decide +kernel) (by decide +kernel)
set_option maxRecDepth 20000 in
theorem gX11_ended_X11_refuse : GoodIn wsX11_ended (wsV RX11 153 RX11 yX11_refuse wsX11_refuse) := goodIn_app (goodIn_of _ (by decide +kernel)) ggX11_ended_X11_refuse
theorem dX11_ended_0 : decode cX11_ended 0 = .ok (.aload_n 0, 1) := by decide +kernel
theorem dX11_ended_1 : decode cX11_ended 1 = .ok (.iload_n 1, 1) := by decide +kernel
theorem dX11_ended_2 : decode cX11_ended 2 = .ok (.invokevirtual 185, 3) := by decide +kernel
theorem dX11_ended_5 : decode cX11_ended 5 = .ok (.ifCond .eq 10, 3) := by decide +kernel
theorem dX11_ended_15 : decode cX11_ended 15 = .ok (.aload_n 0, 1) := by decide +kernel
theorem dX11_ended_16 : decode cX11_ended 16 = .ok (.iconst (-1), 1) := by decide +kernel
theorem dX11_ended_17 : decode cX11_ended 17 = .ok (.invokevirtual 153, 3) := by decide +kernel
theorem dX11_ended_20 : decode cX11_ended 20 = .ok (.ireturn, 1) := by decide +kernel
set_option maxRecDepth 20000 in
theorem ggX11_happensTo_X11_isVoyage : GoodIn wsX11_happensTo wsX11_isVoyage := goodIn_r _ [7, 8, 9, 10, 6, 11, 33, 34, 35, 36, 37, 38, 39, 40, 41, 42, 43, 44, 45, 46, 47, 48, 49, 50, 51, 52, 53, 54, 55, 56, 57, 58, 59, 60, 61, 62, 63, 64, 65, 66, 67, 68, 69, 70, 71, 72, 73, 74, 75, 76, 77, 78, 79, 80, 81, 82, 83, 84, 85, 86, 87, 88, 89, 90, 91, 92, 93, 94, 95] (by decide +kernel) (by decide +kernel)
set_option maxRecDepth 20000 in
theorem gX11_happensTo_X11_isVoyage : GoodIn wsX11_happensTo (wsV RX11 185 RX11 yX11_isVoyage wsX11_isVoyage) := goodIn_app (goodIn_of _ (by decide +kernel)) ggX11_happensTo_X11_isVoyage
set_option maxRecDepth 20000 in
theorem ggX11_happensTo_X11_refuse : GoodIn wsX11_happensTo wsX11_refuse := goodIn_r _ [15, 16, 33, 34, 35, 36, 37, 38, 39, 40, 41, 42, 43, 44, 45, 46, 47, 48, 49, 50, 51, 52, 53, 54, 55, 56, 57, 58, 59, 60, 61, 62, 63, 64, 65, 66, 67, 68, 69, 70, 71, 72, 73, 74, 75, 76, 77, 78, 79, 80, 81, 82, 83, 84, 85, 86, 87, 88, 89, 90, 91, 92, 93, 94, 95] (by decide +kernel) (by decide +kernel)
set_option maxRecDepth 20000 in
theorem gX11_happensTo_X11_refuse : GoodIn wsX11_happensTo (wsV RX11 153 RX11 yX11_refuse wsX11_refuse) := goodIn_app (goodIn_of _ (by decide +kernel)) ggX11_happensTo_X11_refuse
theorem dX11_happensTo_0 : decode cX11_happensTo 0 = .ok (.aload_n 0, 1) := by decide +kernel
theorem dX11_happensTo_1 : decode cX11_happensTo 1 = .ok (.iload_n 2, 1) := by decide +kernel
theorem dX11_happensTo_2 : decode cX11_happensTo 2 = .ok (.invokevirtual 185, 3) := by decide +kernel
theorem dX11_happensTo_5 : decode cX11_happensTo 5 = .ok (.ifCond .ne 9, 3) := by decide +kernel
theorem dX11_happensTo_8 : decode cX11_happensTo 8 = .ok (.aload_n 0, 1) := by decide +kernel
theorem dX11_happensTo_9 : decode cX11_happensTo 9 = .ok (.iconst (-1), 1) := by decide +kernel
theorem dX11_happensTo_10 : decode cX11_happensTo 10 = .ok (.invokevirtual 153, 3) := by decide +kernel
theorem dX11_happensTo_13 : decode cX11_happensTo 13 = .ok (.ireturn, 1) := by decide +kernel
set_option maxRecDepth 20000 in
theorem ggX11_sailed_X11_happensTo : GoodIn wsX11_sailed wsX11_happensTo := goodIn_r _ [5, 6, 7, 8, 9, 10, 4, 11, 12, 13, 14, 15, 16, 17, 18, 19, 20, 21, 22, 23, 24, 25, 26, 27, 28, 29, 30, 31, 32, 33, 34, 35, 36, 37, 38, 39, 40, 41, 42, 43, 44, 45, 46, 47, 48, 49, 50, 51, 52, 53, 54, 55, 56, 57, 58, 59, 60, 61, 62, 63, 64, 65, 66, 67, 68, 69, 70, 71, 72, 73, 74, 75, 76, 77, 78, 79, 80, 81, 82, 83, 84, 85, 86, 87, 88, 89, 90, 91, 92, 93, 94, 95, 96, 97, 98, 99] (by decide +kernel) (by decide +kernel)
set_option maxRecDepth 20000 in
theorem gX11_sailed_X11_happensTo : GoodIn wsX11_sailed (wsV RX11 195 RX11 yX11_happensTo wsX11_happensTo) := goodIn_app (goodIn_of _ (by decide +kernel)) ggX11_sailed_X11_happensTo
theorem dX11_sailed_0 : decode cX11_sailed 0 = .ok (.aload_n 0, 1) := by decide +kernel
theorem dX11_sailed_1 : decode cX11_sailed 1 = .ok (.iconst 0, 1) := by decide +kernel
theorem dX11_sailed_2 : decode cX11_sailed 2 = .ok (.iload_n 1, 1) := by decide +kernel
theorem dX11_sailed_3 : decode cX11_sailed 3 = .ok (.iload_n 2, 1) := by decide +kernel
theorem dX11_sailed_4 : decode cX11_sailed 4 = .ok (.invokevirtual 195, 3) := by decide +kernel
theorem dX11_sailed_7 : decode cX11_sailed 7 = .ok (.ireturn, 1) := by decide +kernel
set_option maxRecDepth 20000 in
theorem ggX11_heard_X11_happensTo : GoodIn wsX11_heard wsX11_happensTo := goodIn_r _ [5, 6, 7, 8, 9, 10, 4, 11, 12, 13, 14, 15, 16, 17, 18, 19, 20, 21, 22, 23, 24, 25, 26, 27, 28, 29, 30, 31, 32, 33, 34, 35, 36, 37, 38, 39, 40, 41, 42, 43, 44, 45, 46, 47, 48, 49, 50, 51, 52, 53, 54, 55, 56, 57, 58, 59, 60, 61, 62, 63, 64, 65, 66, 67, 68, 69, 70, 71, 72, 73, 74, 75, 76, 77, 78, 79, 80, 81, 82, 83, 84, 85, 86, 87, 88, 89, 90, 91, 92, 93, 94, 95, 96, 97, 98, 99] (by decide +kernel) (by decide +kernel)
set_option maxRecDepth 20000 in
theorem gX11_heard_X11_happensTo : GoodIn wsX11_heard (wsV RX11 195 RX11 yX11_happensTo wsX11_happensTo) := goodIn_app (goodIn_of _ (by decide +kernel)) ggX11_heard_X11_happensTo
theorem dX11_heard_0 : decode cX11_heard 0 = .ok (.aload_n 0, 1) := by decide +kernel
theorem dX11_heard_1 : decode cX11_heard 1 = .ok (.iconst 1, 1) := by decide +kernel
theorem dX11_heard_2 : decode cX11_heard 2 = .ok (.iload_n 1, 1) := by decide +kernel
theorem dX11_heard_3 : decode cX11_heard 3 = .ok (.iload_n 2, 1) := by decide +kernel
theorem dX11_heard_4 : decode cX11_heard 4 = .ok (.invokevirtual 195, 3) := by decide +kernel
theorem dX11_heard_7 : decode cX11_heard 7 = .ok (.ireturn, 1) := by decide +kernel
set_option maxRecDepth 20000 in
theorem ggX11_lost_X11_happensTo : GoodIn wsX11_lost wsX11_happensTo := goodIn_r _ [5, 6, 7, 8, 9, 10, 4, 11, 12, 13, 14, 15, 16, 17, 18, 19, 20, 21, 22, 23, 24, 25, 26, 27, 28, 29, 30, 31, 32, 33, 34, 35, 36, 37, 38, 39, 40, 41, 42, 43, 44, 45, 46, 47, 48, 49, 50, 51, 52, 53, 54, 55, 56, 57, 58, 59, 60, 61, 62, 63, 64, 65, 66, 67, 68, 69, 70, 71, 72, 73, 74, 75, 76, 77, 78, 79, 80, 81, 82, 83, 84, 85, 86, 87, 88, 89, 90, 91, 92, 93, 94, 95, 96, 97, 98, 99] (by decide +kernel) (by decide +kernel)
set_option maxRecDepth 20000 in
theorem gX11_lost_X11_happensTo : GoodIn wsX11_lost (wsV RX11 195 RX11 yX11_happensTo wsX11_happensTo) := goodIn_app (goodIn_of _ (by decide +kernel)) ggX11_lost_X11_happensTo
theorem dX11_lost_0 : decode cX11_lost 0 = .ok (.aload_n 0, 1) := by decide +kernel
theorem dX11_lost_1 : decode cX11_lost 1 = .ok (.iconst 2, 1) := by decide +kernel
theorem dX11_lost_2 : decode cX11_lost 2 = .ok (.iload_n 1, 1) := by decide +kernel
theorem dX11_lost_3 : decode cX11_lost 3 = .ok (.iload_n 2, 1) := by decide +kernel
theorem dX11_lost_4 : decode cX11_lost 4 = .ok (.invokevirtual 195, 3) := by decide +kernel
theorem dX11_lost_7 : decode cX11_lost 7 = .ok (.ireturn, 1) := by decide +kernel
set_option maxRecDepth 20000 in
theorem ggX11_left_X11_isAgreement : GoodIn wsX11_left wsX11_isAgreement := goodIn_r _ [7, 8, 9, 10, 6, 11, 32, 33, 34, 35, 36, 37, 38, 39, 40, 41, 42, 43, 44, 45, 46, 47, 48, 49, 50, 51, 52, 53, 54, 55, 56, 57, 58, 59, 60, 61, 62, 63, 64, 65, 66, 67, 68, 69, 70, 71, 72, 73, 74, 75, 76, 77, 78, 79, 80, 81, 82, 83, 84, 85, 86, 87, 88, 89, 90, 91, 92, 93, 94] (by decide +kernel) (by decide +kernel)
set_option maxRecDepth 20000 in
theorem gX11_left_X11_isAgreement : GoodIn wsX11_left (wsV RX11 199 RX11 yX11_isAgreement wsX11_isAgreement) := goodIn_app (goodIn_of _ (by decide +kernel)) ggX11_left_X11_isAgreement
set_option maxRecDepth 20000 in
theorem ggX11_left_X11_refuse : GoodIn wsX11_left wsX11_refuse := goodIn_r _ [18, 19, 32, 33, 34, 35, 36, 37, 38, 39, 40, 41, 42, 43, 44, 45, 46, 47, 48, 49, 50, 51, 52, 53, 54, 55, 56, 57, 58, 59, 60, 61, 62, 63, 64, 65, 66, 67, 68, 69, 70, 71, 72, 73, 74, 75, 76, 77, 78, 79, 80, 81, 82, 83, 84, 85, 86, 87, 88, 89, 90, 91, 92, 93, 94] (by decide +kernel) (by decide +kernel)
set_option maxRecDepth 20000 in
theorem gX11_left_X11_refuse : GoodIn wsX11_left (wsV RX11 153 RX11 yX11_refuse wsX11_refuse) := goodIn_app (goodIn_of _ (by decide +kernel)) ggX11_left_X11_refuse
theorem dX11_left_0 : decode cX11_left 0 = .ok (.aload_n 0, 1) := by decide +kernel
theorem dX11_left_1 : decode cX11_left 1 = .ok (.iload_n 1, 1) := by decide +kernel
theorem dX11_left_2 : decode cX11_left 2 = .ok (.invokevirtual 199, 3) := by decide +kernel
theorem dX11_left_5 : decode cX11_left 5 = .ok (.ifCond .eq 11, 3) := by decide +kernel
theorem dX11_left_16 : decode cX11_left 16 = .ok (.aload_n 0, 1) := by decide +kernel
theorem dX11_left_17 : decode cX11_left 17 = .ok (.iconst (-1), 1) := by decide +kernel
theorem dX11_left_18 : decode cX11_left 18 = .ok (.invokevirtual 153, 3) := by decide +kernel
theorem dX11_left_21 : decode cX11_left 21 = .ok (.ireturn, 1) := by decide +kernel
set_option maxRecDepth 20000 in
theorem ggX11_happensOf_X11_isAgreement : GoodIn wsX11_happensOf wsX11_isAgreement := goodIn_r _ [7, 8, 9, 10, 6, 11, 29, 30, 31, 32, 33, 34, 35, 36, 37, 38, 39, 40, 41, 42, 43, 44, 45, 46, 47, 48, 49, 50, 51, 52, 53, 54, 55, 56, 57, 58, 59, 60, 61, 62, 63, 64, 65, 66, 67, 68, 69, 70, 71, 72, 73, 74, 75, 76, 77, 78, 79, 80, 81, 82, 83, 84, 85, 86, 87, 88, 89, 90, 91] (by decide +kernel) (by decide +kernel)
set_option maxRecDepth 20000 in
theorem gX11_happensOf_X11_isAgreement : GoodIn wsX11_happensOf (wsV RX11 199 RX11 yX11_isAgreement wsX11_isAgreement) := goodIn_app (goodIn_of _ (by decide +kernel)) ggX11_happensOf_X11_isAgreement
set_option maxRecDepth 20000 in
theorem ggX11_happensOf_X11_refuse : GoodIn wsX11_happensOf wsX11_refuse := goodIn_r _ [15, 16, 29, 30, 31, 32, 33, 34, 35, 36, 37, 38, 39, 40, 41, 42, 43, 44, 45, 46, 47, 48, 49, 50, 51, 52, 53, 54, 55, 56, 57, 58, 59, 60, 61, 62, 63, 64, 65, 66, 67, 68, 69, 70, 71, 72, 73, 74, 75, 76, 77, 78, 79, 80, 81, 82, 83, 84, 85, 86, 87, 88, 89, 90, 91] (by decide +kernel) (by decide +kernel)
set_option maxRecDepth 20000 in
theorem gX11_happensOf_X11_refuse : GoodIn wsX11_happensOf (wsV RX11 153 RX11 yX11_refuse wsX11_refuse) := goodIn_app (goodIn_of _ (by decide +kernel)) ggX11_happensOf_X11_refuse
theorem dX11_happensOf_0 : decode cX11_happensOf 0 = .ok (.aload_n 0, 1) := by decide +kernel
theorem dX11_happensOf_1 : decode cX11_happensOf 1 = .ok (.iload_n 2, 1) := by decide +kernel
theorem dX11_happensOf_2 : decode cX11_happensOf 2 = .ok (.invokevirtual 199, 3) := by decide +kernel
theorem dX11_happensOf_5 : decode cX11_happensOf 5 = .ok (.ifCond .ne 9, 3) := by decide +kernel
theorem dX11_happensOf_8 : decode cX11_happensOf 8 = .ok (.aload_n 0, 1) := by decide +kernel
theorem dX11_happensOf_9 : decode cX11_happensOf 9 = .ok (.iconst (-1), 1) := by decide +kernel
theorem dX11_happensOf_10 : decode cX11_happensOf 10 = .ok (.invokevirtual 153, 3) := by decide +kernel
theorem dX11_happensOf_13 : decode cX11_happensOf 13 = .ok (.ireturn, 1) := by decide +kernel
set_option maxRecDepth 20000 in
theorem ggX11_died_X11_happensOf : GoodIn wsX11_died wsX11_happensOf := goodIn_r _ [5, 6, 7, 8, 9, 10, 4, 11, 12, 13, 14, 15, 16, 17, 18, 19, 20, 21, 22, 23, 24, 25, 26, 27, 28, 29, 30, 31, 32, 33, 34, 35, 36, 37, 38, 39, 40, 41, 42, 43, 44, 45, 46, 47, 48, 49, 50, 51, 52, 53, 54, 55, 56, 57, 58, 59, 60, 61, 62, 63, 64, 65, 66, 67, 68, 69, 70, 71, 72, 73, 74, 75, 76, 77, 78, 79, 80, 81, 82, 83, 84, 85, 86, 87, 88, 89, 90, 91, 92, 93, 94, 95] (by decide +kernel) (by decide +kernel)
set_option maxRecDepth 20000 in
theorem gX11_died_X11_happensOf : GoodIn wsX11_died (wsV RX11 202 RX11 yX11_happensOf wsX11_happensOf) := goodIn_app (goodIn_of _ (by decide +kernel)) ggX11_died_X11_happensOf
theorem dX11_died_0 : decode cX11_died 0 = .ok (.aload_n 0, 1) := by decide +kernel
theorem dX11_died_1 : decode cX11_died 1 = .ok (.iconst 4, 1) := by decide +kernel
theorem dX11_died_2 : decode cX11_died 2 = .ok (.iload_n 1, 1) := by decide +kernel
theorem dX11_died_3 : decode cX11_died 3 = .ok (.iload_n 2, 1) := by decide +kernel
theorem dX11_died_4 : decode cX11_died 4 = .ok (.invokevirtual 202, 3) := by decide +kernel
theorem dX11_died_7 : decode cX11_died 7 = .ok (.ireturn, 1) := by decide +kernel
set_option maxRecDepth 20000 in
theorem ggX11_back_X11_happensOf : GoodIn wsX11_back wsX11_happensOf := goodIn_r _ [5, 6, 7, 8, 9, 10, 4, 11, 12, 13, 14, 15, 16, 17, 18, 19, 20, 21, 22, 23, 24, 25, 26, 27, 28, 29, 30, 31, 32, 33, 34, 35, 36, 37, 38, 39, 40, 41, 42, 43, 44, 45, 46, 47, 48, 49, 50, 51, 52, 53, 54, 55, 56, 57, 58, 59, 60, 61, 62, 63, 64, 65, 66, 67, 68, 69, 70, 71, 72, 73, 74, 75, 76, 77, 78, 79, 80, 81, 82, 83, 84, 85, 86, 87, 88, 89, 90, 91, 92, 93, 94, 95] (by decide +kernel) (by decide +kernel)
set_option maxRecDepth 20000 in
theorem gX11_back_X11_happensOf : GoodIn wsX11_back (wsV RX11 202 RX11 yX11_happensOf wsX11_happensOf) := goodIn_app (goodIn_of _ (by decide +kernel)) ggX11_back_X11_happensOf
theorem dX11_back_0 : decode cX11_back 0 = .ok (.aload_n 0, 1) := by decide +kernel
theorem dX11_back_1 : decode cX11_back 1 = .ok (.iconst 5, 1) := by decide +kernel
theorem dX11_back_2 : decode cX11_back 2 = .ok (.iload_n 1, 1) := by decide +kernel
theorem dX11_back_3 : decode cX11_back 3 = .ok (.iload_n 2, 1) := by decide +kernel
theorem dX11_back_4 : decode cX11_back 4 = .ok (.invokevirtual 202, 3) := by decide +kernel
theorem dX11_back_7 : decode cX11_back 7 = .ok (.ireturn, 1) := by decide +kernel
set_option maxRecDepth 20000 in
theorem ggX11_sign__X11_isMan : GoodIn wsX11_sign_ wsX11_isMan := goodIn_r _ [18, 19, 20, 21, 17, 22, 107, 108, 109, 110, 111, 112, 113, 114, 115, 116, 117, 118, 119, 120, 121, 122, 123, 124, 125, 126, 127, 128, 129, 130, 131, 132, 133, 134, 135, 136, 137, 138, 139, 140, 141, 142, 143, 144, 145, 146, 147, 148, 149, 150, 151, 152, 153, 154, 155, 156, 157, 158, 159, 160, 161, 162, 163, 164, 165, 166, 167, 168, 169] (by decide +kernel) (by decide +kernel)
set_option maxRecDepth 20000 in
theorem gX11_sign__X11_isMan : GoodIn wsX11_sign_ (wsV RX11 297 RX11 yX11_isMan wsX11_isMan) := goodIn_app (goodIn_of _ (by decide +kernel)) ggX11_sign__X11_isMan
set_option maxRecDepth 20000 in
theorem ggX11_sign__X11_refuse : GoodIn wsX11_sign_ wsX11_refuse := goodIn_r _ [35, 36, 107, 108, 109, 110, 111, 112, 113, 114, 115, 116, 117, 118, 119, 120, 121, 122, 123, 124, 125, 126, 127, 128, 129, 130, 131, 132, 133, 134, 135, 136, 137, 138, 139, 140, 141, 142, 143, 144, 145, 146, 147, 148, 149, 150, 151, 152, 153, 154, 155, 156, 157, 158, 159, 160, 161, 162, 163, 164, 165, 166, 167, 168, 169] (by decide +kernel) (by decide +kernel)
set_option maxRecDepth 20000 in
theorem gX11_sign__X11_refuse : GoodIn wsX11_sign_ (wsV RX11 153 RX11 yX11_refuse wsX11_refuse) := goodIn_app (goodIn_of _ (by decide +kernel)) ggX11_sign__X11_refuse
theorem dX11_sign__0 : decode cX11_sign_ 0 = .ok (.aload_n 0, 1) := by decide +kernel
theorem dX11_sign__1 : decode cX11_sign_ 1 = .ok (.iload_n 1, 1) := by decide +kernel
theorem dX11_sign__2 : decode cX11_sign_ 2 = .ok (.invokevirtual 297, 3) := by decide +kernel
theorem dX11_sign__5 : decode cX11_sign_ 5 = .ok (.ifCond .eq 26, 3) := by decide +kernel
theorem dX11_sign__31 : decode cX11_sign_ 31 = .ok (.aload_n 0, 1) := by decide +kernel
theorem dX11_sign__32 : decode cX11_sign_ 32 = .ok (.iconst (-1), 1) := by decide +kernel
theorem dX11_sign__33 : decode cX11_sign_ 33 = .ok (.invokevirtual 153, 3) := by decide +kernel
theorem dX11_sign__36 : decode cX11_sign_ 36 = .ok (.ireturn, 1) := by decide +kernel
set_option maxRecDepth 20000 in
theorem ggX11_off_X11_isAgreement : GoodIn wsX11_off wsX11_isAgreement := goodIn_r _ [7, 8, 9, 10, 6, 11, 32, 33, 34, 35, 36, 37, 38, 39, 40, 41, 42, 43, 44, 45, 46, 47, 48, 49, 50, 51, 52, 53, 54, 55, 56, 57, 58, 59, 60, 61, 62, 63, 64, 65, 66, 67, 68, 69, 70, 71, 72, 73, 74, 75, 76, 77, 78, 79, 80, 81, 82, 83, 84, 85, 86, 87, 88, 89, 90, 91, 92, 93, 94] (by decide +kernel) (by decide +kernel)
set_option maxRecDepth 20000 in
theorem gX11_off_X11_isAgreement : GoodIn wsX11_off (wsV RX11 199 RX11 yX11_isAgreement wsX11_isAgreement) := goodIn_app (goodIn_of _ (by decide +kernel)) ggX11_off_X11_isAgreement
set_option maxRecDepth 20000 in
theorem ggX11_off_X11_refuse : GoodIn wsX11_off wsX11_refuse := goodIn_r _ [18, 19, 32, 33, 34, 35, 36, 37, 38, 39, 40, 41, 42, 43, 44, 45, 46, 47, 48, 49, 50, 51, 52, 53, 54, 55, 56, 57, 58, 59, 60, 61, 62, 63, 64, 65, 66, 67, 68, 69, 70, 71, 72, 73, 74, 75, 76, 77, 78, 79, 80, 81, 82, 83, 84, 85, 86, 87, 88, 89, 90, 91, 92, 93, 94] (by decide +kernel) (by decide +kernel)
set_option maxRecDepth 20000 in
theorem gX11_off_X11_refuse : GoodIn wsX11_off (wsV RX11 153 RX11 yX11_refuse wsX11_refuse) := goodIn_app (goodIn_of _ (by decide +kernel)) ggX11_off_X11_refuse
theorem dX11_off_0 : decode cX11_off 0 = .ok (.aload_n 0, 1) := by decide +kernel
theorem dX11_off_1 : decode cX11_off 1 = .ok (.iload_n 1, 1) := by decide +kernel
theorem dX11_off_2 : decode cX11_off 2 = .ok (.invokevirtual 199, 3) := by decide +kernel
theorem dX11_off_5 : decode cX11_off 5 = .ok (.ifCond .eq 10, 3) := by decide +kernel
theorem dX11_off_15 : decode cX11_off 15 = .ok (.aload_n 0, 1) := by decide +kernel
theorem dX11_off_16 : decode cX11_off 16 = .ok (.iconst (-1), 1) := by decide +kernel
theorem dX11_off_17 : decode cX11_off 17 = .ok (.invokevirtual 153, 3) := by decide +kernel
theorem dX11_off_20 : decode cX11_off 20 = .ok (.ireturn, 1) := by decide +kernel
set_option maxRecDepth 20000 in
theorem ggX11_state_X11_isAgreement : GoodIn wsX11_state wsX11_isAgreement := goodIn_r _ [5, 6, 7, 8, 4, 9, 116, 117, 118, 119, 120, 121, 122, 123, 124, 125, 126, 127, 128, 129, 130, 131, 132, 133, 134, 135, 136, 137, 138, 139, 140, 141, 142, 143, 144, 145, 146, 147, 148, 149, 150, 151, 152, 153, 154, 155, 156, 157, 158, 159, 160, 161, 162, 163, 164, 165, 166, 167, 168, 169, 170, 171, 172, 173, 174, 175, 176, 177, 178] (by decide +kernel) (by decide +kernel)
set_option maxRecDepth 20000 in
theorem gX11_state_X11_isAgreement : GoodIn wsX11_state (wsV RX11 199 RX11 yX11_isAgreement wsX11_isAgreement) := goodIn_app (goodIn_of _ (by decide +kernel)) ggX11_state_X11_isAgreement
set_option maxRecDepth 20000 in
theorem ggX11_state_X11_refuse : GoodIn wsX11_state wsX11_refuse := goodIn_r _ [18, 19, 116, 117, 118, 119, 120, 121, 122, 123, 124, 125, 126, 127, 128, 129, 130, 131, 132, 133, 134, 135, 136, 137, 138, 139, 140, 141, 142, 143, 144, 145, 146, 147, 148, 149, 150, 151, 152, 153, 154, 155, 156, 157, 158, 159, 160, 161, 162, 163, 164, 165, 166, 167, 168, 169, 170, 171, 172, 173, 174, 175, 176, 177, 178] (by decide +kernel) (by decide +kernel)
set_option maxRecDepth 20000 in
theorem gX11_state_X11_refuse : GoodIn wsX11_state (wsV RX11 153 RX11 yX11_refuse wsX11_refuse) := goodIn_app (goodIn_of _ (by decide +kernel)) ggX11_state_X11_refuse
theorem dX11_state_0 : decode cX11_state 0 = .ok (.aload_n 0, 1) := by decide +kernel
theorem dX11_state_1 : decode cX11_state 1 = .ok (.iload_n 1, 1) := by decide +kernel
theorem dX11_state_2 : decode cX11_state 2 = .ok (.invokevirtual 199, 3) := by decide +kernel
theorem dX11_state_5 : decode cX11_state 5 = .ok (.ifCond .eq 12, 3) := by decide +kernel
theorem dX11_state_17 : decode cX11_state 17 = .ok (.iconst (-1), 1) := by decide +kernel
theorem dX11_state_18 : decode cX11_state 18 = .ok (.istore 4, 2) := by decide +kernel
theorem dX11_state_20 : decode cX11_state 20 = .ok (.iload 4, 2) := by decide +kernel
theorem dX11_state_22 : decode cX11_state 22 = .ok (.ifCond .eq 12, 3) := by decide +kernel
theorem dX11_state_25 : decode cX11_state 25 = .ok (.aload_n 0, 1) := by decide +kernel
theorem dX11_state_26 : decode cX11_state 26 = .ok (.iload 4, 2) := by decide +kernel
theorem dX11_state_28 : decode cX11_state 28 = .ok (.invokevirtual 153, 3) := by decide +kernel
theorem dX11_state_31 : decode cX11_state 31 = .ok (.goto 10, 3) := by decide +kernel
theorem dX11_state_41 : decode cX11_state 41 = .ok (.ireturn, 1) := by decide +kernel
set_option maxRecDepth 20000 in
theorem ggX11_earns_X11_isAgreement : GoodIn wsX11_earns wsX11_isAgreement := goodIn_r _ [5, 6, 7, 8, 4, 9, 120, 121, 122, 123, 124, 125, 126, 127, 128, 129, 130, 131, 132, 133, 134, 135, 136, 137, 138, 139, 140, 141, 142, 143, 144, 145, 146, 147, 148, 149, 150, 151, 152, 153, 154, 155, 156, 157, 158, 159, 160, 161, 162, 163, 164, 165, 166, 167, 168, 169, 170, 171, 172, 173, 174, 175, 176, 177, 178, 179, 180, 181, 182] (by decide +kernel) (by decide +kernel)
set_option maxRecDepth 20000 in
theorem gX11_earns_X11_isAgreement : GoodIn wsX11_earns (wsV RX11 199 RX11 yX11_isAgreement wsX11_isAgreement) := goodIn_app (goodIn_of _ (by decide +kernel)) ggX11_earns_X11_isAgreement
set_option maxRecDepth 20000 in
theorem ggX11_earns_X11_refuse : GoodIn wsX11_earns wsX11_refuse := goodIn_r _ [18, 19, 120, 121, 122, 123, 124, 125, 126, 127, 128, 129, 130, 131, 132, 133, 134, 135, 136, 137, 138, 139, 140, 141, 142, 143, 144, 145, 146, 147, 148, 149, 150, 151, 152, 153, 154, 155, 156, 157, 158, 159, 160, 161, 162, 163, 164, 165, 166, 167, 168, 169, 170, 171, 172, 173, 174, 175, 176, 177, 178, 179, 180, 181, 182] (by decide +kernel) (by decide +kernel)
set_option maxRecDepth 20000 in
theorem gX11_earns_X11_refuse : GoodIn wsX11_earns (wsV RX11 153 RX11 yX11_refuse wsX11_refuse) := goodIn_app (goodIn_of _ (by decide +kernel)) ggX11_earns_X11_refuse
theorem dX11_earns_0 : decode cX11_earns 0 = .ok (.aload_n 0, 1) := by decide +kernel
theorem dX11_earns_1 : decode cX11_earns 1 = .ok (.iload_n 1, 1) := by decide +kernel
theorem dX11_earns_2 : decode cX11_earns 2 = .ok (.invokevirtual 199, 3) := by decide +kernel
theorem dX11_earns_5 : decode cX11_earns 5 = .ok (.ifCond .eq 12, 3) := by decide +kernel
theorem dX11_earns_17 : decode cX11_earns 17 = .ok (.iconst (-1), 1) := by decide +kernel
theorem dX11_earns_18 : decode cX11_earns 18 = .ok (.istore 4, 2) := by decide +kernel
theorem dX11_earns_20 : decode cX11_earns 20 = .ok (.iload 4, 2) := by decide +kernel
theorem dX11_earns_22 : decode cX11_earns 22 = .ok (.ifCond .eq 12, 3) := by decide +kernel
theorem dX11_earns_25 : decode cX11_earns 25 = .ok (.aload_n 0, 1) := by decide +kernel
theorem dX11_earns_26 : decode cX11_earns 26 = .ok (.iload 4, 2) := by decide +kernel
theorem dX11_earns_28 : decode cX11_earns 28 = .ok (.invokevirtual 153, 3) := by decide +kernel
theorem dX11_earns_31 : decode cX11_earns 31 = .ok (.goto 10, 3) := by decide +kernel
theorem dX11_earns_41 : decode cX11_earns 41 = .ok (.ireturn, 1) := by decide +kernel
set_option maxRecDepth 20000 in
theorem ggX11_advance_X11_isAgreement : GoodIn wsX11_advance wsX11_isAgreement := goodIn_r _ [8, 9, 10, 11, 7, 12, 114, 115, 116, 117, 118, 119, 120, 121, 122, 123, 124, 125, 126, 127, 128, 129, 130, 131, 132, 133, 134, 135, 136, 137, 138, 139, 140, 141, 142, 143, 144, 145, 146, 147, 148, 149, 150, 151, 152, 153, 154, 155, 156, 157, 158, 159, 160, 161, 162, 163, 164, 165, 166, 167, 168, 169, 170, 171, 172, 173, 174, 175, 176] (by decide +kernel) (by decide +kernel)
set_option maxRecDepth 20000 in
theorem gX11_advance_X11_isAgreement : GoodIn wsX11_advance (wsV RX11 199 RX11 yX11_isAgreement wsX11_isAgreement) := goodIn_app (goodIn_of _ (by decide +kernel)) ggX11_advance_X11_isAgreement
set_option maxRecDepth 20000 in
theorem ggX11_advance_X11_refuse : GoodIn wsX11_advance wsX11_refuse := goodIn_r _ [16, 17, 114, 115, 116, 117, 118, 119, 120, 121, 122, 123, 124, 125, 126, 127, 128, 129, 130, 131, 132, 133, 134, 135, 136, 137, 138, 139, 140, 141, 142, 143, 144, 145, 146, 147, 148, 149, 150, 151, 152, 153, 154, 155, 156, 157, 158, 159, 160, 161, 162, 163, 164, 165, 166, 167, 168, 169, 170, 171, 172, 173, 174, 175, 176] (by decide +kernel) (by decide +kernel)
set_option maxRecDepth 20000 in
theorem gX11_advance_X11_refuse : GoodIn wsX11_advance (wsV RX11 153 RX11 yX11_refuse wsX11_refuse) := goodIn_app (goodIn_of _ (by decide +kernel)) ggX11_advance_X11_refuse
theorem dX11_advance_0 : decode cX11_advance 0 = .ok (.aload_n 0, 1) := by decide +kernel
theorem dX11_advance_1 : decode cX11_advance 1 = .ok (.iload_n 1, 1) := by decide +kernel
theorem dX11_advance_2 : decode cX11_advance 2 = .ok (.invokevirtual 199, 3) := by decide +kernel
theorem dX11_advance_5 : decode cX11_advance 5 = .ok (.ifCond .ne 9, 3) := by decide +kernel
theorem dX11_advance_8 : decode cX11_advance 8 = .ok (.aload_n 0, 1) := by decide +kernel
theorem dX11_advance_9 : decode cX11_advance 9 = .ok (.iconst (-1), 1) := by decide +kernel
theorem dX11_advance_10 : decode cX11_advance 10 = .ok (.invokevirtual 153, 3) := by decide +kernel
theorem dX11_advance_13 : decode cX11_advance 13 = .ok (.ireturn, 1) := by decide +kernel
set_option maxRecDepth 20000 in
theorem ggX11_sold_X11_isAgreement : GoodIn wsX11_sold wsX11_isAgreement := goodIn_r _ [7, 8, 9, 10, 6, 11, 17, 18, 19, 20, 21, 22, 23, 24, 25, 26, 27, 28, 29, 30, 31, 32, 33, 34, 35, 36, 37, 38, 39, 40, 41, 42, 43, 44, 45, 46, 47, 48, 49, 50, 51, 52, 53, 54, 55, 56, 57, 58, 59, 60, 61, 62, 63, 64, 65, 66, 67, 68, 69, 70, 71, 72, 73, 74, 75, 76, 77, 78, 79] (by decide +kernel) (by decide +kernel)
set_option maxRecDepth 20000 in
theorem gX11_sold_X11_isAgreement : GoodIn wsX11_sold (wsV RX11 199 RX11 yX11_isAgreement wsX11_isAgreement) := goodIn_app (goodIn_of _ (by decide +kernel)) ggX11_sold_X11_isAgreement
set_option maxRecDepth 20000 in
theorem ggX11_sold_X11_refuse : GoodIn wsX11_sold wsX11_refuse := goodIn_r _ [15, 16, 17, 18, 19, 20, 21, 22, 23, 24, 25, 26, 27, 28, 29, 30, 31, 32, 33, 34, 35, 36, 37, 38, 39, 40, 41, 42, 43, 44, 45, 46, 47, 48, 49, 50, 51, 52, 53, 54, 55, 56, 57, 58, 59, 60, 61, 62, 63, 64, 65, 66, 67, 68, 69, 70, 71, 72, 73, 74, 75, 76, 77, 78, 79] (by decide +kernel) (by decide +kernel)
set_option maxRecDepth 20000 in
theorem gX11_sold_X11_refuse : GoodIn wsX11_sold (wsV RX11 153 RX11 yX11_refuse wsX11_refuse) := goodIn_app (goodIn_of _ (by decide +kernel)) ggX11_sold_X11_refuse
theorem dX11_sold_0 : decode cX11_sold 0 = .ok (.aload_n 0, 1) := by decide +kernel
theorem dX11_sold_1 : decode cX11_sold 1 = .ok (.iload_n 1, 1) := by decide +kernel
theorem dX11_sold_2 : decode cX11_sold 2 = .ok (.invokevirtual 199, 3) := by decide +kernel
theorem dX11_sold_5 : decode cX11_sold 5 = .ok (.ifCond .ne 9, 3) := by decide +kernel
theorem dX11_sold_8 : decode cX11_sold 8 = .ok (.aload_n 0, 1) := by decide +kernel
theorem dX11_sold_9 : decode cX11_sold 9 = .ok (.iconst (-1), 1) := by decide +kernel
theorem dX11_sold_10 : decode cX11_sold 10 = .ok (.invokevirtual 153, 3) := by decide +kernel
theorem dX11_sold_13 : decode cX11_sold 13 = .ok (.ireturn, 1) := by decide +kernel
set_option maxRecDepth 20000 in
theorem ggX11_allot_X11_isAgreement : GoodIn wsX11_allot wsX11_isAgreement := goodIn_r _ [9, 10, 11, 12, 8, 13, 134, 135, 136, 137, 138, 139, 140, 141, 142, 143, 144, 145, 146, 147, 148, 149, 150, 151, 152, 153, 154, 155, 156, 157, 158, 159, 160, 161, 162, 163, 164, 165, 166, 167, 168, 169, 170, 171, 172, 173, 174, 175, 176, 177, 178, 179, 180, 181, 182, 183, 184, 185, 186, 187, 188, 189, 190, 191, 192, 193, 194, 195, 196] (by decide +kernel) (by decide +kernel)
set_option maxRecDepth 20000 in
theorem gX11_allot_X11_isAgreement : GoodIn wsX11_allot (wsV RX11 199 RX11 yX11_isAgreement wsX11_isAgreement) := goodIn_app (goodIn_of _ (by decide +kernel)) ggX11_allot_X11_isAgreement
set_option maxRecDepth 20000 in
theorem ggX11_allot_X11_refuse : GoodIn wsX11_allot wsX11_refuse := goodIn_r _ [17, 18, 134, 135, 136, 137, 138, 139, 140, 141, 142, 143, 144, 145, 146, 147, 148, 149, 150, 151, 152, 153, 154, 155, 156, 157, 158, 159, 160, 161, 162, 163, 164, 165, 166, 167, 168, 169, 170, 171, 172, 173, 174, 175, 176, 177, 178, 179, 180, 181, 182, 183, 184, 185, 186, 187, 188, 189, 190, 191, 192, 193, 194, 195, 196] (by decide +kernel) (by decide +kernel)
set_option maxRecDepth 20000 in
theorem gX11_allot_X11_refuse : GoodIn wsX11_allot (wsV RX11 153 RX11 yX11_refuse wsX11_refuse) := goodIn_app (goodIn_of _ (by decide +kernel)) ggX11_allot_X11_refuse
theorem dX11_allot_0 : decode cX11_allot 0 = .ok (.aload_n 0, 1) := by decide +kernel
theorem dX11_allot_1 : decode cX11_allot 1 = .ok (.iload_n 1, 1) := by decide +kernel
theorem dX11_allot_2 : decode cX11_allot 2 = .ok (.invokevirtual 199, 3) := by decide +kernel
theorem dX11_allot_5 : decode cX11_allot 5 = .ok (.ifCond .ne 9, 3) := by decide +kernel
theorem dX11_allot_8 : decode cX11_allot 8 = .ok (.aload_n 0, 1) := by decide +kernel
theorem dX11_allot_9 : decode cX11_allot 9 = .ok (.iconst (-1), 1) := by decide +kernel
theorem dX11_allot_10 : decode cX11_allot 10 = .ok (.invokevirtual 153, 3) := by decide +kernel
theorem dX11_allot_13 : decode cX11_allot 13 = .ok (.ireturn, 1) := by decide +kernel
set_option maxRecDepth 20000 in
theorem ggX11_fine_X11_isAgreement : GoodIn wsX11_fine wsX11_isAgreement := goodIn_r _ [12, 13, 14, 15, 11, 16, 22, 23, 24, 25, 26, 27, 28, 29, 30, 31, 32, 33, 34, 35, 36, 37, 38, 39, 40, 41, 42, 43, 44, 45, 46, 47, 48, 49, 50, 51, 52, 53, 54, 55, 56, 57, 58, 59, 60, 61, 62, 63, 64, 65, 66, 67, 68, 69, 70, 71, 72, 73, 74, 75, 76, 77, 78, 79, 80, 81, 82, 83, 84] (by decide +kernel) (by decide +kernel)
set_option maxRecDepth 20000 in
theorem gX11_fine_X11_isAgreement : GoodIn wsX11_fine (wsV RX11 199 RX11 yX11_isAgreement wsX11_isAgreement) := goodIn_app (goodIn_of _ (by decide +kernel)) ggX11_fine_X11_isAgreement
set_option maxRecDepth 20000 in
theorem ggX11_fine_X11_refuse : GoodIn wsX11_fine wsX11_refuse := goodIn_r _ [20, 21, 22, 23, 24, 25, 26, 27, 28, 29, 30, 31, 32, 33, 34, 35, 36, 37, 38, 39, 40, 41, 42, 43, 44, 45, 46, 47, 48, 49, 50, 51, 52, 53, 54, 55, 56, 57, 58, 59, 60, 61, 62, 63, 64, 65, 66, 67, 68, 69, 70, 71, 72, 73, 74, 75, 76, 77, 78, 79, 80, 81, 82, 83, 84] (by decide +kernel) (by decide +kernel)
set_option maxRecDepth 20000 in
theorem gX11_fine_X11_refuse : GoodIn wsX11_fine (wsV RX11 153 RX11 yX11_refuse wsX11_refuse) := goodIn_app (goodIn_of _ (by decide +kernel)) ggX11_fine_X11_refuse
theorem dX11_fine_0 : decode cX11_fine 0 = .ok (.aload_n 0, 1) := by decide +kernel
theorem dX11_fine_1 : decode cX11_fine 1 = .ok (.iload_n 1, 1) := by decide +kernel
theorem dX11_fine_2 : decode cX11_fine 2 = .ok (.invokevirtual 199, 3) := by decide +kernel
theorem dX11_fine_5 : decode cX11_fine 5 = .ok (.ifCond .ne 9, 3) := by decide +kernel
theorem dX11_fine_8 : decode cX11_fine 8 = .ok (.aload_n 0, 1) := by decide +kernel
theorem dX11_fine_9 : decode cX11_fine 9 = .ok (.iconst (-1), 1) := by decide +kernel
theorem dX11_fine_10 : decode cX11_fine 10 = .ok (.invokevirtual 153, 3) := by decide +kernel
theorem dX11_fine_13 : decode cX11_fine 13 = .ok (.ireturn, 1) := by decide +kernel
set_option maxRecDepth 20000 in
theorem ggX11_isFine_X11_isAgreement : GoodIn wsX11_isFine wsX11_isAgreement := goodIn_r _ [6, 7, 8, 9, 5, 10, 11, 12, 13, 14, 15, 16, 17, 18, 19, 20, 21, 22, 23, 24, 25, 26, 27, 28, 29, 30, 31, 32, 33, 34, 35, 36, 37, 38, 39, 40, 41, 42, 43, 44, 45, 46, 47, 48, 49, 50, 51, 52, 53, 54, 55, 56, 57, 58, 59, 60, 61, 62, 63, 64, 65, 66, 67, 68, 69, 70, 71, 72, 73] (by decide +kernel) (by decide +kernel)
set_option maxRecDepth 20000 in
theorem gX11_isFine_X11_isAgreement : GoodIn wsX11_isFine (wsV RX11 199 RX11 yX11_isAgreement wsX11_isAgreement) := goodIn_app (goodIn_of _ (by decide +kernel)) ggX11_isFine_X11_isAgreement
theorem dX11_isFine_0 : decode cX11_isFine 0 = .ok (.aload_n 0, 1) := by decide +kernel
theorem dX11_isFine_1 : decode cX11_isFine 1 = .ok (.iload_n 1, 1) := by decide +kernel
theorem dX11_isFine_2 : decode cX11_isFine 2 = .ok (.invokevirtual 199, 3) := by decide +kernel
theorem dX11_isFine_5 : decode cX11_isFine 5 = .ok (.ifCond .eq 20, 3) := by decide +kernel
theorem dX11_isFine_25 : decode cX11_isFine 25 = .ok (.iconst 0, 1) := by decide +kernel
theorem dX11_isFine_26 : decode cX11_isFine 26 = .ok (.ireturn, 1) := by decide +kernel
set_option maxRecDepth 20000 in
theorem ggX11_read_X11_isFine : GoodIn wsX11_read wsX11_isFine := goodIn_r _ [8, 9, 10, 11, 12, 7, 13, 14, 15, 16, 17, 23, 24, 25, 26, 27, 28, 29, 30, 31, 32, 33, 34, 35, 36, 37, 38, 39, 40, 41, 42, 43, 44, 45, 46, 47, 48, 49, 50, 51, 52, 53, 54, 55, 56, 57, 58, 59, 60, 61, 62, 63, 64, 65, 66, 67, 68, 69, 70, 71, 72, 73, 74, 75, 76, 77, 78, 79, 80, 81, 82, 83, 84, 85] (by decide +kernel) (by decide +kernel)
set_option maxRecDepth 20000 in
theorem gX11_read_X11_isFine : GoodIn wsX11_read (wsV RX11 312 RX11 yX11_isFine wsX11_isFine) := goodIn_app (goodIn_of _ (by decide +kernel)) ggX11_read_X11_isFine
set_option maxRecDepth 20000 in
theorem ggX11_read_X11_refuse : GoodIn wsX11_read wsX11_refuse := goodIn_r _ [21, 22, 23, 24, 25, 26, 27, 28, 29, 30, 31, 32, 33, 34, 35, 36, 37, 38, 39, 40, 41, 42, 43, 44, 45, 46, 47, 48, 49, 50, 51, 52, 53, 54, 55, 56, 57, 58, 59, 60, 61, 62, 63, 64, 65, 66, 67, 68, 69, 70, 71, 72, 73, 74, 75, 76, 77, 78, 79, 80, 81, 82, 83, 84, 85] (by decide +kernel) (by decide +kernel)
set_option maxRecDepth 20000 in
theorem gX11_read_X11_refuse : GoodIn wsX11_read (wsV RX11 153 RX11 yX11_refuse wsX11_refuse) := goodIn_app (goodIn_of _ (by decide +kernel)) ggX11_read_X11_refuse
theorem dX11_read_0 : decode cX11_read 0 = .ok (.aload_n 0, 1) := by decide +kernel
theorem dX11_read_1 : decode cX11_read 1 = .ok (.iload_n 1, 1) := by decide +kernel
theorem dX11_read_2 : decode cX11_read 2 = .ok (.iload_n 2, 1) := by decide +kernel
theorem dX11_read_3 : decode cX11_read 3 = .ok (.invokevirtual 312, 3) := by decide +kernel
theorem dX11_read_6 : decode cX11_read 6 = .ok (.ifCond .ne 9, 3) := by decide +kernel
theorem dX11_read_9 : decode cX11_read 9 = .ok (.aload_n 0, 1) := by decide +kernel
theorem dX11_read_10 : decode cX11_read 10 = .ok (.iconst (-1), 1) := by decide +kernel
theorem dX11_read_11 : decode cX11_read 11 = .ok (.invokevirtual 153, 3) := by decide +kernel
theorem dX11_read_14 : decode cX11_read 14 = .ok (.ireturn, 1) := by decide +kernel
set_option maxRecDepth 20000 in
theorem ggX11_stands_X11_isFine : GoodIn wsX11_stands wsX11_isFine := goodIn_r _ [6, 7, 8, 9, 10, 5, 11, 12, 13, 14, 15, 136, 137, 138, 139, 140, 141, 142, 143, 144, 145, 146, 147, 148, 149, 150, 151, 152, 153, 154, 155, 156, 157, 158, 159, 160, 161, 162, 163, 164, 165, 166, 167, 168, 169, 170, 171, 172, 173, 174, 175, 176, 177, 178, 179, 180, 181, 182, 183, 184, 185, 186, 187, 188, 189, 190, 191, 192, 193, 194, 195, 196, 197, 198] (by decide +kernel) (by decide +kernel)
set_option maxRecDepth 20000 in
theorem gX11_stands_X11_isFine : GoodIn wsX11_stands (wsV RX11 312 RX11 yX11_isFine wsX11_isFine) := goodIn_app (goodIn_of _ (by decide +kernel)) ggX11_stands_X11_isFine
set_option maxRecDepth 20000 in
theorem ggX11_stands_X11_refuse : GoodIn wsX11_stands wsX11_refuse := goodIn_r _ [19, 20, 136, 137, 138, 139, 140, 141, 142, 143, 144, 145, 146, 147, 148, 149, 150, 151, 152, 153, 154, 155, 156, 157, 158, 159, 160, 161, 162, 163, 164, 165, 166, 167, 168, 169, 170, 171, 172, 173, 174, 175, 176, 177, 178, 179, 180, 181, 182, 183, 184, 185, 186, 187, 188, 189, 190, 191, 192, 193, 194, 195, 196, 197, 198] (by decide +kernel) (by decide +kernel)
set_option maxRecDepth 20000 in
theorem gX11_stands_X11_refuse : GoodIn wsX11_stands (wsV RX11 153 RX11 yX11_refuse wsX11_refuse) := goodIn_app (goodIn_of _ (by decide +kernel)) ggX11_stands_X11_refuse
theorem dX11_stands_0 : decode cX11_stands 0 = .ok (.aload_n 0, 1) := by decide +kernel
theorem dX11_stands_1 : decode cX11_stands 1 = .ok (.iload_n 1, 1) := by decide +kernel
theorem dX11_stands_2 : decode cX11_stands 2 = .ok (.iload_n 2, 1) := by decide +kernel
theorem dX11_stands_3 : decode cX11_stands 3 = .ok (.invokevirtual 312, 3) := by decide +kernel
theorem dX11_stands_6 : decode cX11_stands 6 = .ok (.ifCond .ne 9, 3) := by decide +kernel
theorem dX11_stands_9 : decode cX11_stands 9 = .ok (.aload_n 0, 1) := by decide +kernel
theorem dX11_stands_10 : decode cX11_stands 10 = .ok (.iconst (-1), 1) := by decide +kernel
theorem dX11_stands_11 : decode cX11_stands 11 = .ok (.invokevirtual 153, 3) := by decide +kernel
theorem dX11_stands_14 : decode cX11_stands 14 = .ok (.ireturn, 1) := by decide +kernel
set_option maxRecDepth 20000 in
theorem ggX11_rations_X11_isAgreement : GoodIn wsX11_rations wsX11_isAgreement := goodIn_r _ [10, 11, 12, 13, 9, 14, 20, 21, 22, 23, 24, 25, 26, 27, 28, 29, 30, 31, 32, 33, 34, 35, 36, 37, 38, 39, 40, 41, 42, 43, 44, 45, 46, 47, 48, 49, 50, 51, 52, 53, 54, 55, 56, 57, 58, 59, 60, 61, 62, 63, 64, 65, 66, 67, 68, 69, 70, 71, 72, 73, 74, 75, 76, 77, 78, 79, 80, 81, 82] (by decide +kernel) (by decide +kernel)
set_option maxRecDepth 20000 in
theorem gX11_rations_X11_isAgreement : GoodIn wsX11_rations (wsV RX11 199 RX11 yX11_isAgreement wsX11_isAgreement) := goodIn_app (goodIn_of _ (by decide +kernel)) ggX11_rations_X11_isAgreement
set_option maxRecDepth 20000 in
theorem ggX11_rations_X11_refuse : GoodIn wsX11_rations wsX11_refuse := goodIn_r _ [18, 19, 20, 21, 22, 23, 24, 25, 26, 27, 28, 29, 30, 31, 32, 33, 34, 35, 36, 37, 38, 39, 40, 41, 42, 43, 44, 45, 46, 47, 48, 49, 50, 51, 52, 53, 54, 55, 56, 57, 58, 59, 60, 61, 62, 63, 64, 65, 66, 67, 68, 69, 70, 71, 72, 73, 74, 75, 76, 77, 78, 79, 80, 81, 82] (by decide +kernel) (by decide +kernel)
set_option maxRecDepth 20000 in
theorem gX11_rations_X11_refuse : GoodIn wsX11_rations (wsV RX11 153 RX11 yX11_refuse wsX11_refuse) := goodIn_app (goodIn_of _ (by decide +kernel)) ggX11_rations_X11_refuse
theorem dX11_rations_0 : decode cX11_rations 0 = .ok (.aload_n 0, 1) := by decide +kernel
theorem dX11_rations_1 : decode cX11_rations 1 = .ok (.iload_n 1, 1) := by decide +kernel
theorem dX11_rations_2 : decode cX11_rations 2 = .ok (.invokevirtual 199, 3) := by decide +kernel
theorem dX11_rations_5 : decode cX11_rations 5 = .ok (.ifCond .ne 9, 3) := by decide +kernel
theorem dX11_rations_8 : decode cX11_rations 8 = .ok (.aload_n 0, 1) := by decide +kernel
theorem dX11_rations_9 : decode cX11_rations 9 = .ok (.iconst (-1), 1) := by decide +kernel
theorem dX11_rations_10 : decode cX11_rations 10 = .ok (.invokevirtual 153, 3) := by decide +kernel
theorem dX11_rations_13 : decode cX11_rations 13 = .ok (.ireturn, 1) := by decide +kernel
set_option maxRecDepth 20000 in
theorem ggX11_owed_X11_isAgreement : GoodIn wsX11_owed wsX11_isAgreement := goodIn_r _ [5, 6, 7, 8, 4, 9, 157, 158, 159, 160, 161, 162, 163, 164, 165, 166, 167, 168, 169, 170, 171, 172, 173, 174, 175, 176, 177, 178, 179, 180, 181, 182, 183, 184, 185, 186, 187, 188, 189, 190, 191, 192, 193, 194, 195, 196, 197, 198, 199, 200, 201, 202, 203, 204, 205, 206, 207, 208, 209, 210, 211, 212, 213, 214, 215, 216, 217, 218, 219] (by decide +kernel) (by decide +kernel)
set_option maxRecDepth 20000 in
theorem gX11_owed_X11_isAgreement : GoodIn wsX11_owed (wsV RX11 199 RX11 yX11_isAgreement wsX11_isAgreement) := goodIn_app (goodIn_of _ (by decide +kernel)) ggX11_owed_X11_isAgreement
set_option maxRecDepth 20000 in
theorem ggX11_owed_X11_refuseFar : GoodIn wsX11_owed wsX11_refuseFar := goodIn_r _ [18, 19, 20, 21, 22, 4, 23, 24, 157, 158, 159, 160, 161, 162, 163, 164, 165, 166, 167, 168, 169, 170, 171, 172, 173, 174, 175, 176, 177, 178, 179, 180, 181, 182, 183, 184, 185, 186, 187, 188, 189, 190, 191, 192, 193, 194, 195, 196, 197, 198, 199, 200, 201, 202, 203, 204, 205, 206, 207, 208, 209, 210, 211, 212, 213, 214, 215, 216, 217, 218, 219] (by decide +kernel) (by decide +kernel)
set_option maxRecDepth 20000 in
theorem gX11_owed_X11_refuseFar : GoodIn wsX11_owed (wsV RX11 320 RX11 yX11_refuseFar wsX11_refuseFar) := goodIn_app (goodIn_of _ (by decide +kernel)) ggX11_owed_X11_refuseFar
theorem dX11_owed_0 : decode cX11_owed 0 = .ok (.aload_n 0, 1) := by decide +kernel
theorem dX11_owed_1 : decode cX11_owed 1 = .ok (.iload_n 1, 1) := by decide +kernel
theorem dX11_owed_2 : decode cX11_owed 2 = .ok (.invokevirtual 199, 3) := by decide +kernel
theorem dX11_owed_5 : decode cX11_owed 5 = .ok (.ifCond .eq 12, 3) := by decide +kernel
theorem dX11_owed_17 : decode cX11_owed 17 = .ok (.iconst (-1), 1) := by decide +kernel
theorem dX11_owed_18 : decode cX11_owed 18 = .ok (.istore 4, 2) := by decide +kernel
theorem dX11_owed_20 : decode cX11_owed 20 = .ok (.iload 4, 2) := by decide +kernel
theorem dX11_owed_22 : decode cX11_owed 22 = .ok (.ifCond .eq 12, 3) := by decide +kernel
theorem dX11_owed_25 : decode cX11_owed 25 = .ok (.aload_n 0, 1) := by decide +kernel
theorem dX11_owed_26 : decode cX11_owed 26 = .ok (.iload 4, 2) := by decide +kernel
theorem dX11_owed_28 : decode cX11_owed 28 = .ok (.invokevirtual 320, 3) := by decide +kernel
theorem dX11_owed_31 : decode cX11_owed 31 = .ok (.goto 10, 3) := by decide +kernel
theorem dX11_owed_41 : decode cX11_owed 41 = .ok (.ireturn, 1) := by decide +kernel
set_option maxRecDepth 20000 in
theorem ggX11_agreementOf_X11_isAgreement : GoodIn wsX11_agreementOf wsX11_isAgreement := goodIn_r _ [14, 15, 16, 17, 13, 18, 35, 36, 37, 38, 39, 40, 41, 42, 43, 44, 45, 46, 47, 48, 49, 50, 51, 52, 53, 54, 55, 56, 57, 58, 59, 60, 61, 62, 63, 64, 65, 66, 67, 68, 69, 70, 71, 72, 73, 74, 75, 76, 77, 78, 79, 80, 81, 82, 83, 84, 85, 86, 87, 88, 89, 90, 91, 92, 93, 94, 95, 96, 97] (by decide +kernel) (by decide +kernel)
set_option maxRecDepth 20000 in
theorem gX11_agreementOf_X11_isAgreement : GoodIn wsX11_agreementOf (wsV RX11 199 RX11 yX11_isAgreement wsX11_isAgreement) := goodIn_app (goodIn_of _ (by decide +kernel)) ggX11_agreementOf_X11_isAgreement
set_option maxRecDepth 20000 in
theorem ggX11_agreementOf_X11_refuse : GoodIn wsX11_agreementOf wsX11_refuse := goodIn_r _ [22, 23, 35, 36, 37, 38, 39, 40, 41, 42, 43, 44, 45, 46, 47, 48, 49, 50, 51, 52, 53, 54, 55, 56, 57, 58, 59, 60, 61, 62, 63, 64, 65, 66, 67, 68, 69, 70, 71, 72, 73, 74, 75, 76, 77, 78, 79, 80, 81, 82, 83, 84, 85, 86, 87, 88, 89, 90, 91, 92, 93, 94, 95, 96, 97] (by decide +kernel) (by decide +kernel)
set_option maxRecDepth 20000 in
theorem gX11_agreementOf_X11_refuse : GoodIn wsX11_agreementOf (wsV RX11 153 RX11 yX11_refuse wsX11_refuse) := goodIn_app (goodIn_of _ (by decide +kernel)) ggX11_agreementOf_X11_refuse
theorem dX11_agreementOf_0 : decode cX11_agreementOf 0 = .ok (.aload_n 0, 1) := by decide +kernel
theorem dX11_agreementOf_1 : decode cX11_agreementOf 1 = .ok (.iload_n 1, 1) := by decide +kernel
theorem dX11_agreementOf_2 : decode cX11_agreementOf 2 = .ok (.invokevirtual 199, 3) := by decide +kernel
theorem dX11_agreementOf_5 : decode cX11_agreementOf 5 = .ok (.ifCond .ne 9, 3) := by decide +kernel
theorem dX11_agreementOf_8 : decode cX11_agreementOf 8 = .ok (.aload_n 0, 1) := by decide +kernel
theorem dX11_agreementOf_9 : decode cX11_agreementOf 9 = .ok (.iconst (-1), 1) := by decide +kernel
theorem dX11_agreementOf_10 : decode cX11_agreementOf 10 = .ok (.invokevirtual 153, 3) := by decide +kernel
theorem dX11_agreementOf_13 : decode cX11_agreementOf 13 = .ok (.ireturn, 1) := by decide +kernel
set_option maxRecDepth 20000 in
theorem ggX11_aboard_X11_isVoyage : GoodIn wsX11_aboard wsX11_isVoyage := goodIn_r _ [5, 6, 7, 8, 4, 9, 121, 122, 123, 124, 125, 126, 127, 128, 129, 130, 131, 132, 133, 134, 135, 136, 137, 138, 139, 140, 141, 142, 143, 144, 145, 146, 147, 148, 149, 150, 151, 152, 153, 154, 155, 156, 157, 158, 159, 160, 161, 162, 163, 164, 165, 166, 167, 168, 169, 170, 171, 172, 173, 174, 175, 176, 177, 178, 179, 180, 181, 182, 183] (by decide +kernel) (by decide +kernel)
set_option maxRecDepth 20000 in
theorem gX11_aboard_X11_isVoyage : GoodIn wsX11_aboard (wsV RX11 185 RX11 yX11_isVoyage wsX11_isVoyage) := goodIn_app (goodIn_of _ (by decide +kernel)) ggX11_aboard_X11_isVoyage
set_option maxRecDepth 20000 in
theorem ggX11_aboard_X11_refuse : GoodIn wsX11_aboard wsX11_refuse := goodIn_r _ [18, 19, 121, 122, 123, 124, 125, 126, 127, 128, 129, 130, 131, 132, 133, 134, 135, 136, 137, 138, 139, 140, 141, 142, 143, 144, 145, 146, 147, 148, 149, 150, 151, 152, 153, 154, 155, 156, 157, 158, 159, 160, 161, 162, 163, 164, 165, 166, 167, 168, 169, 170, 171, 172, 173, 174, 175, 176, 177, 178, 179, 180, 181, 182, 183] (by decide +kernel) (by decide +kernel)
set_option maxRecDepth 20000 in
theorem gX11_aboard_X11_refuse : GoodIn wsX11_aboard (wsV RX11 153 RX11 yX11_refuse wsX11_refuse) := goodIn_app (goodIn_of _ (by decide +kernel)) ggX11_aboard_X11_refuse
theorem dX11_aboard_0 : decode cX11_aboard 0 = .ok (.aload_n 0, 1) := by decide +kernel
theorem dX11_aboard_1 : decode cX11_aboard 1 = .ok (.iload_n 1, 1) := by decide +kernel
theorem dX11_aboard_2 : decode cX11_aboard 2 = .ok (.invokevirtual 185, 3) := by decide +kernel
theorem dX11_aboard_5 : decode cX11_aboard 5 = .ok (.ifCond .eq 12, 3) := by decide +kernel
theorem dX11_aboard_17 : decode cX11_aboard 17 = .ok (.iconst (-1), 1) := by decide +kernel
theorem dX11_aboard_18 : decode cX11_aboard 18 = .ok (.istore 4, 2) := by decide +kernel
theorem dX11_aboard_20 : decode cX11_aboard 20 = .ok (.iload 4, 2) := by decide +kernel
theorem dX11_aboard_22 : decode cX11_aboard 22 = .ok (.ifCond .eq 12, 3) := by decide +kernel
theorem dX11_aboard_25 : decode cX11_aboard 25 = .ok (.aload_n 0, 1) := by decide +kernel
theorem dX11_aboard_26 : decode cX11_aboard 26 = .ok (.iload 4, 2) := by decide +kernel
theorem dX11_aboard_28 : decode cX11_aboard 28 = .ok (.invokevirtual 153, 3) := by decide +kernel
theorem dX11_aboard_31 : decode cX11_aboard 31 = .ok (.goto 10, 3) := by decide +kernel
theorem dX11_aboard_41 : decode cX11_aboard 41 = .ok (.ireturn, 1) := by decide +kernel
set_option maxRecDepth 20000 in
theorem ggX11_group_X11_isMan : GoodIn wsX11_group wsX11_isMan := goodIn_r _ [6, 7, 8, 9, 5, 10, 26, 27, 28, 29, 30, 31, 32, 33, 34, 35, 36, 37, 38, 39, 40, 41, 42, 43, 44, 45, 46, 47, 48, 49, 50, 51, 52, 53, 54, 55, 56, 57, 58, 59, 60, 61, 62, 63, 64, 65, 66, 67, 68, 69, 70, 71, 72, 73, 74, 75, 76, 77, 78, 79, 80, 81, 82, 83, 84, 85, 86, 87, 88] (by decide +kernel) (by decide +kernel)
set_option maxRecDepth 20000 in
theorem gX11_group_X11_isMan : GoodIn wsX11_group (wsV RX11 297 RX11 yX11_isMan wsX11_isMan) := goodIn_app (goodIn_of _ (by decide +kernel)) ggX11_group_X11_isMan
set_option maxRecDepth 20000 in
theorem ggX11_group_X11_refuse : GoodIn wsX11_group wsX11_refuse := goodIn_r _ [14, 15, 26, 27, 28, 29, 30, 31, 32, 33, 34, 35, 36, 37, 38, 39, 40, 41, 42, 43, 44, 45, 46, 47, 48, 49, 50, 51, 52, 53, 54, 55, 56, 57, 58, 59, 60, 61, 62, 63, 64, 65, 66, 67, 68, 69, 70, 71, 72, 73, 74, 75, 76, 77, 78, 79, 80, 81, 82, 83, 84, 85, 86, 87, 88] (by decide +kernel) (by decide +kernel)
set_option maxRecDepth 20000 in
theorem gX11_group_X11_refuse : GoodIn wsX11_group (wsV RX11 153 RX11 yX11_refuse wsX11_refuse) := goodIn_app (goodIn_of _ (by decide +kernel)) ggX11_group_X11_refuse
theorem dX11_group_0 : decode cX11_group 0 = .ok (.aload_n 0, 1) := by decide +kernel
theorem dX11_group_1 : decode cX11_group 1 = .ok (.iload_n 1, 1) := by decide +kernel
theorem dX11_group_2 : decode cX11_group 2 = .ok (.invokevirtual 297, 3) := by decide +kernel
theorem dX11_group_5 : decode cX11_group 5 = .ok (.ifCond .ne 9, 3) := by decide +kernel
theorem dX11_group_8 : decode cX11_group 8 = .ok (.aload_n 0, 1) := by decide +kernel
theorem dX11_group_9 : decode cX11_group 9 = .ok (.iconst (-1), 1) := by decide +kernel
theorem dX11_group_10 : decode cX11_group 10 = .ok (.invokevirtual 153, 3) := by decide +kernel
theorem dX11_group_13 : decode cX11_group 13 = .ok (.ireturn, 1) := by decide +kernel
set_option maxRecDepth 20000 in
theorem ggX11_borrowed_X11_isAgreement : GoodIn wsX11_borrowed wsX11_isAgreement := goodIn_r _ [10, 4, 11, 12, 9, 13, 36, 37, 38, 39, 40, 41, 42, 43, 44, 45, 46, 47, 48, 49, 50, 51, 52, 53, 54, 55, 56, 57, 58, 59, 60, 61, 62, 63, 64, 65, 66, 67, 68, 69, 70, 71, 72, 73, 74, 75, 76, 77, 78, 79, 80, 81, 82, 83, 84, 85, 86, 87, 88, 89, 90, 91, 92, 93, 94, 95, 96, 97, 98] (by decide +kernel) (by decide +kernel)
set_option maxRecDepth 20000 in
theorem gX11_borrowed_X11_isAgreement : GoodIn wsX11_borrowed (wsV RX11 199 RX11 yX11_isAgreement wsX11_isAgreement) := goodIn_app (goodIn_of _ (by decide +kernel)) ggX11_borrowed_X11_isAgreement
set_option maxRecDepth 20000 in
theorem ggX11_borrowed_X11_refuse : GoodIn wsX11_borrowed wsX11_refuse := goodIn_r _ [17, 18, 36, 37, 38, 39, 40, 41, 42, 43, 44, 45, 46, 47, 48, 49, 50, 51, 52, 53, 54, 55, 56, 57, 58, 59, 60, 61, 62, 63, 64, 65, 66, 67, 68, 69, 70, 71, 72, 73, 74, 75, 76, 77, 78, 79, 80, 81, 82, 83, 84, 85, 86, 87, 88, 89, 90, 91, 92, 93, 94, 95, 96, 97, 98] (by decide +kernel) (by decide +kernel)
set_option maxRecDepth 20000 in
theorem gX11_borrowed_X11_refuse : GoodIn wsX11_borrowed (wsV RX11 153 RX11 yX11_refuse wsX11_refuse) := goodIn_app (goodIn_of _ (by decide +kernel)) ggX11_borrowed_X11_refuse
theorem dX11_borrowed_0 : decode cX11_borrowed 0 = .ok (.aload_n 0, 1) := by decide +kernel
theorem dX11_borrowed_1 : decode cX11_borrowed 1 = .ok (.iload_n 1, 1) := by decide +kernel
theorem dX11_borrowed_2 : decode cX11_borrowed 2 = .ok (.invokevirtual 199, 3) := by decide +kernel
theorem dX11_borrowed_5 : decode cX11_borrowed 5 = .ok (.ifCond .ne 9, 3) := by decide +kernel
theorem dX11_borrowed_8 : decode cX11_borrowed 8 = .ok (.aload_n 0, 1) := by decide +kernel
theorem dX11_borrowed_9 : decode cX11_borrowed 9 = .ok (.iconst (-1), 1) := by decide +kernel
theorem dX11_borrowed_10 : decode cX11_borrowed 10 = .ok (.invokevirtual 153, 3) := by decide +kernel
theorem dX11_borrowed_13 : decode cX11_borrowed 13 = .ok (.ireturn, 1) := by decide +kernel
set_option maxRecDepth 20000 in
theorem ggX11_home_X11_isMan : GoodIn wsX11_home wsX11_isMan := goodIn_r _ [12, 13, 14, 15, 11, 16, 124, 125, 126, 127, 128, 129, 130, 131, 132, 133, 134, 135, 136, 137, 138, 139, 140, 141, 142, 143, 144, 145, 146, 147, 148, 149, 150, 151, 152, 153, 154, 155, 156, 157, 158, 159, 160, 161, 162, 163, 164, 165, 166, 167, 168, 169, 170, 171, 172, 173, 174, 175, 176, 177, 178, 179, 180, 181, 182, 183, 184, 185, 186] (by decide +kernel) (by decide +kernel)
set_option maxRecDepth 20000 in
theorem gX11_home_X11_isMan : GoodIn wsX11_home (wsV RX11 297 RX11 yX11_isMan wsX11_isMan) := goodIn_app (goodIn_of _ (by decide +kernel)) ggX11_home_X11_isMan
set_option maxRecDepth 20000 in
theorem ggX11_home_X11_refuse : GoodIn wsX11_home wsX11_refuse := goodIn_r _ [20, 21, 124, 125, 126, 127, 128, 129, 130, 131, 132, 133, 134, 135, 136, 137, 138, 139, 140, 141, 142, 143, 144, 145, 146, 147, 148, 149, 150, 151, 152, 153, 154, 155, 156, 157, 158, 159, 160, 161, 162, 163, 164, 165, 166, 167, 168, 169, 170, 171, 172, 173, 174, 175, 176, 177, 178, 179, 180, 181, 182, 183, 184, 185, 186] (by decide +kernel) (by decide +kernel)
set_option maxRecDepth 20000 in
theorem gX11_home_X11_refuse : GoodIn wsX11_home (wsV RX11 153 RX11 yX11_refuse wsX11_refuse) := goodIn_app (goodIn_of _ (by decide +kernel)) ggX11_home_X11_refuse
theorem dX11_home_0 : decode cX11_home 0 = .ok (.aload_n 0, 1) := by decide +kernel
theorem dX11_home_1 : decode cX11_home 1 = .ok (.iload_n 1, 1) := by decide +kernel
theorem dX11_home_2 : decode cX11_home 2 = .ok (.invokevirtual 297, 3) := by decide +kernel
theorem dX11_home_5 : decode cX11_home 5 = .ok (.ifCond .ne 9, 3) := by decide +kernel
theorem dX11_home_8 : decode cX11_home 8 = .ok (.aload_n 0, 1) := by decide +kernel
theorem dX11_home_9 : decode cX11_home 9 = .ok (.iconst (-1), 1) := by decide +kernel
theorem dX11_home_10 : decode cX11_home 10 = .ok (.invokevirtual 153, 3) := by decide +kernel
theorem dX11_home_13 : decode cX11_home 13 = .ok (.ireturn, 1) := by decide +kernel
set_option maxRecDepth 20000 in
theorem ggX11_ask_X11_isMan : GoodIn wsX11_ask wsX11_isMan := goodIn_r _ [6, 7, 8, 9, 5, 10, 16, 17, 18, 19, 20, 21, 22, 23, 24, 25, 26, 27, 28, 29, 30, 31, 32, 33, 34, 35, 36, 37, 38, 39, 40, 41, 42, 43, 44, 45, 46, 47, 48, 49, 50, 51, 52, 53, 54, 55, 56, 57, 58, 59, 60, 61, 62, 63, 64, 65, 66, 67, 68, 69, 70, 71, 72, 73, 74, 75, 76, 77, 78] (by decide +kernel) (by decide +kernel)
set_option maxRecDepth 20000 in
theorem gX11_ask_X11_isMan : GoodIn wsX11_ask (wsV RX11 297 RX11 yX11_isMan wsX11_isMan) := goodIn_app (goodIn_of _ (by decide +kernel)) ggX11_ask_X11_isMan
set_option maxRecDepth 20000 in
theorem ggX11_ask_X11_refuse : GoodIn wsX11_ask wsX11_refuse := goodIn_r _ [14, 15, 16, 17, 18, 19, 20, 21, 22, 23, 24, 25, 26, 27, 28, 29, 30, 31, 32, 33, 34, 35, 36, 37, 38, 39, 40, 41, 42, 43, 44, 45, 46, 47, 48, 49, 50, 51, 52, 53, 54, 55, 56, 57, 58, 59, 60, 61, 62, 63, 64, 65, 66, 67, 68, 69, 70, 71, 72, 73, 74, 75, 76, 77, 78] (by decide +kernel) (by decide +kernel)
set_option maxRecDepth 20000 in
theorem gX11_ask_X11_refuse : GoodIn wsX11_ask (wsV RX11 153 RX11 yX11_refuse wsX11_refuse) := goodIn_app (goodIn_of _ (by decide +kernel)) ggX11_ask_X11_refuse
theorem dX11_ask_0 : decode cX11_ask 0 = .ok (.aload_n 0, 1) := by decide +kernel
theorem dX11_ask_1 : decode cX11_ask 1 = .ok (.iload_n 1, 1) := by decide +kernel
theorem dX11_ask_2 : decode cX11_ask 2 = .ok (.invokevirtual 297, 3) := by decide +kernel
theorem dX11_ask_5 : decode cX11_ask 5 = .ok (.ifCond .ne 9, 3) := by decide +kernel
theorem dX11_ask_8 : decode cX11_ask 8 = .ok (.aload_n 0, 1) := by decide +kernel
theorem dX11_ask_9 : decode cX11_ask 9 = .ok (.iconst (-1), 1) := by decide +kernel
theorem dX11_ask_10 : decode cX11_ask 10 = .ok (.invokevirtual 153, 3) := by decide +kernel
theorem dX11_ask_13 : decode cX11_ask 13 = .ok (.ireturn, 1) := by decide +kernel
set_option maxRecDepth 20000 in
theorem ggX11_check_X11_isVoyage : GoodIn wsX11_check wsX11_isVoyage := goodIn_r _ [9, 10, 11, 12, 8, 13, 155, 156, 157, 158, 159, 160, 161, 162, 163, 164, 165, 166, 167, 168, 169, 170, 171, 172, 173, 174, 175, 176, 177, 178, 179, 180, 181, 182, 183, 184, 185, 186, 187, 188, 189, 190, 191, 192, 193, 194, 195, 196, 197, 198, 199, 200, 201, 202, 203, 204, 205, 206, 207, 208, 209, 210, 211, 212, 213, 214, 215, 216, 217] (by decide +kernel) (by decide +kernel)
set_option maxRecDepth 20000 in
theorem gX11_check_X11_isVoyage : GoodIn wsX11_check (wsV RX11 185 RX11 yX11_isVoyage wsX11_isVoyage) := goodIn_app (goodIn_of _ (by decide +kernel)) ggX11_check_X11_isVoyage
set_option maxRecDepth 20000 in
theorem ggX11_check_X11_refuse : GoodIn wsX11_check wsX11_refuse := goodIn_r _ [22, 23, 155, 156, 157, 158, 159, 160, 161, 162, 163, 164, 165, 166, 167, 168, 169, 170, 171, 172, 173, 174, 175, 176, 177, 178, 179, 180, 181, 182, 183, 184, 185, 186, 187, 188, 189, 190, 191, 192, 193, 194, 195, 196, 197, 198, 199, 200, 201, 202, 203, 204, 205, 206, 207, 208, 209, 210, 211, 212, 213, 214, 215, 216, 217] (by decide +kernel) (by decide +kernel)
set_option maxRecDepth 20000 in
theorem gX11_check_X11_refuse : GoodIn wsX11_check (wsV RX11 153 RX11 yX11_refuse wsX11_refuse) := goodIn_app (goodIn_of _ (by decide +kernel)) ggX11_check_X11_refuse
theorem dX11_check_0 : decode cX11_check 0 = .ok (.aload_n 0, 1) := by decide +kernel
theorem dX11_check_1 : decode cX11_check 1 = .ok (.iload_n 1, 1) := by decide +kernel
theorem dX11_check_2 : decode cX11_check 2 = .ok (.invokevirtual 185, 3) := by decide +kernel
theorem dX11_check_5 : decode cX11_check 5 = .ok (.ifCond .eq 12, 3) := by decide +kernel
theorem dX11_check_17 : decode cX11_check 17 = .ok (.iconst (-1), 1) := by decide +kernel
theorem dX11_check_18 : decode cX11_check 18 = .ok (.istore 4, 2) := by decide +kernel
theorem dX11_check_20 : decode cX11_check 20 = .ok (.iload 4, 2) := by decide +kernel
theorem dX11_check_22 : decode cX11_check 22 = .ok (.ifCond .eq 10, 3) := by decide +kernel
theorem dX11_check_25 : decode cX11_check 25 = .ok (.aload_n 0, 1) := by decide +kernel
theorem dX11_check_26 : decode cX11_check 26 = .ok (.iload 4, 2) := by decide +kernel
theorem dX11_check_28 : decode cX11_check 28 = .ok (.invokevirtual 153, 3) := by decide +kernel
theorem dX11_check_31 : decode cX11_check 31 = .ok (.ireturn, 1) := by decide +kernel
theorem in_wsX11_refuse_X11 : ∀ w ∈ wsX110, w ∈ wsX11_refuse := fun w h => List.mem_cons_of_mem _ (List.mem_append_right _ h)
theorem in_wsX11_isMan_X11 : ∀ w ∈ wsX110, w ∈ wsX11_isMan := fun w h => List.mem_cons_of_mem _ (List.mem_append_right _ h)
theorem in_wsX11_isVoyage_X11 : ∀ w ∈ wsX110, w ∈ wsX11_isVoyage := fun w h => List.mem_cons_of_mem _ (List.mem_append_right _ h)
theorem in_wsX11_isAgreement_X11 : ∀ w ∈ wsX110, w ∈ wsX11_isAgreement := fun w h => List.mem_cons_of_mem _ (List.mem_append_right _ h)
theorem isI_0 (v : Int32) : isI v 0 = 0 := by
  unfold isI
  split
  · rfl
  · rename_i h
    rw [if_pos (Int32.not_lt.mp h)]
theorem isI_z (v n : Int32) : narrow .boolean (.int (isI v n)) = .int (isI v n) := by
  unfold isI
  split
  · rfl
  · split <;> rfl
set_option maxHeartbeats 4000000 in
set_option maxRecDepth 100000 in
theorem c_X11_refuse (l : Launch) (dC : Nat → ClassId) (dI : Nat → Nat → Nat) (sz : Nat) (g0 : Nat) (pq : Nat → Nat) (cp : Nat → ClassId) (co : Int32) (hc : vp_in (-co) 7) : Met l yX11_refuse wsX11_refuse ({ frames := 0, cells := 0, slots := 0, locals := 0 }) (va_Pc [.ref g0, .int co] (pcW (dC, dI) [((cp 0), .int)] [(g0, .inr (11, mF pq)), ((pq 0), .inl ((cp 0), 7, .inl (fun _ => 0)))] sz)) (va_Qi (fun (r : Int32) (u : Unit) => r = co) (fun _ _ => True) (va_A [(g0, .inr (11, mF pq)), ((pq 0), .inl ((cp 0), 7, .inl (fun _ => 0)))] sz)) 0 0 (va_A [(g0, .inr (11, mF pq)), ((pq 0), .inl ((cp 0), 7, .inl (fun _ => 0)))] sz) := by
  refine Met.ofW (cc := cX11_refuse) (maxL := 2) (ret := (some .int)) (by decide) rfl ?_
  intro p e s m args below meth c s₁ B hml hv
  obtain ⟨rfl, hsz, hP, hK, hD0⟩ := hv
  have hx := B.exec
  have hb := B.bytes
  have hr := B.returns
  have hts := atoms_spec (ws := wsX11_refuse) B.pre
  have hown : s.vm.findClass RX11 = some m.cls := findClass_of_methodNamed B.named
  have hlocks := B.notSynchronized
  subst hsz
  have hD := hD0.self (sz := s.heap.size)
  generalize hAe : va_A [(g0, .inr (11, mF pq)), ((pq 0), .inl ((cp 0), 7, .inl (fun _ => 0)))] s.heap.size = A at hD ⊢
  have hA : ∀ q : Nat, s.heap.size ≤ q → A q := fun q h => by rw [← hAe]; exact Or.inr h
  have hS : va_S A s.heap s.heap [] := va_S.rf
  have hP : va_P (dC, dI) vwCl [(g0, .inr (11, mF pq)), ((pq 0), .inl ((cp 0), 7, .inl (fun _ => 0)))] s.heap := hP
  have hl := lv_entry ([.ref g0, .int co]) (n := 2) (Nat.le_of_ble_eq_true rfl)
  rw [lg_entry_eq]
  generalize (lg_sl ([.ref g0, .int co]) ++ List.replicate (2 - (lg_sl ([.ref g0, .int co])).length) Slot.unset).toArray = ls at hl ⊢
  have hl : lv_has ls 2 [(0, .ref g0), (1, .int co)] := hl
  refine lv_aload_n hx hb dX11_refuse_0 rfl (lv_at hl 0 rfl) ?_
  refine va_get (D := (dC, dI)) (ci := 11) (v := .ref (pq 0)) (C := RX11) (T := TX11) (N := 63) hx hb hts in_wsX11_refuse_X11 hown hK hP 0 rfl rfl 0 (by decide) (hts (.fieldLink RX11 7 "ShipOfficeModel" "refusals" "[I") (by decide +kernel)) (fun _ h9 => h9) rfl dX11_refuse_1 ?_
  refine lv_iload_n hx hb dX11_refuse_4 rfl (lv_at hl 1 rfl) ?_
  refine lv_ineg hx hb dX11_refuse_5 ?_
  refine lv_dup2_11 hx hb dX11_refuse_6 rfl rfl ?_
  refine va_iald hx hb hK hP 1 0 rfl rfl hc dX11_refuse_7 ?_
  refine W.eq (g2 := F0 m 8 ls [.int 0, .int (-co), .ref (pq 0)]) rfl ?_
  refine lv_iconst (v := 1) hx hb dX11_refuse_8 (by decide) ?_
  refine lv_iadd hx hb dX11_refuse_9 ?_
  refine lv_topi (fun y ey => ?_)
  obtain rfl : y = 1 := ey.trans (by decide)
  refine va_iast hx hb hK hP hD hS 1 0 rfl rfl hc dX11_refuse_10 (fun H locs hP hD hS => ?_)
  have hP : va_P (dC, dI) vwCl [(g0, .inr (11, mF pq)), ((pq 0), .inl ((cp 0), 7, .inl (upd (fun _ => 0) (-co : Int32).toNatClampNeg 1)))] H := hP
  have hD : va_D A [(g0, .inr (11, mF pq)), ((pq 0), .inl ((cp 0), 7, .inl (upd (fun _ => 0) (-co : Int32).toNatClampNeg 1)))] := hD
  refine lv_iload_n hx hb dX11_refuse_11 rfl (lv_at hl 1 rfl) ?_
  exact W.iret (v := co) hx hb hr (fun t ht hW => ⟨⟨co, (), rfl, rfl, trivial⟩, hS.F ht⟩) hS.2.2 dX11_refuse_12
set_option maxHeartbeats 4000000 in
set_option maxRecDepth 100000 in
theorem c_X11_refuseFar (l : Launch) (dC : Nat → ClassId) (dI : Nat → Nat → Nat) (sz : Nat) (g0 : Nat) (pq : Nat → Nat) (cp : Nat → ClassId) : Met l yX11_refuseFar wsX11_refuseFar ({ frames := 1, cells := 0, slots := 0, locals := 21 }) (va_Pc [.ref g0, .int (-1)] (pcW (dC, dI) [((cp 0), .int)] [(g0, .inr (11, mF pq)), ((pq 0), .inl ((cp 0), 7, .inl (fun _ => 0)))] sz)) (va_Qi (fun (r : Int32) (u : Unit) => r = 1000000001) (fun _ _ => True) (va_A [(g0, .inr (11, mF pq)), ((pq 0), .inl ((cp 0), 7, .inl (fun _ => 0)))] sz)) 0 0 (va_A [(g0, .inr (11, mF pq)), ((pq 0), .inl ((cp 0), 7, .inl (fun _ => 0)))] sz) := by
  refine Met.ofW (cc := cX11_refuseFar) (maxL := 2) (ret := (some .int)) (by decide) rfl ?_
  intro p e s m args below meth c s₁ B hml hv
  obtain ⟨rfl, hsz, hP, hK, hD0⟩ := hv
  have hx := B.exec
  have hb := B.bytes
  have hr := B.returns
  have hts := atoms_spec (ws := wsX11_refuseFar) B.pre
  have hown : s.vm.findClass RX11 = some m.cls := findClass_of_methodNamed B.named
  have hlocks := B.notSynchronized
  subst hsz
  have hD := hD0.self (sz := s.heap.size)
  generalize hAe : va_A [(g0, .inr (11, mF pq)), ((pq 0), .inl ((cp 0), 7, .inl (fun _ => 0)))] s.heap.size = A at hD ⊢
  have hA : ∀ q : Nat, s.heap.size ≤ q → A q := fun q h => by rw [← hAe]; exact Or.inr h
  have hS : va_S A s.heap s.heap [] := va_S.rf
  have hP : va_P (dC, dI) vwCl [(g0, .inr (11, mF pq)), ((pq 0), .inl ((cp 0), 7, .inl (fun _ => 0)))] s.heap := hP
  have hl := lv_entry ([.ref g0, .int (-1)]) (n := 2) (Nat.le_of_ble_eq_true rfl)
  rw [lg_entry_eq]
  generalize (lg_sl ([.ref g0, .int (-1)]) ++ List.replicate (2 - (lg_sl ([.ref g0, .int (-1)])).length) Slot.unset).toArray = ls at hl ⊢
  have hl : lv_has ls 2 [(0, .ref g0), (1, .int (-1))] := hl
  refine lv_ldc (v := 1000000000) hx hb hown (hts (.constant RX11 152 (1000000000)) (by decide +kernel)) dX11_refuseFar_0 ?_
  refine lv_aload_n hx hb dX11_refuseFar_2 rfl (lv_at hl 0 rfl) ?_
  refine lv_iload_n hx hb dX11_refuseFar_3 rfl (lv_at hl 1 rfl) ?_
  have hPc := hP.sub (ws' := [(g0, .inr (11, mF pq)), ((pq 0), .inl ((cp 0), 7, .inl (fun _ => 0)))]) [0, 1] rfl
  have hDc := hD.sub (ws' := [(g0, .inr (11, mF pq)), ((pq 0), .inl ((cp 0), 7, .inl (fun _ => 0)))]) [0, 1] (by decide) rfl
  have hKc := hK.sub (tys' := [((cp 0), .int)]) [0] rfl
  have hFc := va_free (wc := [(g0, .inr (11, mF pq)), ((pq 0), .inl ((cp 0), 7, .inl (fun _ => 0)))]) hD hS hA [0, 1] rfl
  refine va_calli (va_runV (As := [.int (-1)]) (rest := [.int 1000000000]) ⟨hx, hb, hml, hown, hts⟩ (c_X11_refuse l dC dI s.heap.size g0 pq cp (-1) (by unfold vp_in; decide)) (cwV 1 hts gX11_refuseFar_X11_refuse rfl rfl rfl (by decide +kernel) ⟨(Nat.le_of_ble_eq_true rfl), (Nat.le_of_ble_eq_true rfl)⟩) (pr_V (r := (RX11, TX11, 63)) hPc hKc hDc 0 11 rfl rfl) rfl rfl hl.1 rfl (lv_room (Nat.le_of_ble_eq_true rfl)) dX11_refuseFar_4 ⟨(Nat.le_of_ble_eq_true rfl), (Nat.le_of_ble_eq_true rfl)⟩) hS (fun q _ h => hFc q h) hFc (fun r_2 u t H locs ht hvm w_1 hB hz1 hk1 hS => ?_)
  subst w_1
  refine lv_isub hx hb dX11_refuseFar_7 ?_
  refine lv_topi (fun y ey => ?_)
  obtain rfl : y = 1000000001 := ey.trans (by decide)
  exact W.iret (v := 1000000001) hx hb hr (fun t ht hW => ⟨⟨1000000001, (), rfl, rfl, trivial⟩, hS.F ht⟩) hS.2.2 dX11_refuseFar_8
set_option maxHeartbeats 4000000 in
set_option maxRecDepth 100000 in
theorem c_X11_isIn (l : Launch) (dC : Nat → ClassId) (dI : Nat → Nat → Nat) (sz : Nat) (v n : Int32) : Met l yX11_isIn wsX11_isIn ({ frames := 0, cells := 0, slots := 0, locals := 0 }) (va_Pc [.int v, .int n] (pcW (dC, dI) [] [] sz)) (va_Qi (fun (r : Int32) (u : Unit) => r = isI v n) (fun _ _ => True) (va_A [] sz)) 0 0 (va_A [] sz) := by
  refine Met.ofW (cc := cX11_isIn) (maxL := 2) (ret := (some .boolean)) (by decide) rfl ?_
  intro p e s m args below meth c s₁ B hml hv
  obtain ⟨rfl, hsz, hP, hK, hD0⟩ := hv
  have hx := B.exec
  have hb := B.bytes
  have hr := B.returns
  have hts := atoms_spec (ws := wsX11_isIn) B.pre
  have hown : s.vm.findClass RX11 = some m.cls := findClass_of_methodNamed B.named
  have hlocks := B.notSynchronized
  subst hsz
  have hD := hD0
  generalize hAe : va_A [] s.heap.size = A at ⊢
  have hA : ∀ q : Nat, s.heap.size ≤ q → A q := fun q h => by rw [← hAe]; exact Or.inr h
  have hS : va_S A s.heap s.heap [] := va_S.rf
  have hP : va_P (dC, dI) vwCl [] s.heap := hP
  have hl := lv_entry ([.int v, .int n]) (n := 2) (Nat.le_of_ble_eq_true rfl)
  rw [lg_entry_eq]
  generalize (lg_sl ([.int v, .int n]) ++ List.replicate (2 - (lg_sl ([.int v, .int n])).length) Slot.unset).toArray = ls at hl ⊢
  have hl : lv_has ls 2 [(0, .int v), (1, .int n)] := hl
  refine lv_iload_n hx hb dX11_isIn_0 rfl (lv_at hl 0 rfl) ?_
  refine lv_if_lt (tgt := 13) hx hb dX11_isIn_1 (by decide) (fun c_1 => ?_) (fun c_1 => ?_)
  · refine lv_iconst (v := 0) hx hb dX11_isIn_13 (by decide) ?_
    exact W.zret (v := 0) hx hb hr rfl (fun t ht hW => ⟨⟨0, (), rfl, (by simp [isI, c_1]), trivial⟩, hS.F ht⟩) hS.2.2 dX11_isIn_14
  · refine lv_iload_n hx hb dX11_isIn_4 rfl (lv_at hl 0 rfl) ?_
    refine lv_iload_n hx hb dX11_isIn_5 rfl (lv_at hl 1 rfl) ?_
    refine lv_icmp_ge (tgt := 13) hx hb dX11_isIn_6 (by decide) (fun c_2 => ?_) (fun c_2 => ?_)
    · refine lv_iconst (v := 0) hx hb dX11_isIn_13 (by decide) ?_
      exact W.zret (v := 0) hx hb hr rfl (fun t ht hW => ⟨⟨0, (), rfl, (by simp [isI, c_1, c_2]), trivial⟩, hS.F ht⟩) hS.2.2 dX11_isIn_14
    · refine lv_iconst (v := 1) hx hb dX11_isIn_9 (by decide) ?_
      refine lv_goto (tgt := 14) hx hb dX11_isIn_10 (by decide) ?_
      exact W.zret (v := 1) hx hb hr rfl (fun t ht hW => ⟨⟨1, (), rfl, (by simp [isI, c_1, c_2]), trivial⟩, hS.F ht⟩) hS.2.2 dX11_isIn_14
set_option maxHeartbeats 4000000 in
set_option maxRecDepth 100000 in
theorem c_X11_isMan (l : Launch) (dC : Nat → ClassId) (dI : Nat → Nat → Nat) (sz : Nat) (g0 : Nat) (pq : Nat → Nat) (cp : Nat → ClassId) (n : Int32) : Met l yX11_isMan wsX11_isMan ({ frames := 1, cells := 0, slots := 0, locals := 21 }) (va_Pc [.ref g0, .int n] (pcW (dC, dI) [] [(g0, .inr (11, mF pq))] sz)) (va_Qi (fun (r : Int32) (u : Unit) => r = 0) (fun _ _ => True) (va_A [] sz)) 0 0 (va_A [] sz) := by
  refine Met.ofW (cc := cX11_isMan) (maxL := 2) (ret := (some .boolean)) (by decide) rfl ?_
  intro p e s m args below meth c s₁ B hml hv
  obtain ⟨rfl, hsz, hP, hK, hD0⟩ := hv
  have hx := B.exec
  have hb := B.bytes
  have hr := B.returns
  have hts := atoms_spec (ws := wsX11_isMan) B.pre
  have hown : s.vm.findClass RX11 = some m.cls := findClass_of_methodNamed B.named
  have hlocks := B.notSynchronized
  subst hsz
  have hD := hD0
  generalize hAe : va_A [] s.heap.size = A at ⊢
  have hA : ∀ q : Nat, s.heap.size ≤ q → A q := fun q h => by rw [← hAe]; exact Or.inr h
  have hS : va_S A s.heap s.heap [] := va_S.rf
  have hP : va_P (dC, dI) vwCl [(g0, .inr (11, mF pq))] s.heap := hP
  have hl := lv_entry ([.ref g0, .int n]) (n := 2) (Nat.le_of_ble_eq_true rfl)
  rw [lg_entry_eq]
  generalize (lg_sl ([.ref g0, .int n]) ++ List.replicate (2 - (lg_sl ([.ref g0, .int n])).length) Slot.unset).toArray = ls at hl ⊢
  have hl : lv_has ls 2 [(0, .ref g0), (1, .int n)] := hl
  refine lv_iload_n hx hb dX11_isMan_0 rfl (lv_at hl 1 rfl) ?_
  refine lv_aload_n hx hb dX11_isMan_1 rfl (lv_at hl 0 rfl) ?_
  refine va_get (D := (dC, dI)) (ci := 11) (v := .int 0) (C := RX11) (T := TX11) (N := 63) hx hb hts in_wsX11_isMan_X11 hown hK hP 0 rfl rfl 39 (by decide) (hts (.fieldLink RX11 157 "ShipOfficeModel" "men" "I") (by decide +kernel)) (fun _ h9 => h9) rfl dX11_isMan_2 ?_
  have hPc := hP.sub (ws' := []) [] rfl
  have hDc := hD.sub (ws' := []) [] (by decide) rfl
  have hKc := hK.sub (tys' := []) [] rfl
  have hFc : ∀ q, va_A [] s.heap.size q → A q := pu_free hS hA
  refine va_calli (va_runS (As := [.int n, .int 0]) (rest := []) ⟨hx, hb, hml, hown, hts⟩ (c_X11_isIn l dC dI s.heap.size n 0) (va_cwS 2 hts gX11_isMan_X11_isIn rfl rfl rfl (by decide +kernel) ⟨(Nat.le_of_ble_eq_true rfl), (Nat.le_of_ble_eq_true rfl)⟩) (pr_S hPc hKc hDc) rfl rfl hl.1 rfl (lv_room (Nat.le_of_ble_eq_true rfl)) dX11_isMan_5 ⟨(Nat.le_of_ble_eq_true rfl), (Nat.le_of_ble_eq_true rfl)⟩) hS (fun q _ h => hFc q h) hFc (fun r_2 u t H locs ht hvm w_1 hB hz1 hk1 hS => ?_)
  have hP := pu_keep hP hk1
  clear hk1 hz1 hvm hB hPc hDc hKc hFc ht
  obtain rfl : r_2 = 0 := w_1.trans (isI_0 _)
  exact W.zret (v := 0) hx hb hr rfl (fun t ht hW => ⟨⟨0, (), rfl, rfl, trivial⟩, hS.F ht⟩) hS.2.2 dX11_isMan_8
set_option maxHeartbeats 4000000 in
set_option maxRecDepth 100000 in
theorem c_X11_isVoyage (l : Launch) (dC : Nat → ClassId) (dI : Nat → Nat → Nat) (sz : Nat) (g0 : Nat) (pq : Nat → Nat) (cp : Nat → ClassId) (n : Int32) : Met l yX11_isVoyage wsX11_isVoyage ({ frames := 1, cells := 0, slots := 0, locals := 21 }) (va_Pc [.ref g0, .int n] (pcW (dC, dI) [] [(g0, .inr (11, mF pq))] sz)) (va_Qi (fun (r : Int32) (u : Unit) => r = 0) (fun _ _ => True) (va_A [] sz)) 0 0 (va_A [] sz) := by
  refine Met.ofW (cc := cX11_isVoyage) (maxL := 2) (ret := (some .boolean)) (by decide) rfl ?_
  intro p e s m args below meth c s₁ B hml hv
  obtain ⟨rfl, hsz, hP, hK, hD0⟩ := hv
  have hx := B.exec
  have hb := B.bytes
  have hr := B.returns
  have hts := atoms_spec (ws := wsX11_isVoyage) B.pre
  have hown : s.vm.findClass RX11 = some m.cls := findClass_of_methodNamed B.named
  have hlocks := B.notSynchronized
  subst hsz
  have hD := hD0
  generalize hAe : va_A [] s.heap.size = A at ⊢
  have hA : ∀ q : Nat, s.heap.size ≤ q → A q := fun q h => by rw [← hAe]; exact Or.inr h
  have hS : va_S A s.heap s.heap [] := va_S.rf
  have hP : va_P (dC, dI) vwCl [(g0, .inr (11, mF pq))] s.heap := hP
  have hl := lv_entry ([.ref g0, .int n]) (n := 2) (Nat.le_of_ble_eq_true rfl)
  rw [lg_entry_eq]
  generalize (lg_sl ([.ref g0, .int n]) ++ List.replicate (2 - (lg_sl ([.ref g0, .int n])).length) Slot.unset).toArray = ls at hl ⊢
  have hl : lv_has ls 2 [(0, .ref g0), (1, .int n)] := hl
  refine lv_iload_n hx hb dX11_isVoyage_0 rfl (lv_at hl 1 rfl) ?_
  refine lv_aload_n hx hb dX11_isVoyage_1 rfl (lv_at hl 0 rfl) ?_
  refine va_get (D := (dC, dI)) (ci := 11) (v := .int 0) (C := RX11) (T := TX11) (N := 63) hx hb hts in_wsX11_isVoyage_X11 hown hK hP 0 rfl rfl 40 (by decide) (hts (.fieldLink RX11 165 "ShipOfficeModel" "voyages" "I") (by decide +kernel)) (fun _ h9 => h9) rfl dX11_isVoyage_2 ?_
  have hPc := hP.sub (ws' := []) [] rfl
  have hDc := hD.sub (ws' := []) [] (by decide) rfl
  have hKc := hK.sub (tys' := []) [] rfl
  have hFc : ∀ q, va_A [] s.heap.size q → A q := pu_free hS hA
  refine va_calli (va_runS (As := [.int n, .int 0]) (rest := []) ⟨hx, hb, hml, hown, hts⟩ (c_X11_isIn l dC dI s.heap.size n 0) (va_cwS 2 hts gX11_isVoyage_X11_isIn rfl rfl rfl (by decide +kernel) ⟨(Nat.le_of_ble_eq_true rfl), (Nat.le_of_ble_eq_true rfl)⟩) (pr_S hPc hKc hDc) rfl rfl hl.1 rfl (lv_room (Nat.le_of_ble_eq_true rfl)) dX11_isVoyage_5 ⟨(Nat.le_of_ble_eq_true rfl), (Nat.le_of_ble_eq_true rfl)⟩) hS (fun q _ h => hFc q h) hFc (fun r_2 u t H locs ht hvm w_1 hB hz1 hk1 hS => ?_)
  have hP := pu_keep hP hk1
  clear hk1 hz1 hvm hB hPc hDc hKc hFc ht
  obtain rfl : r_2 = 0 := w_1.trans (isI_0 _)
  exact W.zret (v := 0) hx hb hr rfl (fun t ht hW => ⟨⟨0, (), rfl, rfl, trivial⟩, hS.F ht⟩) hS.2.2 dX11_isVoyage_8
set_option maxHeartbeats 4000000 in
set_option maxRecDepth 100000 in
theorem c_X11_isAgreement (l : Launch) (dC : Nat → ClassId) (dI : Nat → Nat → Nat) (sz : Nat) (g0 : Nat) (pq : Nat → Nat) (cp : Nat → ClassId) (n : Int32) : Met l yX11_isAgreement wsX11_isAgreement ({ frames := 1, cells := 0, slots := 0, locals := 21 }) (va_Pc [.ref g0, .int n] (pcW (dC, dI) [] [(g0, .inr (11, mF pq))] sz)) (va_Qi (fun (r : Int32) (u : Unit) => r = 0) (fun _ _ => True) (va_A [] sz)) 0 0 (va_A [] sz) := by
  refine Met.ofW (cc := cX11_isAgreement) (maxL := 2) (ret := (some .boolean)) (by decide) rfl ?_
  intro p e s m args below meth c s₁ B hml hv
  obtain ⟨rfl, hsz, hP, hK, hD0⟩ := hv
  have hx := B.exec
  have hb := B.bytes
  have hr := B.returns
  have hts := atoms_spec (ws := wsX11_isAgreement) B.pre
  have hown : s.vm.findClass RX11 = some m.cls := findClass_of_methodNamed B.named
  have hlocks := B.notSynchronized
  subst hsz
  have hD := hD0
  generalize hAe : va_A [] s.heap.size = A at ⊢
  have hA : ∀ q : Nat, s.heap.size ≤ q → A q := fun q h => by rw [← hAe]; exact Or.inr h
  have hS : va_S A s.heap s.heap [] := va_S.rf
  have hP : va_P (dC, dI) vwCl [(g0, .inr (11, mF pq))] s.heap := hP
  have hl := lv_entry ([.ref g0, .int n]) (n := 2) (Nat.le_of_ble_eq_true rfl)
  rw [lg_entry_eq]
  generalize (lg_sl ([.ref g0, .int n]) ++ List.replicate (2 - (lg_sl ([.ref g0, .int n])).length) Slot.unset).toArray = ls at hl ⊢
  have hl : lv_has ls 2 [(0, .ref g0), (1, .int n)] := hl
  refine lv_iload_n hx hb dX11_isAgreement_0 rfl (lv_at hl 1 rfl) ?_
  refine lv_aload_n hx hb dX11_isAgreement_1 rfl (lv_at hl 0 rfl) ?_
  refine va_get (D := (dC, dI)) (ci := 11) (v := .int 0) (C := RX11) (T := TX11) (N := 63) hx hb hts in_wsX11_isAgreement_X11 hown hK hP 0 rfl rfl 43 (by decide) (hts (.fieldLink RX11 168 "ShipOfficeModel" "agreements" "I") (by decide +kernel)) (fun _ h9 => h9) rfl dX11_isAgreement_2 ?_
  have hPc := hP.sub (ws' := []) [] rfl
  have hDc := hD.sub (ws' := []) [] (by decide) rfl
  have hKc := hK.sub (tys' := []) [] rfl
  have hFc : ∀ q, va_A [] s.heap.size q → A q := pu_free hS hA
  refine va_calli (va_runS (As := [.int n, .int 0]) (rest := []) ⟨hx, hb, hml, hown, hts⟩ (c_X11_isIn l dC dI s.heap.size n 0) (va_cwS 2 hts gX11_isAgreement_X11_isIn rfl rfl rfl (by decide +kernel) ⟨(Nat.le_of_ble_eq_true rfl), (Nat.le_of_ble_eq_true rfl)⟩) (pr_S hPc hKc hDc) rfl rfl hl.1 rfl (lv_room (Nat.le_of_ble_eq_true rfl)) dX11_isAgreement_5 ⟨(Nat.le_of_ble_eq_true rfl), (Nat.le_of_ble_eq_true rfl)⟩) hS (fun q _ h => hFc q h) hFc (fun r_2 u t H locs ht hvm w_1 hB hz1 hk1 hS => ?_)
  have hP := pu_keep hP hk1
  clear hk1 hz1 hvm hB hPc hDc hKc hFc ht
  obtain rfl : r_2 = 0 := w_1.trans (isI_0 _)
  exact W.zret (v := 0) hx hb hr rfl (fun t ht hW => ⟨⟨0, (), rfl, rfl, trivial⟩, hS.F ht⟩) hS.2.2 dX11_isAgreement_8
set_option maxHeartbeats 4000000 in
set_option maxRecDepth 100000 in
theorem c_X11_isPort (l : Launch) (dC : Nat → ClassId) (dI : Nat → Nat → Nat) (sz : Nat) (n : Int32) : Met l yX11_isPort wsX11_isPort ({ frames := 1, cells := 0, slots := 0, locals := 21 }) (va_Pc [.int n] (pcW (dC, dI) [] [] sz)) (va_Qi (fun (r : Int32) (u : Unit) => r = isI n 10) (fun _ _ => True) (va_A [] sz)) 0 0 (va_A [] sz) := by
  refine Met.ofW (cc := cX11_isPort) (maxL := 1) (ret := (some .boolean)) (by decide) rfl ?_
  intro p e s m args below meth c s₁ B hml hv
  obtain ⟨rfl, hsz, hP, hK, hD0⟩ := hv
  have hx := B.exec
  have hb := B.bytes
  have hr := B.returns
  have hts := atoms_spec (ws := wsX11_isPort) B.pre
  have hown : s.vm.findClass RX11 = some m.cls := findClass_of_methodNamed B.named
  have hlocks := B.notSynchronized
  subst hsz
  have hD := hD0
  generalize hAe : va_A [] s.heap.size = A at ⊢
  have hA : ∀ q : Nat, s.heap.size ≤ q → A q := fun q h => by rw [← hAe]; exact Or.inr h
  have hS : va_S A s.heap s.heap [] := va_S.rf
  have hP : va_P (dC, dI) vwCl [] s.heap := hP
  have hl := lv_entry ([.int n]) (n := 1) (Nat.le_of_ble_eq_true rfl)
  rw [lg_entry_eq]
  generalize (lg_sl ([.int n]) ++ List.replicate (1 - (lg_sl ([.int n])).length) Slot.unset).toArray = ls at hl ⊢
  have hl : lv_has ls 1 [(0, .int n)] := hl
  refine lv_iload_n hx hb dX11_isPort_0 rfl (lv_at hl 0 rfl) ?_
  refine lv_bipush (v := 10) hx hb dX11_isPort_1 (by decide) ?_
  have hPc := hP.sub (ws' := []) [] rfl
  have hDc := hD.sub (ws' := []) [] (by decide) rfl
  have hKc := hK.sub (tys' := []) [] rfl
  have hFc : ∀ q, va_A [] s.heap.size q → A q := pu_free hS hA
  refine va_calli (va_runS (As := [.int n, .int 10]) (rest := []) ⟨hx, hb, hml, hown, hts⟩ (c_X11_isIn l dC dI s.heap.size n 10) (va_cwS 2 hts gX11_isPort_X11_isIn rfl rfl rfl (by decide +kernel) ⟨(Nat.le_of_ble_eq_true rfl), (Nat.le_of_ble_eq_true rfl)⟩) (pr_S hPc hKc hDc) rfl rfl hl.1 rfl (lv_room (Nat.le_of_ble_eq_true rfl)) dX11_isPort_3 ⟨(Nat.le_of_ble_eq_true rfl), (Nat.le_of_ble_eq_true rfl)⟩) hS (fun q _ h => hFc q h) hFc (fun r_2 u t H locs ht hvm w_1 hB hz1 hk1 hS => ?_)
  have hP := pu_keep hP hk1
  clear hk1 hz1 hvm hB hPc hDc hKc hFc ht
  subst w_1
  exact W.zret (v := (isI n 10)) hx hb hr (isI_z _ _) (fun t ht hW => ⟨⟨(isI n 10), (), rfl, rfl, trivial⟩, hS.F ht⟩) hS.2.2 dX11_isPort_6
set_option maxHeartbeats 4000000 in
set_option maxRecDepth 100000 in
theorem c_X11_isFine (l : Launch) (dC : Nat → ClassId) (dI : Nat → Nat → Nat) (sz : Nat) (g0 : Nat) (pq : Nat → Nat) (cp : Nat → ClassId) (n i : Int32) : Met l yX11_isFine wsX11_isFine ({ frames := 2, cells := 0, slots := 0, locals := 42 }) (va_Pc [.ref g0, .int n, .int i] (pcW (dC, dI) [] [(g0, .inr (11, mF pq))] sz)) (va_Qi (fun (r : Int32) (u : Unit) => r = 0) (fun _ _ => True) (va_A [] sz)) 0 0 (va_A [] sz) := by
  refine Met.ofW (cc := cX11_isFine) (maxL := 3) (ret := (some .boolean)) (by decide) rfl ?_
  intro p e s m args below meth c s₁ B hml hv
  obtain ⟨rfl, hsz, hP, hK, hD0⟩ := hv
  have hx := B.exec
  have hb := B.bytes
  have hr := B.returns
  have hts := atoms_spec (ws := wsX11_isFine) B.pre
  have hown : s.vm.findClass RX11 = some m.cls := findClass_of_methodNamed B.named
  have hlocks := B.notSynchronized
  subst hsz
  have hD := hD0
  generalize hAe : va_A [] s.heap.size = A at ⊢
  have hA : ∀ q : Nat, s.heap.size ≤ q → A q := fun q h => by rw [← hAe]; exact Or.inr h
  have hS : va_S A s.heap s.heap [] := va_S.rf
  have hP : va_P (dC, dI) vwCl [(g0, .inr (11, mF pq))] s.heap := hP
  have hl := lv_entry ([.ref g0, .int n, .int i]) (n := 3) (Nat.le_of_ble_eq_true rfl)
  rw [lg_entry_eq]
  generalize (lg_sl ([.ref g0, .int n, .int i]) ++ List.replicate (3 - (lg_sl ([.ref g0, .int n, .int i])).length) Slot.unset).toArray = ls at hl ⊢
  have hl : lv_has ls 3 [(0, .ref g0), (1, .int n), (2, .int i)] := hl
  refine lv_aload_n hx hb dX11_isFine_0 rfl (lv_at hl 0 rfl) ?_
  refine lv_iload_n hx hb dX11_isFine_1 rfl (lv_at hl 1 rfl) ?_
  have hPc := hP.sub (ws' := [(g0, .inr (11, mF pq))]) [0] rfl
  have hDc := hD.sub (ws' := [(g0, .inr (11, mF pq))]) [0] (by decide) rfl
  have hKc := hK.sub (tys' := []) [] rfl
  have hFc : ∀ q, va_A [] s.heap.size q → A q := pu_free hS hA
  refine va_calli (va_runV (As := [.int n]) (rest := []) ⟨hx, hb, hml, hown, hts⟩ (c_X11_isAgreement l dC dI s.heap.size g0 pq cp n) (cwV 1 hts gX11_isFine_X11_isAgreement rfl rfl rfl (by decide +kernel) ⟨(Nat.le_of_ble_eq_true rfl), (Nat.le_of_ble_eq_true rfl)⟩) (pr_V (r := (RX11, TX11, 63)) hPc hKc hDc 0 11 rfl rfl) rfl rfl hl.1 rfl (lv_room (Nat.le_of_ble_eq_true rfl)) dX11_isFine_2 ⟨(Nat.le_of_ble_eq_true rfl), (Nat.le_of_ble_eq_true rfl)⟩) hS (fun q _ h => hFc q h) hFc (fun r_2 u t H locs ht hvm w_1 hB hz1 hk1 hS => ?_)
  have hP := pu_keep hP hk1
  clear hk1 hz1 hvm hB hPc hDc hKc hFc ht
  subst w_1
  refine lv_if_eq (tgt := 25) hx hb dX11_isFine_5 (by decide) (fun _ => ?_) (fun c_3 => absurd c_3 (by decide))
  refine lv_iconst (v := 0) hx hb dX11_isFine_25 (by decide) ?_
  exact W.zret (v := 0) hx hb hr rfl (fun t ht hW => ⟨⟨0, (), rfl, rfl, trivial⟩, hS.F ht⟩) hS.2.2 dX11_isFine_26
set_option maxHeartbeats 4000000 in
set_option maxRecDepth 100000 in
theorem c_X11_happensTo (l : Launch) (dC : Nat → ClassId) (dI : Nat → Nat → Nat) (sz : Nat) (g0 : Nat) (pq : Nat → Nat) (cp : Nat → ClassId) (a1 : Int32) (a2 : Int32) (a3 : Int32) : Met l yX11_happensTo wsX11_happensTo ({ frames := 2, cells := 0, slots := 0, locals := 42 }) (va_Pc [.ref g0, .int a1, .int a2, .int a3] (pcW (dC, dI) [((cp 0), .int)] [(g0, .inr (11, mF pq)), ((pq 0), .inl ((cp 0), 7, .inl (fun _ => 0)))] sz)) (va_Qi (fun (r : Int32) (u : Unit) => r = (-1)) (fun _ _ => True) (va_A [(g0, .inr (11, mF pq)), ((pq 0), .inl ((cp 0), 7, .inl (fun _ => 0)))] sz)) 0 0 (va_A [(g0, .inr (11, mF pq)), ((pq 0), .inl ((cp 0), 7, .inl (fun _ => 0)))] sz) := by
  refine Met.ofW (cc := cX11_happensTo) (maxL := 4) (ret := (some .int)) (by decide) rfl ?_
  intro p e s m args below meth c s₁ B hml hv
  obtain ⟨rfl, hsz, hP, hK, hD0⟩ := hv
  have hx := B.exec
  have hb := B.bytes
  have hr := B.returns
  have hts := atoms_spec (ws := wsX11_happensTo) B.pre
  have hown : s.vm.findClass RX11 = some m.cls := findClass_of_methodNamed B.named
  have hlocks := B.notSynchronized
  subst hsz
  have hD := hD0.self (sz := s.heap.size)
  generalize hAe : va_A [(g0, .inr (11, mF pq)), ((pq 0), .inl ((cp 0), 7, .inl (fun _ => 0)))] s.heap.size = A at hD ⊢
  have hA : ∀ q : Nat, s.heap.size ≤ q → A q := fun q h => by rw [← hAe]; exact Or.inr h
  have hS : va_S A s.heap s.heap [] := va_S.rf
  have hP : va_P (dC, dI) vwCl [(g0, .inr (11, mF pq)), ((pq 0), .inl ((cp 0), 7, .inl (fun _ => 0)))] s.heap := hP
  have hl := lv_entry ([.ref g0, .int a1, .int a2, .int a3]) (n := 4) (Nat.le_of_ble_eq_true rfl)
  rw [lg_entry_eq]
  generalize (lg_sl ([.ref g0, .int a1, .int a2, .int a3]) ++ List.replicate (4 - (lg_sl ([.ref g0, .int a1, .int a2, .int a3])).length) Slot.unset).toArray = ls at hl ⊢
  have hl : lv_has ls 4 [(0, .ref g0), (1, .int a1), (2, .int a2), (3, .int a3)] := hl
  refine lv_aload_n hx hb dX11_happensTo_0 rfl (lv_at hl 0 rfl) ?_
  refine lv_iload_n hx hb dX11_happensTo_1 rfl (lv_at hl 2 rfl) ?_
  have hPc := hP.sub (ws' := [(g0, .inr (11, mF pq))]) [0] rfl
  have hDc := hD.sub (ws' := [(g0, .inr (11, mF pq))]) [0] (by decide) rfl
  have hKc := hK.sub (tys' := []) [] rfl
  have hFc : ∀ q, va_A [] s.heap.size q → A q := pu_free hS hA
  refine va_calli (va_runV (As := [.int a2]) (rest := []) ⟨hx, hb, hml, hown, hts⟩ (c_X11_isVoyage l dC dI s.heap.size g0 pq cp a2) (cwV 1 hts gX11_happensTo_X11_isVoyage rfl rfl rfl (by decide +kernel) ⟨(Nat.le_of_ble_eq_true rfl), (Nat.le_of_ble_eq_true rfl)⟩) (pr_V (r := (RX11, TX11, 63)) hPc hKc hDc 0 11 rfl rfl) rfl rfl hl.1 rfl (lv_room (Nat.le_of_ble_eq_true rfl)) dX11_happensTo_2 ⟨(Nat.le_of_ble_eq_true rfl), (Nat.le_of_ble_eq_true rfl)⟩) hS (fun q _ h => hFc q h) hFc (fun r_2 u t H locs ht hvm w_1 hB hz1 hk1 hS => ?_)
  have hP := pu_keep hP hk1
  clear hk1 hz1 hvm hB hPc hDc hKc hFc ht
  subst w_1
  refine lv_if_ne (tgt := 14) hx hb dX11_happensTo_5 (by decide) (fun c_3 => absurd c_3 (by decide)) (fun _ => ?_)
  refine lv_aload_n hx hb dX11_happensTo_8 rfl (lv_at hl 0 rfl) ?_
  refine lv_iconst (v := (-1)) hx hb dX11_happensTo_9 (by decide) ?_
  have hPc := hP.sub (ws' := [(g0, .inr (11, mF pq)), ((pq 0), .inl ((cp 0), 7, .inl (fun _ => 0)))]) [0, 1] rfl
  have hDc := hD.sub (ws' := [(g0, .inr (11, mF pq)), ((pq 0), .inl ((cp 0), 7, .inl (fun _ => 0)))]) [0, 1] (by decide) rfl
  have hKc := hK.sub (tys' := [((cp 0), .int)]) [0] rfl
  have hFc := va_free (wc := [(g0, .inr (11, mF pq)), ((pq 0), .inl ((cp 0), 7, .inl (fun _ => 0)))]) hD hS hA [0, 1] rfl
  refine va_calli (va_runV (As := [.int (-1)]) (rest := []) ⟨hx, hb, hml, hown, hts⟩ (c_X11_refuse l dC dI H.size g0 pq cp (-1) (by unfold vp_in; decide)) (cwV 1 hts gX11_happensTo_X11_refuse rfl rfl rfl (by decide +kernel) ⟨(Nat.le_of_ble_eq_true rfl), (Nat.le_of_ble_eq_true rfl)⟩) (pr_V (r := (RX11, TX11, 63)) hPc hKc hDc 0 11 rfl rfl) rfl rfl hl.1 rfl (lv_room (Nat.le_of_ble_eq_true rfl)) dX11_happensTo_10 ⟨(Nat.le_of_ble_eq_true rfl), (Nat.le_of_ble_eq_true rfl)⟩) hS (fun q _ h => hFc q h) hFc (fun r_5 u t H locs ht hvm w_4 hB hz1 hk1 hS => ?_)
  subst w_4
  exact W.iret (v := (-1)) hx hb hr (fun t ht hW => ⟨⟨(-1), (), rfl, rfl, trivial⟩, hS.F ht⟩) hS.2.2 dX11_happensTo_13
set_option maxHeartbeats 4000000 in
set_option maxRecDepth 100000 in
theorem c_X11_happensOf (l : Launch) (dC : Nat → ClassId) (dI : Nat → Nat → Nat) (sz : Nat) (g0 : Nat) (pq : Nat → Nat) (cp : Nat → ClassId) (a1 : Int32) (a2 : Int32) (a3 : Int32) : Met l yX11_happensOf wsX11_happensOf ({ frames := 2, cells := 0, slots := 0, locals := 42 }) (va_Pc [.ref g0, .int a1, .int a2, .int a3] (pcW (dC, dI) [((cp 0), .int)] [(g0, .inr (11, mF pq)), ((pq 0), .inl ((cp 0), 7, .inl (fun _ => 0)))] sz)) (va_Qi (fun (r : Int32) (u : Unit) => r = (-1)) (fun _ _ => True) (va_A [(g0, .inr (11, mF pq)), ((pq 0), .inl ((cp 0), 7, .inl (fun _ => 0)))] sz)) 0 0 (va_A [(g0, .inr (11, mF pq)), ((pq 0), .inl ((cp 0), 7, .inl (fun _ => 0)))] sz) := by
  refine Met.ofW (cc := cX11_happensOf) (maxL := 4) (ret := (some .int)) (by decide) rfl ?_
  intro p e s m args below meth c s₁ B hml hv
  obtain ⟨rfl, hsz, hP, hK, hD0⟩ := hv
  have hx := B.exec
  have hb := B.bytes
  have hr := B.returns
  have hts := atoms_spec (ws := wsX11_happensOf) B.pre
  have hown : s.vm.findClass RX11 = some m.cls := findClass_of_methodNamed B.named
  have hlocks := B.notSynchronized
  subst hsz
  have hD := hD0.self (sz := s.heap.size)
  generalize hAe : va_A [(g0, .inr (11, mF pq)), ((pq 0), .inl ((cp 0), 7, .inl (fun _ => 0)))] s.heap.size = A at hD ⊢
  have hA : ∀ q : Nat, s.heap.size ≤ q → A q := fun q h => by rw [← hAe]; exact Or.inr h
  have hS : va_S A s.heap s.heap [] := va_S.rf
  have hP : va_P (dC, dI) vwCl [(g0, .inr (11, mF pq)), ((pq 0), .inl ((cp 0), 7, .inl (fun _ => 0)))] s.heap := hP
  have hl := lv_entry ([.ref g0, .int a1, .int a2, .int a3]) (n := 4) (Nat.le_of_ble_eq_true rfl)
  rw [lg_entry_eq]
  generalize (lg_sl ([.ref g0, .int a1, .int a2, .int a3]) ++ List.replicate (4 - (lg_sl ([.ref g0, .int a1, .int a2, .int a3])).length) Slot.unset).toArray = ls at hl ⊢
  have hl : lv_has ls 4 [(0, .ref g0), (1, .int a1), (2, .int a2), (3, .int a3)] := hl
  refine lv_aload_n hx hb dX11_happensOf_0 rfl (lv_at hl 0 rfl) ?_
  refine lv_iload_n hx hb dX11_happensOf_1 rfl (lv_at hl 2 rfl) ?_
  have hPc := hP.sub (ws' := [(g0, .inr (11, mF pq))]) [0] rfl
  have hDc := hD.sub (ws' := [(g0, .inr (11, mF pq))]) [0] (by decide) rfl
  have hKc := hK.sub (tys' := []) [] rfl
  have hFc : ∀ q, va_A [] s.heap.size q → A q := pu_free hS hA
  refine va_calli (va_runV (As := [.int a2]) (rest := []) ⟨hx, hb, hml, hown, hts⟩ (c_X11_isAgreement l dC dI s.heap.size g0 pq cp a2) (cwV 1 hts gX11_happensOf_X11_isAgreement rfl rfl rfl (by decide +kernel) ⟨(Nat.le_of_ble_eq_true rfl), (Nat.le_of_ble_eq_true rfl)⟩) (pr_V (r := (RX11, TX11, 63)) hPc hKc hDc 0 11 rfl rfl) rfl rfl hl.1 rfl (lv_room (Nat.le_of_ble_eq_true rfl)) dX11_happensOf_2 ⟨(Nat.le_of_ble_eq_true rfl), (Nat.le_of_ble_eq_true rfl)⟩) hS (fun q _ h => hFc q h) hFc (fun r_2 u t H locs ht hvm w_1 hB hz1 hk1 hS => ?_)
  have hP := pu_keep hP hk1
  clear hk1 hz1 hvm hB hPc hDc hKc hFc ht
  subst w_1
  refine lv_if_ne (tgt := 14) hx hb dX11_happensOf_5 (by decide) (fun c_3 => absurd c_3 (by decide)) (fun _ => ?_)
  refine lv_aload_n hx hb dX11_happensOf_8 rfl (lv_at hl 0 rfl) ?_
  refine lv_iconst (v := (-1)) hx hb dX11_happensOf_9 (by decide) ?_
  have hPc := hP.sub (ws' := [(g0, .inr (11, mF pq)), ((pq 0), .inl ((cp 0), 7, .inl (fun _ => 0)))]) [0, 1] rfl
  have hDc := hD.sub (ws' := [(g0, .inr (11, mF pq)), ((pq 0), .inl ((cp 0), 7, .inl (fun _ => 0)))]) [0, 1] (by decide) rfl
  have hKc := hK.sub (tys' := [((cp 0), .int)]) [0] rfl
  have hFc := va_free (wc := [(g0, .inr (11, mF pq)), ((pq 0), .inl ((cp 0), 7, .inl (fun _ => 0)))]) hD hS hA [0, 1] rfl
  refine va_calli (va_runV (As := [.int (-1)]) (rest := []) ⟨hx, hb, hml, hown, hts⟩ (c_X11_refuse l dC dI H.size g0 pq cp (-1) (by unfold vp_in; decide)) (cwV 1 hts gX11_happensOf_X11_refuse rfl rfl rfl (by decide +kernel) ⟨(Nat.le_of_ble_eq_true rfl), (Nat.le_of_ble_eq_true rfl)⟩) (pr_V (r := (RX11, TX11, 63)) hPc hKc hDc 0 11 rfl rfl) rfl rfl hl.1 rfl (lv_room (Nat.le_of_ble_eq_true rfl)) dX11_happensOf_10 ⟨(Nat.le_of_ble_eq_true rfl), (Nat.le_of_ble_eq_true rfl)⟩) hS (fun q _ h => hFc q h) hFc (fun r_5 u t H locs ht hvm w_4 hB hz1 hk1 hS => ?_)
  subst w_4
  exact W.iret (v := (-1)) hx hb hr (fun t ht hW => ⟨⟨(-1), (), rfl, rfl, trivial⟩, hS.F ht⟩) hS.2.2 dX11_happensOf_13
set_option maxHeartbeats 4000000 in
set_option maxRecDepth 100000 in
theorem c_X11_ended (l : Launch) (dC : Nat → ClassId) (dI : Nat → Nat → Nat) (sz : Nat) (g0 : Nat) (pq : Nat → Nat) (cp : Nat → ClassId) (a1 : Int32) (a2 : Int32) : Met l yX11_ended wsX11_ended ({ frames := 2, cells := 0, slots := 0, locals := 42 }) (va_Pc [.ref g0, .int a1, .int a2] (pcW (dC, dI) [((cp 0), .int)] [(g0, .inr (11, mF pq)), ((pq 0), .inl ((cp 0), 7, .inl (fun _ => 0)))] sz)) (va_Qi (fun (r : Int32) (u : Unit) => r = (-1)) (fun _ _ => True) (va_A [(g0, .inr (11, mF pq)), ((pq 0), .inl ((cp 0), 7, .inl (fun _ => 0)))] sz)) 0 0 (va_A [(g0, .inr (11, mF pq)), ((pq 0), .inl ((cp 0), 7, .inl (fun _ => 0)))] sz) := by
  refine Met.ofW (cc := cX11_ended) (maxL := 5) (ret := (some .int)) (by decide) rfl ?_
  intro p e s m args below meth c s₁ B hml hv
  obtain ⟨rfl, hsz, hP, hK, hD0⟩ := hv
  have hx := B.exec
  have hb := B.bytes
  have hr := B.returns
  have hts := atoms_spec (ws := wsX11_ended) B.pre
  have hown : s.vm.findClass RX11 = some m.cls := findClass_of_methodNamed B.named
  have hlocks := B.notSynchronized
  subst hsz
  have hD := hD0.self (sz := s.heap.size)
  generalize hAe : va_A [(g0, .inr (11, mF pq)), ((pq 0), .inl ((cp 0), 7, .inl (fun _ => 0)))] s.heap.size = A at hD ⊢
  have hA : ∀ q : Nat, s.heap.size ≤ q → A q := fun q h => by rw [← hAe]; exact Or.inr h
  have hS : va_S A s.heap s.heap [] := va_S.rf
  have hP : va_P (dC, dI) vwCl [(g0, .inr (11, mF pq)), ((pq 0), .inl ((cp 0), 7, .inl (fun _ => 0)))] s.heap := hP
  have hl := lv_entry ([.ref g0, .int a1, .int a2]) (n := 5) (Nat.le_of_ble_eq_true rfl)
  rw [lg_entry_eq]
  generalize (lg_sl ([.ref g0, .int a1, .int a2]) ++ List.replicate (5 - (lg_sl ([.ref g0, .int a1, .int a2])).length) Slot.unset).toArray = ls at hl ⊢
  have hl : lv_has ls 5 [(0, .ref g0), (1, .int a1), (2, .int a2)] := hl
  refine lv_aload_n hx hb dX11_ended_0 rfl (lv_at hl 0 rfl) ?_
  refine lv_iload_n hx hb dX11_ended_1 rfl (lv_at hl 1 rfl) ?_
  have hPc := hP.sub (ws' := [(g0, .inr (11, mF pq))]) [0] rfl
  have hDc := hD.sub (ws' := [(g0, .inr (11, mF pq))]) [0] (by decide) rfl
  have hKc := hK.sub (tys' := []) [] rfl
  have hFc : ∀ q, va_A [] s.heap.size q → A q := pu_free hS hA
  refine va_calli (va_runV (As := [.int a1]) (rest := []) ⟨hx, hb, hml, hown, hts⟩ (c_X11_isVoyage l dC dI s.heap.size g0 pq cp a1) (cwV 1 hts gX11_ended_X11_isVoyage rfl rfl rfl (by decide +kernel) ⟨(Nat.le_of_ble_eq_true rfl), (Nat.le_of_ble_eq_true rfl)⟩) (pr_V (r := (RX11, TX11, 63)) hPc hKc hDc 0 11 rfl rfl) rfl rfl hl.1 rfl (lv_room (Nat.le_of_ble_eq_true rfl)) dX11_ended_2 ⟨(Nat.le_of_ble_eq_true rfl), (Nat.le_of_ble_eq_true rfl)⟩) hS (fun q _ h => hFc q h) hFc (fun r_2 u t H locs ht hvm w_1 hB hz1 hk1 hS => ?_)
  have hP := pu_keep hP hk1
  clear hk1 hz1 hvm hB hPc hDc hKc hFc ht
  subst w_1
  refine lv_if_eq (tgt := 15) hx hb dX11_ended_5 (by decide) (fun _ => ?_) (fun c_3 => absurd c_3 (by decide))
  refine lv_aload_n hx hb dX11_ended_15 rfl (lv_at hl 0 rfl) ?_
  refine lv_iconst (v := (-1)) hx hb dX11_ended_16 (by decide) ?_
  have hPc := hP.sub (ws' := [(g0, .inr (11, mF pq)), ((pq 0), .inl ((cp 0), 7, .inl (fun _ => 0)))]) [0, 1] rfl
  have hDc := hD.sub (ws' := [(g0, .inr (11, mF pq)), ((pq 0), .inl ((cp 0), 7, .inl (fun _ => 0)))]) [0, 1] (by decide) rfl
  have hKc := hK.sub (tys' := [((cp 0), .int)]) [0] rfl
  have hFc := va_free (wc := [(g0, .inr (11, mF pq)), ((pq 0), .inl ((cp 0), 7, .inl (fun _ => 0)))]) hD hS hA [0, 1] rfl
  refine va_calli (va_runV (As := [.int (-1)]) (rest := []) ⟨hx, hb, hml, hown, hts⟩ (c_X11_refuse l dC dI H.size g0 pq cp (-1) (by unfold vp_in; decide)) (cwV 1 hts gX11_ended_X11_refuse rfl rfl rfl (by decide +kernel) ⟨(Nat.le_of_ble_eq_true rfl), (Nat.le_of_ble_eq_true rfl)⟩) (pr_V (r := (RX11, TX11, 63)) hPc hKc hDc 0 11 rfl rfl) rfl rfl hl.1 rfl (lv_room (Nat.le_of_ble_eq_true rfl)) dX11_ended_17 ⟨(Nat.le_of_ble_eq_true rfl), (Nat.le_of_ble_eq_true rfl)⟩) hS (fun q _ h => hFc q h) hFc (fun r_5 u t H locs ht hvm w_4 hB hz1 hk1 hS => ?_)
  subst w_4
  exact W.iret (v := (-1)) hx hb hr (fun t ht hW => ⟨⟨(-1), (), rfl, rfl, trivial⟩, hS.F ht⟩) hS.2.2 dX11_ended_20
set_option maxHeartbeats 4000000 in
set_option maxRecDepth 100000 in
theorem c_X11_sailed (l : Launch) (dC : Nat → ClassId) (dI : Nat → Nat → Nat) (sz : Nat) (g0 : Nat) (pq : Nat → Nat) (cp : Nat → ClassId) (a1 : Int32) (a2 : Int32) : Met l yX11_sailed wsX11_sailed ({ frames := 3, cells := 0, slots := 0, locals := 65 }) (va_Pc [.ref g0, .int a1, .int a2] (pcW (dC, dI) [((cp 0), .int)] [(g0, .inr (11, mF pq)), ((pq 0), .inl ((cp 0), 7, .inl (fun _ => 0)))] sz)) (va_Qi (fun (r : Int32) (u : Unit) => r = (-1)) (fun _ _ => True) (va_A [(g0, .inr (11, mF pq)), ((pq 0), .inl ((cp 0), 7, .inl (fun _ => 0)))] sz)) 0 0 (va_A [(g0, .inr (11, mF pq)), ((pq 0), .inl ((cp 0), 7, .inl (fun _ => 0)))] sz) := by
  refine Met.ofW (cc := cX11_sailed) (maxL := 3) (ret := (some .int)) (by decide) rfl ?_
  intro p e s m args below meth c s₁ B hml hv
  obtain ⟨rfl, hsz, hP, hK, hD0⟩ := hv
  have hx := B.exec
  have hb := B.bytes
  have hr := B.returns
  have hts := atoms_spec (ws := wsX11_sailed) B.pre
  have hown : s.vm.findClass RX11 = some m.cls := findClass_of_methodNamed B.named
  have hlocks := B.notSynchronized
  subst hsz
  have hD := hD0.self (sz := s.heap.size)
  generalize hAe : va_A [(g0, .inr (11, mF pq)), ((pq 0), .inl ((cp 0), 7, .inl (fun _ => 0)))] s.heap.size = A at hD ⊢
  have hA : ∀ q : Nat, s.heap.size ≤ q → A q := fun q h => by rw [← hAe]; exact Or.inr h
  have hS : va_S A s.heap s.heap [] := va_S.rf
  have hP : va_P (dC, dI) vwCl [(g0, .inr (11, mF pq)), ((pq 0), .inl ((cp 0), 7, .inl (fun _ => 0)))] s.heap := hP
  have hl := lv_entry ([.ref g0, .int a1, .int a2]) (n := 3) (Nat.le_of_ble_eq_true rfl)
  rw [lg_entry_eq]
  generalize (lg_sl ([.ref g0, .int a1, .int a2]) ++ List.replicate (3 - (lg_sl ([.ref g0, .int a1, .int a2])).length) Slot.unset).toArray = ls at hl ⊢
  have hl : lv_has ls 3 [(0, .ref g0), (1, .int a1), (2, .int a2)] := hl
  refine lv_aload_n hx hb dX11_sailed_0 rfl (lv_at hl 0 rfl) ?_
  refine lv_iconst (v := 0) hx hb dX11_sailed_1 (by decide) ?_
  refine lv_iload_n hx hb dX11_sailed_2 rfl (lv_at hl 1 rfl) ?_
  refine lv_iload_n hx hb dX11_sailed_3 rfl (lv_at hl 2 rfl) ?_
  have hPc := hP.sub (ws' := [(g0, .inr (11, mF pq)), ((pq 0), .inl ((cp 0), 7, .inl (fun _ => 0)))]) [0, 1] rfl
  have hDc := hD.sub (ws' := [(g0, .inr (11, mF pq)), ((pq 0), .inl ((cp 0), 7, .inl (fun _ => 0)))]) [0, 1] (by decide) rfl
  have hKc := hK.sub (tys' := [((cp 0), .int)]) [0] rfl
  have hFc := va_free (wc := [(g0, .inr (11, mF pq)), ((pq 0), .inl ((cp 0), 7, .inl (fun _ => 0)))]) hD hS hA [0, 1] rfl
  refine va_calli (va_runV (As := [.int 0, .int a1, .int a2]) (rest := []) ⟨hx, hb, hml, hown, hts⟩ (c_X11_happensTo l dC dI s.heap.size g0 pq cp 0 a1 a2) (cwV 3 hts gX11_sailed_X11_happensTo rfl rfl rfl (by decide +kernel) ⟨(Nat.le_of_ble_eq_true rfl), (Nat.le_of_ble_eq_true rfl)⟩) (pr_V (r := (RX11, TX11, 63)) hPc hKc hDc 0 11 rfl rfl) rfl rfl hl.1 rfl (lv_room (Nat.le_of_ble_eq_true rfl)) dX11_sailed_4 ⟨(Nat.le_of_ble_eq_true rfl), (Nat.le_of_ble_eq_true rfl)⟩) hS (fun q _ h => hFc q h) hFc (fun r_2 u t H locs ht hvm w_1 hB hz1 hk1 hS => ?_)
  subst w_1
  exact W.iret (v := (-1)) hx hb hr (fun t ht hW => ⟨⟨(-1), (), rfl, rfl, trivial⟩, hS.F ht⟩) hS.2.2 dX11_sailed_7
set_option maxHeartbeats 4000000 in
set_option maxRecDepth 100000 in
theorem c_X11_heard (l : Launch) (dC : Nat → ClassId) (dI : Nat → Nat → Nat) (sz : Nat) (g0 : Nat) (pq : Nat → Nat) (cp : Nat → ClassId) (a1 : Int32) (a2 : Int32) : Met l yX11_heard wsX11_heard ({ frames := 3, cells := 0, slots := 0, locals := 65 }) (va_Pc [.ref g0, .int a1, .int a2] (pcW (dC, dI) [((cp 0), .int)] [(g0, .inr (11, mF pq)), ((pq 0), .inl ((cp 0), 7, .inl (fun _ => 0)))] sz)) (va_Qi (fun (r : Int32) (u : Unit) => r = (-1)) (fun _ _ => True) (va_A [(g0, .inr (11, mF pq)), ((pq 0), .inl ((cp 0), 7, .inl (fun _ => 0)))] sz)) 0 0 (va_A [(g0, .inr (11, mF pq)), ((pq 0), .inl ((cp 0), 7, .inl (fun _ => 0)))] sz) := by
  refine Met.ofW (cc := cX11_heard) (maxL := 3) (ret := (some .int)) (by decide) rfl ?_
  intro p e s m args below meth c s₁ B hml hv
  obtain ⟨rfl, hsz, hP, hK, hD0⟩ := hv
  have hx := B.exec
  have hb := B.bytes
  have hr := B.returns
  have hts := atoms_spec (ws := wsX11_heard) B.pre
  have hown : s.vm.findClass RX11 = some m.cls := findClass_of_methodNamed B.named
  have hlocks := B.notSynchronized
  subst hsz
  have hD := hD0.self (sz := s.heap.size)
  generalize hAe : va_A [(g0, .inr (11, mF pq)), ((pq 0), .inl ((cp 0), 7, .inl (fun _ => 0)))] s.heap.size = A at hD ⊢
  have hA : ∀ q : Nat, s.heap.size ≤ q → A q := fun q h => by rw [← hAe]; exact Or.inr h
  have hS : va_S A s.heap s.heap [] := va_S.rf
  have hP : va_P (dC, dI) vwCl [(g0, .inr (11, mF pq)), ((pq 0), .inl ((cp 0), 7, .inl (fun _ => 0)))] s.heap := hP
  have hl := lv_entry ([.ref g0, .int a1, .int a2]) (n := 3) (Nat.le_of_ble_eq_true rfl)
  rw [lg_entry_eq]
  generalize (lg_sl ([.ref g0, .int a1, .int a2]) ++ List.replicate (3 - (lg_sl ([.ref g0, .int a1, .int a2])).length) Slot.unset).toArray = ls at hl ⊢
  have hl : lv_has ls 3 [(0, .ref g0), (1, .int a1), (2, .int a2)] := hl
  refine lv_aload_n hx hb dX11_heard_0 rfl (lv_at hl 0 rfl) ?_
  refine lv_iconst (v := 1) hx hb dX11_heard_1 (by decide) ?_
  refine lv_iload_n hx hb dX11_heard_2 rfl (lv_at hl 1 rfl) ?_
  refine lv_iload_n hx hb dX11_heard_3 rfl (lv_at hl 2 rfl) ?_
  have hPc := hP.sub (ws' := [(g0, .inr (11, mF pq)), ((pq 0), .inl ((cp 0), 7, .inl (fun _ => 0)))]) [0, 1] rfl
  have hDc := hD.sub (ws' := [(g0, .inr (11, mF pq)), ((pq 0), .inl ((cp 0), 7, .inl (fun _ => 0)))]) [0, 1] (by decide) rfl
  have hKc := hK.sub (tys' := [((cp 0), .int)]) [0] rfl
  have hFc := va_free (wc := [(g0, .inr (11, mF pq)), ((pq 0), .inl ((cp 0), 7, .inl (fun _ => 0)))]) hD hS hA [0, 1] rfl
  refine va_calli (va_runV (As := [.int 1, .int a1, .int a2]) (rest := []) ⟨hx, hb, hml, hown, hts⟩ (c_X11_happensTo l dC dI s.heap.size g0 pq cp 1 a1 a2) (cwV 3 hts gX11_heard_X11_happensTo rfl rfl rfl (by decide +kernel) ⟨(Nat.le_of_ble_eq_true rfl), (Nat.le_of_ble_eq_true rfl)⟩) (pr_V (r := (RX11, TX11, 63)) hPc hKc hDc 0 11 rfl rfl) rfl rfl hl.1 rfl (lv_room (Nat.le_of_ble_eq_true rfl)) dX11_heard_4 ⟨(Nat.le_of_ble_eq_true rfl), (Nat.le_of_ble_eq_true rfl)⟩) hS (fun q _ h => hFc q h) hFc (fun r_2 u t H locs ht hvm w_1 hB hz1 hk1 hS => ?_)
  subst w_1
  exact W.iret (v := (-1)) hx hb hr (fun t ht hW => ⟨⟨(-1), (), rfl, rfl, trivial⟩, hS.F ht⟩) hS.2.2 dX11_heard_7
set_option maxHeartbeats 4000000 in
set_option maxRecDepth 100000 in
theorem c_X11_lost (l : Launch) (dC : Nat → ClassId) (dI : Nat → Nat → Nat) (sz : Nat) (g0 : Nat) (pq : Nat → Nat) (cp : Nat → ClassId) (a1 : Int32) (a2 : Int32) : Met l yX11_lost wsX11_lost ({ frames := 3, cells := 0, slots := 0, locals := 65 }) (va_Pc [.ref g0, .int a1, .int a2] (pcW (dC, dI) [((cp 0), .int)] [(g0, .inr (11, mF pq)), ((pq 0), .inl ((cp 0), 7, .inl (fun _ => 0)))] sz)) (va_Qi (fun (r : Int32) (u : Unit) => r = (-1)) (fun _ _ => True) (va_A [(g0, .inr (11, mF pq)), ((pq 0), .inl ((cp 0), 7, .inl (fun _ => 0)))] sz)) 0 0 (va_A [(g0, .inr (11, mF pq)), ((pq 0), .inl ((cp 0), 7, .inl (fun _ => 0)))] sz) := by
  refine Met.ofW (cc := cX11_lost) (maxL := 3) (ret := (some .int)) (by decide) rfl ?_
  intro p e s m args below meth c s₁ B hml hv
  obtain ⟨rfl, hsz, hP, hK, hD0⟩ := hv
  have hx := B.exec
  have hb := B.bytes
  have hr := B.returns
  have hts := atoms_spec (ws := wsX11_lost) B.pre
  have hown : s.vm.findClass RX11 = some m.cls := findClass_of_methodNamed B.named
  have hlocks := B.notSynchronized
  subst hsz
  have hD := hD0.self (sz := s.heap.size)
  generalize hAe : va_A [(g0, .inr (11, mF pq)), ((pq 0), .inl ((cp 0), 7, .inl (fun _ => 0)))] s.heap.size = A at hD ⊢
  have hA : ∀ q : Nat, s.heap.size ≤ q → A q := fun q h => by rw [← hAe]; exact Or.inr h
  have hS : va_S A s.heap s.heap [] := va_S.rf
  have hP : va_P (dC, dI) vwCl [(g0, .inr (11, mF pq)), ((pq 0), .inl ((cp 0), 7, .inl (fun _ => 0)))] s.heap := hP
  have hl := lv_entry ([.ref g0, .int a1, .int a2]) (n := 3) (Nat.le_of_ble_eq_true rfl)
  rw [lg_entry_eq]
  generalize (lg_sl ([.ref g0, .int a1, .int a2]) ++ List.replicate (3 - (lg_sl ([.ref g0, .int a1, .int a2])).length) Slot.unset).toArray = ls at hl ⊢
  have hl : lv_has ls 3 [(0, .ref g0), (1, .int a1), (2, .int a2)] := hl
  refine lv_aload_n hx hb dX11_lost_0 rfl (lv_at hl 0 rfl) ?_
  refine lv_iconst (v := 2) hx hb dX11_lost_1 (by decide) ?_
  refine lv_iload_n hx hb dX11_lost_2 rfl (lv_at hl 1 rfl) ?_
  refine lv_iload_n hx hb dX11_lost_3 rfl (lv_at hl 2 rfl) ?_
  have hPc := hP.sub (ws' := [(g0, .inr (11, mF pq)), ((pq 0), .inl ((cp 0), 7, .inl (fun _ => 0)))]) [0, 1] rfl
  have hDc := hD.sub (ws' := [(g0, .inr (11, mF pq)), ((pq 0), .inl ((cp 0), 7, .inl (fun _ => 0)))]) [0, 1] (by decide) rfl
  have hKc := hK.sub (tys' := [((cp 0), .int)]) [0] rfl
  have hFc := va_free (wc := [(g0, .inr (11, mF pq)), ((pq 0), .inl ((cp 0), 7, .inl (fun _ => 0)))]) hD hS hA [0, 1] rfl
  refine va_calli (va_runV (As := [.int 2, .int a1, .int a2]) (rest := []) ⟨hx, hb, hml, hown, hts⟩ (c_X11_happensTo l dC dI s.heap.size g0 pq cp 2 a1 a2) (cwV 3 hts gX11_lost_X11_happensTo rfl rfl rfl (by decide +kernel) ⟨(Nat.le_of_ble_eq_true rfl), (Nat.le_of_ble_eq_true rfl)⟩) (pr_V (r := (RX11, TX11, 63)) hPc hKc hDc 0 11 rfl rfl) rfl rfl hl.1 rfl (lv_room (Nat.le_of_ble_eq_true rfl)) dX11_lost_4 ⟨(Nat.le_of_ble_eq_true rfl), (Nat.le_of_ble_eq_true rfl)⟩) hS (fun q _ h => hFc q h) hFc (fun r_2 u t H locs ht hvm w_1 hB hz1 hk1 hS => ?_)
  subst w_1
  exact W.iret (v := (-1)) hx hb hr (fun t ht hW => ⟨⟨(-1), (), rfl, rfl, trivial⟩, hS.F ht⟩) hS.2.2 dX11_lost_7
set_option maxHeartbeats 4000000 in
set_option maxRecDepth 100000 in
theorem c_X11_left (l : Launch) (dC : Nat → ClassId) (dI : Nat → Nat → Nat) (sz : Nat) (g0 : Nat) (pq : Nat → Nat) (cp : Nat → ClassId) (a1 : Int32) (a2 : Int32) (a3 : Int32) (a4 : Int32) : Met l yX11_left wsX11_left ({ frames := 2, cells := 0, slots := 0, locals := 42 }) (va_Pc [.ref g0, .int a1, .int a2, .int a3, .int a4] (pcW (dC, dI) [((cp 0), .int)] [(g0, .inr (11, mF pq)), ((pq 0), .inl ((cp 0), 7, .inl (fun _ => 0)))] sz)) (va_Qi (fun (r : Int32) (u : Unit) => r = (-1)) (fun _ _ => True) (va_A [(g0, .inr (11, mF pq)), ((pq 0), .inl ((cp 0), 7, .inl (fun _ => 0)))] sz)) 0 0 (va_A [(g0, .inr (11, mF pq)), ((pq 0), .inl ((cp 0), 7, .inl (fun _ => 0)))] sz) := by
  refine Met.ofW (cc := cX11_left) (maxL := 5) (ret := (some .int)) (by decide) rfl ?_
  intro p e s m args below meth c s₁ B hml hv
  obtain ⟨rfl, hsz, hP, hK, hD0⟩ := hv
  have hx := B.exec
  have hb := B.bytes
  have hr := B.returns
  have hts := atoms_spec (ws := wsX11_left) B.pre
  have hown : s.vm.findClass RX11 = some m.cls := findClass_of_methodNamed B.named
  have hlocks := B.notSynchronized
  subst hsz
  have hD := hD0.self (sz := s.heap.size)
  generalize hAe : va_A [(g0, .inr (11, mF pq)), ((pq 0), .inl ((cp 0), 7, .inl (fun _ => 0)))] s.heap.size = A at hD ⊢
  have hA : ∀ q : Nat, s.heap.size ≤ q → A q := fun q h => by rw [← hAe]; exact Or.inr h
  have hS : va_S A s.heap s.heap [] := va_S.rf
  have hP : va_P (dC, dI) vwCl [(g0, .inr (11, mF pq)), ((pq 0), .inl ((cp 0), 7, .inl (fun _ => 0)))] s.heap := hP
  have hl := lv_entry ([.ref g0, .int a1, .int a2, .int a3, .int a4]) (n := 5) (Nat.le_of_ble_eq_true rfl)
  rw [lg_entry_eq]
  generalize (lg_sl ([.ref g0, .int a1, .int a2, .int a3, .int a4]) ++ List.replicate (5 - (lg_sl ([.ref g0, .int a1, .int a2, .int a3, .int a4])).length) Slot.unset).toArray = ls at hl ⊢
  have hl : lv_has ls 5 [(0, .ref g0), (1, .int a1), (2, .int a2), (3, .int a3), (4, .int a4)] := hl
  refine lv_aload_n hx hb dX11_left_0 rfl (lv_at hl 0 rfl) ?_
  refine lv_iload_n hx hb dX11_left_1 rfl (lv_at hl 1 rfl) ?_
  have hPc := hP.sub (ws' := [(g0, .inr (11, mF pq))]) [0] rfl
  have hDc := hD.sub (ws' := [(g0, .inr (11, mF pq))]) [0] (by decide) rfl
  have hKc := hK.sub (tys' := []) [] rfl
  have hFc : ∀ q, va_A [] s.heap.size q → A q := pu_free hS hA
  refine va_calli (va_runV (As := [.int a1]) (rest := []) ⟨hx, hb, hml, hown, hts⟩ (c_X11_isAgreement l dC dI s.heap.size g0 pq cp a1) (cwV 1 hts gX11_left_X11_isAgreement rfl rfl rfl (by decide +kernel) ⟨(Nat.le_of_ble_eq_true rfl), (Nat.le_of_ble_eq_true rfl)⟩) (pr_V (r := (RX11, TX11, 63)) hPc hKc hDc 0 11 rfl rfl) rfl rfl hl.1 rfl (lv_room (Nat.le_of_ble_eq_true rfl)) dX11_left_2 ⟨(Nat.le_of_ble_eq_true rfl), (Nat.le_of_ble_eq_true rfl)⟩) hS (fun q _ h => hFc q h) hFc (fun r_2 u t H locs ht hvm w_1 hB hz1 hk1 hS => ?_)
  have hP := pu_keep hP hk1
  clear hk1 hz1 hvm hB hPc hDc hKc hFc ht
  subst w_1
  refine lv_if_eq (tgt := 16) hx hb dX11_left_5 (by decide) (fun _ => ?_) (fun c_3 => absurd c_3 (by decide))
  refine lv_aload_n hx hb dX11_left_16 rfl (lv_at hl 0 rfl) ?_
  refine lv_iconst (v := (-1)) hx hb dX11_left_17 (by decide) ?_
  have hPc := hP.sub (ws' := [(g0, .inr (11, mF pq)), ((pq 0), .inl ((cp 0), 7, .inl (fun _ => 0)))]) [0, 1] rfl
  have hDc := hD.sub (ws' := [(g0, .inr (11, mF pq)), ((pq 0), .inl ((cp 0), 7, .inl (fun _ => 0)))]) [0, 1] (by decide) rfl
  have hKc := hK.sub (tys' := [((cp 0), .int)]) [0] rfl
  have hFc := va_free (wc := [(g0, .inr (11, mF pq)), ((pq 0), .inl ((cp 0), 7, .inl (fun _ => 0)))]) hD hS hA [0, 1] rfl
  refine va_calli (va_runV (As := [.int (-1)]) (rest := []) ⟨hx, hb, hml, hown, hts⟩ (c_X11_refuse l dC dI H.size g0 pq cp (-1) (by unfold vp_in; decide)) (cwV 1 hts gX11_left_X11_refuse rfl rfl rfl (by decide +kernel) ⟨(Nat.le_of_ble_eq_true rfl), (Nat.le_of_ble_eq_true rfl)⟩) (pr_V (r := (RX11, TX11, 63)) hPc hKc hDc 0 11 rfl rfl) rfl rfl hl.1 rfl (lv_room (Nat.le_of_ble_eq_true rfl)) dX11_left_18 ⟨(Nat.le_of_ble_eq_true rfl), (Nat.le_of_ble_eq_true rfl)⟩) hS (fun q _ h => hFc q h) hFc (fun r_5 u t H locs ht hvm w_4 hB hz1 hk1 hS => ?_)
  subst w_4
  exact W.iret (v := (-1)) hx hb hr (fun t ht hW => ⟨⟨(-1), (), rfl, rfl, trivial⟩, hS.F ht⟩) hS.2.2 dX11_left_21
set_option maxHeartbeats 4000000 in
set_option maxRecDepth 100000 in
theorem c_X11_died (l : Launch) (dC : Nat → ClassId) (dI : Nat → Nat → Nat) (sz : Nat) (g0 : Nat) (pq : Nat → Nat) (cp : Nat → ClassId) (a1 : Int32) (a2 : Int32) : Met l yX11_died wsX11_died ({ frames := 3, cells := 0, slots := 0, locals := 65 }) (va_Pc [.ref g0, .int a1, .int a2] (pcW (dC, dI) [((cp 0), .int)] [(g0, .inr (11, mF pq)), ((pq 0), .inl ((cp 0), 7, .inl (fun _ => 0)))] sz)) (va_Qi (fun (r : Int32) (u : Unit) => r = (-1)) (fun _ _ => True) (va_A [(g0, .inr (11, mF pq)), ((pq 0), .inl ((cp 0), 7, .inl (fun _ => 0)))] sz)) 0 0 (va_A [(g0, .inr (11, mF pq)), ((pq 0), .inl ((cp 0), 7, .inl (fun _ => 0)))] sz) := by
  refine Met.ofW (cc := cX11_died) (maxL := 3) (ret := (some .int)) (by decide) rfl ?_
  intro p e s m args below meth c s₁ B hml hv
  obtain ⟨rfl, hsz, hP, hK, hD0⟩ := hv
  have hx := B.exec
  have hb := B.bytes
  have hr := B.returns
  have hts := atoms_spec (ws := wsX11_died) B.pre
  have hown : s.vm.findClass RX11 = some m.cls := findClass_of_methodNamed B.named
  have hlocks := B.notSynchronized
  subst hsz
  have hD := hD0.self (sz := s.heap.size)
  generalize hAe : va_A [(g0, .inr (11, mF pq)), ((pq 0), .inl ((cp 0), 7, .inl (fun _ => 0)))] s.heap.size = A at hD ⊢
  have hA : ∀ q : Nat, s.heap.size ≤ q → A q := fun q h => by rw [← hAe]; exact Or.inr h
  have hS : va_S A s.heap s.heap [] := va_S.rf
  have hP : va_P (dC, dI) vwCl [(g0, .inr (11, mF pq)), ((pq 0), .inl ((cp 0), 7, .inl (fun _ => 0)))] s.heap := hP
  have hl := lv_entry ([.ref g0, .int a1, .int a2]) (n := 3) (Nat.le_of_ble_eq_true rfl)
  rw [lg_entry_eq]
  generalize (lg_sl ([.ref g0, .int a1, .int a2]) ++ List.replicate (3 - (lg_sl ([.ref g0, .int a1, .int a2])).length) Slot.unset).toArray = ls at hl ⊢
  have hl : lv_has ls 3 [(0, .ref g0), (1, .int a1), (2, .int a2)] := hl
  refine lv_aload_n hx hb dX11_died_0 rfl (lv_at hl 0 rfl) ?_
  refine lv_iconst (v := 4) hx hb dX11_died_1 (by decide) ?_
  refine lv_iload_n hx hb dX11_died_2 rfl (lv_at hl 1 rfl) ?_
  refine lv_iload_n hx hb dX11_died_3 rfl (lv_at hl 2 rfl) ?_
  have hPc := hP.sub (ws' := [(g0, .inr (11, mF pq)), ((pq 0), .inl ((cp 0), 7, .inl (fun _ => 0)))]) [0, 1] rfl
  have hDc := hD.sub (ws' := [(g0, .inr (11, mF pq)), ((pq 0), .inl ((cp 0), 7, .inl (fun _ => 0)))]) [0, 1] (by decide) rfl
  have hKc := hK.sub (tys' := [((cp 0), .int)]) [0] rfl
  have hFc := va_free (wc := [(g0, .inr (11, mF pq)), ((pq 0), .inl ((cp 0), 7, .inl (fun _ => 0)))]) hD hS hA [0, 1] rfl
  refine va_calli (va_runV (As := [.int 4, .int a1, .int a2]) (rest := []) ⟨hx, hb, hml, hown, hts⟩ (c_X11_happensOf l dC dI s.heap.size g0 pq cp 4 a1 a2) (cwV 3 hts gX11_died_X11_happensOf rfl rfl rfl (by decide +kernel) ⟨(Nat.le_of_ble_eq_true rfl), (Nat.le_of_ble_eq_true rfl)⟩) (pr_V (r := (RX11, TX11, 63)) hPc hKc hDc 0 11 rfl rfl) rfl rfl hl.1 rfl (lv_room (Nat.le_of_ble_eq_true rfl)) dX11_died_4 ⟨(Nat.le_of_ble_eq_true rfl), (Nat.le_of_ble_eq_true rfl)⟩) hS (fun q _ h => hFc q h) hFc (fun r_2 u t H locs ht hvm w_1 hB hz1 hk1 hS => ?_)
  subst w_1
  exact W.iret (v := (-1)) hx hb hr (fun t ht hW => ⟨⟨(-1), (), rfl, rfl, trivial⟩, hS.F ht⟩) hS.2.2 dX11_died_7
set_option maxHeartbeats 4000000 in
set_option maxRecDepth 100000 in
theorem c_X11_back (l : Launch) (dC : Nat → ClassId) (dI : Nat → Nat → Nat) (sz : Nat) (g0 : Nat) (pq : Nat → Nat) (cp : Nat → ClassId) (a1 : Int32) (a2 : Int32) : Met l yX11_back wsX11_back ({ frames := 3, cells := 0, slots := 0, locals := 65 }) (va_Pc [.ref g0, .int a1, .int a2] (pcW (dC, dI) [((cp 0), .int)] [(g0, .inr (11, mF pq)), ((pq 0), .inl ((cp 0), 7, .inl (fun _ => 0)))] sz)) (va_Qi (fun (r : Int32) (u : Unit) => r = (-1)) (fun _ _ => True) (va_A [(g0, .inr (11, mF pq)), ((pq 0), .inl ((cp 0), 7, .inl (fun _ => 0)))] sz)) 0 0 (va_A [(g0, .inr (11, mF pq)), ((pq 0), .inl ((cp 0), 7, .inl (fun _ => 0)))] sz) := by
  refine Met.ofW (cc := cX11_back) (maxL := 3) (ret := (some .int)) (by decide) rfl ?_
  intro p e s m args below meth c s₁ B hml hv
  obtain ⟨rfl, hsz, hP, hK, hD0⟩ := hv
  have hx := B.exec
  have hb := B.bytes
  have hr := B.returns
  have hts := atoms_spec (ws := wsX11_back) B.pre
  have hown : s.vm.findClass RX11 = some m.cls := findClass_of_methodNamed B.named
  have hlocks := B.notSynchronized
  subst hsz
  have hD := hD0.self (sz := s.heap.size)
  generalize hAe : va_A [(g0, .inr (11, mF pq)), ((pq 0), .inl ((cp 0), 7, .inl (fun _ => 0)))] s.heap.size = A at hD ⊢
  have hA : ∀ q : Nat, s.heap.size ≤ q → A q := fun q h => by rw [← hAe]; exact Or.inr h
  have hS : va_S A s.heap s.heap [] := va_S.rf
  have hP : va_P (dC, dI) vwCl [(g0, .inr (11, mF pq)), ((pq 0), .inl ((cp 0), 7, .inl (fun _ => 0)))] s.heap := hP
  have hl := lv_entry ([.ref g0, .int a1, .int a2]) (n := 3) (Nat.le_of_ble_eq_true rfl)
  rw [lg_entry_eq]
  generalize (lg_sl ([.ref g0, .int a1, .int a2]) ++ List.replicate (3 - (lg_sl ([.ref g0, .int a1, .int a2])).length) Slot.unset).toArray = ls at hl ⊢
  have hl : lv_has ls 3 [(0, .ref g0), (1, .int a1), (2, .int a2)] := hl
  refine lv_aload_n hx hb dX11_back_0 rfl (lv_at hl 0 rfl) ?_
  refine lv_iconst (v := 5) hx hb dX11_back_1 (by decide) ?_
  refine lv_iload_n hx hb dX11_back_2 rfl (lv_at hl 1 rfl) ?_
  refine lv_iload_n hx hb dX11_back_3 rfl (lv_at hl 2 rfl) ?_
  have hPc := hP.sub (ws' := [(g0, .inr (11, mF pq)), ((pq 0), .inl ((cp 0), 7, .inl (fun _ => 0)))]) [0, 1] rfl
  have hDc := hD.sub (ws' := [(g0, .inr (11, mF pq)), ((pq 0), .inl ((cp 0), 7, .inl (fun _ => 0)))]) [0, 1] (by decide) rfl
  have hKc := hK.sub (tys' := [((cp 0), .int)]) [0] rfl
  have hFc := va_free (wc := [(g0, .inr (11, mF pq)), ((pq 0), .inl ((cp 0), 7, .inl (fun _ => 0)))]) hD hS hA [0, 1] rfl
  refine va_calli (va_runV (As := [.int 5, .int a1, .int a2]) (rest := []) ⟨hx, hb, hml, hown, hts⟩ (c_X11_happensOf l dC dI s.heap.size g0 pq cp 5 a1 a2) (cwV 3 hts gX11_back_X11_happensOf rfl rfl rfl (by decide +kernel) ⟨(Nat.le_of_ble_eq_true rfl), (Nat.le_of_ble_eq_true rfl)⟩) (pr_V (r := (RX11, TX11, 63)) hPc hKc hDc 0 11 rfl rfl) rfl rfl hl.1 rfl (lv_room (Nat.le_of_ble_eq_true rfl)) dX11_back_4 ⟨(Nat.le_of_ble_eq_true rfl), (Nat.le_of_ble_eq_true rfl)⟩) hS (fun q _ h => hFc q h) hFc (fun r_2 u t H locs ht hvm w_1 hB hz1 hk1 hS => ?_)
  subst w_1
  exact W.iret (v := (-1)) hx hb hr (fun t ht hW => ⟨⟨(-1), (), rfl, rfl, trivial⟩, hS.F ht⟩) hS.2.2 dX11_back_7
set_option maxHeartbeats 4000000 in
set_option maxRecDepth 100000 in
theorem c_X11_sign_ (l : Launch) (dC : Nat → ClassId) (dI : Nat → Nat → Nat) (sz : Nat) (g0 : Nat) (pq : Nat → Nat) (cp : Nat → ClassId) (a1 : Int32) (a2 : Int32) (a3 : Int32) (a4 : Int32) (a5 : Int32) : Met l yX11_sign_ wsX11_sign_ ({ frames := 2, cells := 0, slots := 0, locals := 42 }) (va_Pc [.ref g0, .int a1, .int a2, .int a3, .int a4, .int a5] (pcW (dC, dI) [((cp 0), .int)] [(g0, .inr (11, mF pq)), ((pq 0), .inl ((cp 0), 7, .inl (fun _ => 0)))] sz)) (va_Qi (fun (r : Int32) (u : Unit) => r = (-1)) (fun _ _ => True) (va_A [(g0, .inr (11, mF pq)), ((pq 0), .inl ((cp 0), 7, .inl (fun _ => 0)))] sz)) 0 0 (va_A [(g0, .inr (11, mF pq)), ((pq 0), .inl ((cp 0), 7, .inl (fun _ => 0)))] sz) := by
  refine Met.ofW (cc := cX11_sign_) (maxL := 8) (ret := (some .int)) (by decide) rfl ?_
  intro p e s m args below meth c s₁ B hml hv
  obtain ⟨rfl, hsz, hP, hK, hD0⟩ := hv
  have hx := B.exec
  have hb := B.bytes
  have hr := B.returns
  have hts := atoms_spec (ws := wsX11_sign_) B.pre
  have hown : s.vm.findClass RX11 = some m.cls := findClass_of_methodNamed B.named
  have hlocks := B.notSynchronized
  subst hsz
  have hD := hD0.self (sz := s.heap.size)
  generalize hAe : va_A [(g0, .inr (11, mF pq)), ((pq 0), .inl ((cp 0), 7, .inl (fun _ => 0)))] s.heap.size = A at hD ⊢
  have hA : ∀ q : Nat, s.heap.size ≤ q → A q := fun q h => by rw [← hAe]; exact Or.inr h
  have hS : va_S A s.heap s.heap [] := va_S.rf
  have hP : va_P (dC, dI) vwCl [(g0, .inr (11, mF pq)), ((pq 0), .inl ((cp 0), 7, .inl (fun _ => 0)))] s.heap := hP
  have hl := lv_entry ([.ref g0, .int a1, .int a2, .int a3, .int a4, .int a5]) (n := 8) (Nat.le_of_ble_eq_true rfl)
  rw [lg_entry_eq]
  generalize (lg_sl ([.ref g0, .int a1, .int a2, .int a3, .int a4, .int a5]) ++ List.replicate (8 - (lg_sl ([.ref g0, .int a1, .int a2, .int a3, .int a4, .int a5])).length) Slot.unset).toArray = ls at hl ⊢
  have hl : lv_has ls 8 [(0, .ref g0), (1, .int a1), (2, .int a2), (3, .int a3), (4, .int a4), (5, .int a5)] := hl
  refine lv_aload_n hx hb dX11_sign__0 rfl (lv_at hl 0 rfl) ?_
  refine lv_iload_n hx hb dX11_sign__1 rfl (lv_at hl 1 rfl) ?_
  have hPc := hP.sub (ws' := [(g0, .inr (11, mF pq))]) [0] rfl
  have hDc := hD.sub (ws' := [(g0, .inr (11, mF pq))]) [0] (by decide) rfl
  have hKc := hK.sub (tys' := []) [] rfl
  have hFc : ∀ q, va_A [] s.heap.size q → A q := pu_free hS hA
  refine va_calli (va_runV (As := [.int a1]) (rest := []) ⟨hx, hb, hml, hown, hts⟩ (c_X11_isMan l dC dI s.heap.size g0 pq cp a1) (cwV 1 hts gX11_sign__X11_isMan rfl rfl rfl (by decide +kernel) ⟨(Nat.le_of_ble_eq_true rfl), (Nat.le_of_ble_eq_true rfl)⟩) (pr_V (r := (RX11, TX11, 63)) hPc hKc hDc 0 11 rfl rfl) rfl rfl hl.1 rfl (lv_room (Nat.le_of_ble_eq_true rfl)) dX11_sign__2 ⟨(Nat.le_of_ble_eq_true rfl), (Nat.le_of_ble_eq_true rfl)⟩) hS (fun q _ h => hFc q h) hFc (fun r_2 u t H locs ht hvm w_1 hB hz1 hk1 hS => ?_)
  have hP := pu_keep hP hk1
  clear hk1 hz1 hvm hB hPc hDc hKc hFc ht
  subst w_1
  refine lv_if_eq (tgt := 31) hx hb dX11_sign__5 (by decide) (fun _ => ?_) (fun c_3 => absurd c_3 (by decide))
  refine lv_aload_n hx hb dX11_sign__31 rfl (lv_at hl 0 rfl) ?_
  refine lv_iconst (v := (-1)) hx hb dX11_sign__32 (by decide) ?_
  have hPc := hP.sub (ws' := [(g0, .inr (11, mF pq)), ((pq 0), .inl ((cp 0), 7, .inl (fun _ => 0)))]) [0, 1] rfl
  have hDc := hD.sub (ws' := [(g0, .inr (11, mF pq)), ((pq 0), .inl ((cp 0), 7, .inl (fun _ => 0)))]) [0, 1] (by decide) rfl
  have hKc := hK.sub (tys' := [((cp 0), .int)]) [0] rfl
  have hFc := va_free (wc := [(g0, .inr (11, mF pq)), ((pq 0), .inl ((cp 0), 7, .inl (fun _ => 0)))]) hD hS hA [0, 1] rfl
  refine va_calli (va_runV (As := [.int (-1)]) (rest := []) ⟨hx, hb, hml, hown, hts⟩ (c_X11_refuse l dC dI H.size g0 pq cp (-1) (by unfold vp_in; decide)) (cwV 1 hts gX11_sign__X11_refuse rfl rfl rfl (by decide +kernel) ⟨(Nat.le_of_ble_eq_true rfl), (Nat.le_of_ble_eq_true rfl)⟩) (pr_V (r := (RX11, TX11, 63)) hPc hKc hDc 0 11 rfl rfl) rfl rfl hl.1 rfl (lv_room (Nat.le_of_ble_eq_true rfl)) dX11_sign__33 ⟨(Nat.le_of_ble_eq_true rfl), (Nat.le_of_ble_eq_true rfl)⟩) hS (fun q _ h => hFc q h) hFc (fun r_5 u t H locs ht hvm w_4 hB hz1 hk1 hS => ?_)
  subst w_4
  exact W.iret (v := (-1)) hx hb hr (fun t ht hW => ⟨⟨(-1), (), rfl, rfl, trivial⟩, hS.F ht⟩) hS.2.2 dX11_sign__36
set_option maxHeartbeats 4000000 in
set_option maxRecDepth 100000 in
theorem c_X11_off (l : Launch) (dC : Nat → ClassId) (dI : Nat → Nat → Nat) (sz : Nat) (g0 : Nat) (pq : Nat → Nat) (cp : Nat → ClassId) (a1 : Int32) (a2 : Int32) : Met l yX11_off wsX11_off ({ frames := 2, cells := 0, slots := 0, locals := 42 }) (va_Pc [.ref g0, .int a1, .int a2] (pcW (dC, dI) [((cp 0), .int)] [(g0, .inr (11, mF pq)), ((pq 0), .inl ((cp 0), 7, .inl (fun _ => 0)))] sz)) (va_Qi (fun (r : Int32) (u : Unit) => r = (-1)) (fun _ _ => True) (va_A [(g0, .inr (11, mF pq)), ((pq 0), .inl ((cp 0), 7, .inl (fun _ => 0)))] sz)) 0 0 (va_A [(g0, .inr (11, mF pq)), ((pq 0), .inl ((cp 0), 7, .inl (fun _ => 0)))] sz) := by
  refine Met.ofW (cc := cX11_off) (maxL := 3) (ret := (some .int)) (by decide) rfl ?_
  intro p e s m args below meth c s₁ B hml hv
  obtain ⟨rfl, hsz, hP, hK, hD0⟩ := hv
  have hx := B.exec
  have hb := B.bytes
  have hr := B.returns
  have hts := atoms_spec (ws := wsX11_off) B.pre
  have hown : s.vm.findClass RX11 = some m.cls := findClass_of_methodNamed B.named
  have hlocks := B.notSynchronized
  subst hsz
  have hD := hD0.self (sz := s.heap.size)
  generalize hAe : va_A [(g0, .inr (11, mF pq)), ((pq 0), .inl ((cp 0), 7, .inl (fun _ => 0)))] s.heap.size = A at hD ⊢
  have hA : ∀ q : Nat, s.heap.size ≤ q → A q := fun q h => by rw [← hAe]; exact Or.inr h
  have hS : va_S A s.heap s.heap [] := va_S.rf
  have hP : va_P (dC, dI) vwCl [(g0, .inr (11, mF pq)), ((pq 0), .inl ((cp 0), 7, .inl (fun _ => 0)))] s.heap := hP
  have hl := lv_entry ([.ref g0, .int a1, .int a2]) (n := 3) (Nat.le_of_ble_eq_true rfl)
  rw [lg_entry_eq]
  generalize (lg_sl ([.ref g0, .int a1, .int a2]) ++ List.replicate (3 - (lg_sl ([.ref g0, .int a1, .int a2])).length) Slot.unset).toArray = ls at hl ⊢
  have hl : lv_has ls 3 [(0, .ref g0), (1, .int a1), (2, .int a2)] := hl
  refine lv_aload_n hx hb dX11_off_0 rfl (lv_at hl 0 rfl) ?_
  refine lv_iload_n hx hb dX11_off_1 rfl (lv_at hl 1 rfl) ?_
  have hPc := hP.sub (ws' := [(g0, .inr (11, mF pq))]) [0] rfl
  have hDc := hD.sub (ws' := [(g0, .inr (11, mF pq))]) [0] (by decide) rfl
  have hKc := hK.sub (tys' := []) [] rfl
  have hFc : ∀ q, va_A [] s.heap.size q → A q := pu_free hS hA
  refine va_calli (va_runV (As := [.int a1]) (rest := []) ⟨hx, hb, hml, hown, hts⟩ (c_X11_isAgreement l dC dI s.heap.size g0 pq cp a1) (cwV 1 hts gX11_off_X11_isAgreement rfl rfl rfl (by decide +kernel) ⟨(Nat.le_of_ble_eq_true rfl), (Nat.le_of_ble_eq_true rfl)⟩) (pr_V (r := (RX11, TX11, 63)) hPc hKc hDc 0 11 rfl rfl) rfl rfl hl.1 rfl (lv_room (Nat.le_of_ble_eq_true rfl)) dX11_off_2 ⟨(Nat.le_of_ble_eq_true rfl), (Nat.le_of_ble_eq_true rfl)⟩) hS (fun q _ h => hFc q h) hFc (fun r_2 u t H locs ht hvm w_1 hB hz1 hk1 hS => ?_)
  have hP := pu_keep hP hk1
  clear hk1 hz1 hvm hB hPc hDc hKc hFc ht
  subst w_1
  refine lv_if_eq (tgt := 15) hx hb dX11_off_5 (by decide) (fun _ => ?_) (fun c_3 => absurd c_3 (by decide))
  refine lv_aload_n hx hb dX11_off_15 rfl (lv_at hl 0 rfl) ?_
  refine lv_iconst (v := (-1)) hx hb dX11_off_16 (by decide) ?_
  have hPc := hP.sub (ws' := [(g0, .inr (11, mF pq)), ((pq 0), .inl ((cp 0), 7, .inl (fun _ => 0)))]) [0, 1] rfl
  have hDc := hD.sub (ws' := [(g0, .inr (11, mF pq)), ((pq 0), .inl ((cp 0), 7, .inl (fun _ => 0)))]) [0, 1] (by decide) rfl
  have hKc := hK.sub (tys' := [((cp 0), .int)]) [0] rfl
  have hFc := va_free (wc := [(g0, .inr (11, mF pq)), ((pq 0), .inl ((cp 0), 7, .inl (fun _ => 0)))]) hD hS hA [0, 1] rfl
  refine va_calli (va_runV (As := [.int (-1)]) (rest := []) ⟨hx, hb, hml, hown, hts⟩ (c_X11_refuse l dC dI H.size g0 pq cp (-1) (by unfold vp_in; decide)) (cwV 1 hts gX11_off_X11_refuse rfl rfl rfl (by decide +kernel) ⟨(Nat.le_of_ble_eq_true rfl), (Nat.le_of_ble_eq_true rfl)⟩) (pr_V (r := (RX11, TX11, 63)) hPc hKc hDc 0 11 rfl rfl) rfl rfl hl.1 rfl (lv_room (Nat.le_of_ble_eq_true rfl)) dX11_off_17 ⟨(Nat.le_of_ble_eq_true rfl), (Nat.le_of_ble_eq_true rfl)⟩) hS (fun q _ h => hFc q h) hFc (fun r_5 u t H locs ht hvm w_4 hB hz1 hk1 hS => ?_)
  subst w_4
  exact W.iret (v := (-1)) hx hb hr (fun t ht hW => ⟨⟨(-1), (), rfl, rfl, trivial⟩, hS.F ht⟩) hS.2.2 dX11_off_20
set_option maxHeartbeats 4000000 in
set_option maxRecDepth 100000 in
theorem c_X11_state (l : Launch) (dC : Nat → ClassId) (dI : Nat → Nat → Nat) (sz : Nat) (g0 : Nat) (pq : Nat → Nat) (cp : Nat → ClassId) (a1 : Int32) (a2 : Int32) (a3 : Int32) : Met l yX11_state wsX11_state ({ frames := 2, cells := 0, slots := 0, locals := 42 }) (va_Pc [.ref g0, .int a1, .int a2, .int a3] (pcW (dC, dI) [((cp 0), .int)] [(g0, .inr (11, mF pq)), ((pq 0), .inl ((cp 0), 7, .inl (fun _ => 0)))] sz)) (va_Qi (fun (r : Int32) (u : Unit) => r = (-1)) (fun _ _ => True) (va_A [(g0, .inr (11, mF pq)), ((pq 0), .inl ((cp 0), 7, .inl (fun _ => 0)))] sz)) 0 0 (va_A [(g0, .inr (11, mF pq)), ((pq 0), .inl ((cp 0), 7, .inl (fun _ => 0)))] sz) := by
  refine Met.ofW (cc := cX11_state) (maxL := 5) (ret := (some .int)) (by decide) rfl ?_
  intro p e s m args below meth c s₁ B hml hv
  obtain ⟨rfl, hsz, hP, hK, hD0⟩ := hv
  have hx := B.exec
  have hb := B.bytes
  have hr := B.returns
  have hts := atoms_spec (ws := wsX11_state) B.pre
  have hown : s.vm.findClass RX11 = some m.cls := findClass_of_methodNamed B.named
  have hlocks := B.notSynchronized
  subst hsz
  have hD := hD0.self (sz := s.heap.size)
  generalize hAe : va_A [(g0, .inr (11, mF pq)), ((pq 0), .inl ((cp 0), 7, .inl (fun _ => 0)))] s.heap.size = A at hD ⊢
  have hA : ∀ q : Nat, s.heap.size ≤ q → A q := fun q h => by rw [← hAe]; exact Or.inr h
  have hS : va_S A s.heap s.heap [] := va_S.rf
  have hP : va_P (dC, dI) vwCl [(g0, .inr (11, mF pq)), ((pq 0), .inl ((cp 0), 7, .inl (fun _ => 0)))] s.heap := hP
  have hl := lv_entry ([.ref g0, .int a1, .int a2, .int a3]) (n := 5) (Nat.le_of_ble_eq_true rfl)
  rw [lg_entry_eq]
  generalize (lg_sl ([.ref g0, .int a1, .int a2, .int a3]) ++ List.replicate (5 - (lg_sl ([.ref g0, .int a1, .int a2, .int a3])).length) Slot.unset).toArray = ls at hl ⊢
  have hl : lv_has ls 5 [(0, .ref g0), (1, .int a1), (2, .int a2), (3, .int a3)] := hl
  refine lv_aload_n hx hb dX11_state_0 rfl (lv_at hl 0 rfl) ?_
  refine lv_iload_n hx hb dX11_state_1 rfl (lv_at hl 1 rfl) ?_
  have hPc := hP.sub (ws' := [(g0, .inr (11, mF pq))]) [0] rfl
  have hDc := hD.sub (ws' := [(g0, .inr (11, mF pq))]) [0] (by decide) rfl
  have hKc := hK.sub (tys' := []) [] rfl
  have hFc : ∀ q, va_A [] s.heap.size q → A q := pu_free hS hA
  refine va_calli (va_runV (As := [.int a1]) (rest := []) ⟨hx, hb, hml, hown, hts⟩ (c_X11_isAgreement l dC dI s.heap.size g0 pq cp a1) (cwV 1 hts gX11_state_X11_isAgreement rfl rfl rfl (by decide +kernel) ⟨(Nat.le_of_ble_eq_true rfl), (Nat.le_of_ble_eq_true rfl)⟩) (pr_V (r := (RX11, TX11, 63)) hPc hKc hDc 0 11 rfl rfl) rfl rfl hl.1 rfl (lv_room (Nat.le_of_ble_eq_true rfl)) dX11_state_2 ⟨(Nat.le_of_ble_eq_true rfl), (Nat.le_of_ble_eq_true rfl)⟩) hS (fun q _ h => hFc q h) hFc (fun r_2 u t H locs ht hvm w_1 hB hz1 hk1 hS => ?_)
  have hP := pu_keep hP hk1
  clear hk1 hz1 hvm hB hPc hDc hKc hFc ht
  subst w_1
  refine lv_if_eq (tgt := 17) hx hb dX11_state_5 (by decide) (fun _ => ?_) (fun c_3 => absurd c_3 (by decide))
  refine lv_iconst (v := (-1)) hx hb dX11_state_17 (by decide) ?_
  refine lv_istore (lv' := [(4, .int (-1)), (0, .ref g0), (1, .int a1), (2, .int a2), (3, .int a3)]) hx hb dX11_state_18 hl (by decide) rfl (fun ls hl => ?_)
  refine lv_iload hx hb dX11_state_20 (lv_at hl 0 rfl) ?_
  refine lv_if_eq (tgt := 34) hx hb dX11_state_22 (by decide) (fun c_4 => absurd c_4 (by decide)) (fun _ => ?_)
  refine lv_aload_n hx hb dX11_state_25 rfl (lv_at hl 1 rfl) ?_
  refine lv_iload hx hb dX11_state_26 (lv_at hl 0 rfl) ?_
  have hPc := hP.sub (ws' := [(g0, .inr (11, mF pq)), ((pq 0), .inl ((cp 0), 7, .inl (fun _ => 0)))]) [0, 1] rfl
  have hDc := hD.sub (ws' := [(g0, .inr (11, mF pq)), ((pq 0), .inl ((cp 0), 7, .inl (fun _ => 0)))]) [0, 1] (by decide) rfl
  have hKc := hK.sub (tys' := [((cp 0), .int)]) [0] rfl
  have hFc := va_free (wc := [(g0, .inr (11, mF pq)), ((pq 0), .inl ((cp 0), 7, .inl (fun _ => 0)))]) hD hS hA [0, 1] rfl
  refine va_calli (va_runV (As := [.int (-1)]) (rest := []) ⟨hx, hb, hml, hown, hts⟩ (c_X11_refuse l dC dI H.size g0 pq cp (-1) (by unfold vp_in; decide)) (cwV 1 hts gX11_state_X11_refuse rfl rfl rfl (by decide +kernel) ⟨(Nat.le_of_ble_eq_true rfl), (Nat.le_of_ble_eq_true rfl)⟩) (pr_V (r := (RX11, TX11, 63)) hPc hKc hDc 0 11 rfl rfl) rfl rfl hl.1 rfl (lv_room (Nat.le_of_ble_eq_true rfl)) dX11_state_28 ⟨(Nat.le_of_ble_eq_true rfl), (Nat.le_of_ble_eq_true rfl)⟩) hS (fun q _ h => hFc q h) hFc (fun r_6 u t H locs ht hvm w_5 hB hz1 hk1 hS => ?_)
  subst w_5
  refine lv_goto (tgt := 41) hx hb dX11_state_31 (by decide) ?_
  exact W.iret (v := (-1)) hx hb hr (fun t ht hW => ⟨⟨(-1), (), rfl, rfl, trivial⟩, hS.F ht⟩) hS.2.2 dX11_state_41
set_option maxHeartbeats 4000000 in
set_option maxRecDepth 100000 in
theorem c_X11_earns (l : Launch) (dC : Nat → ClassId) (dI : Nat → Nat → Nat) (sz : Nat) (g0 : Nat) (pq : Nat → Nat) (cp : Nat → ClassId) (a1 : Int32) (a2 : Int32) (a3 : Int32) : Met l yX11_earns wsX11_earns ({ frames := 2, cells := 0, slots := 0, locals := 42 }) (va_Pc [.ref g0, .int a1, .int a2, .int a3] (pcW (dC, dI) [((cp 0), .int)] [(g0, .inr (11, mF pq)), ((pq 0), .inl ((cp 0), 7, .inl (fun _ => 0)))] sz)) (va_Qi (fun (r : Int32) (u : Unit) => r = (-1)) (fun _ _ => True) (va_A [(g0, .inr (11, mF pq)), ((pq 0), .inl ((cp 0), 7, .inl (fun _ => 0)))] sz)) 0 0 (va_A [(g0, .inr (11, mF pq)), ((pq 0), .inl ((cp 0), 7, .inl (fun _ => 0)))] sz) := by
  refine Met.ofW (cc := cX11_earns) (maxL := 5) (ret := (some .int)) (by decide) rfl ?_
  intro p e s m args below meth c s₁ B hml hv
  obtain ⟨rfl, hsz, hP, hK, hD0⟩ := hv
  have hx := B.exec
  have hb := B.bytes
  have hr := B.returns
  have hts := atoms_spec (ws := wsX11_earns) B.pre
  have hown : s.vm.findClass RX11 = some m.cls := findClass_of_methodNamed B.named
  have hlocks := B.notSynchronized
  subst hsz
  have hD := hD0.self (sz := s.heap.size)
  generalize hAe : va_A [(g0, .inr (11, mF pq)), ((pq 0), .inl ((cp 0), 7, .inl (fun _ => 0)))] s.heap.size = A at hD ⊢
  have hA : ∀ q : Nat, s.heap.size ≤ q → A q := fun q h => by rw [← hAe]; exact Or.inr h
  have hS : va_S A s.heap s.heap [] := va_S.rf
  have hP : va_P (dC, dI) vwCl [(g0, .inr (11, mF pq)), ((pq 0), .inl ((cp 0), 7, .inl (fun _ => 0)))] s.heap := hP
  have hl := lv_entry ([.ref g0, .int a1, .int a2, .int a3]) (n := 5) (Nat.le_of_ble_eq_true rfl)
  rw [lg_entry_eq]
  generalize (lg_sl ([.ref g0, .int a1, .int a2, .int a3]) ++ List.replicate (5 - (lg_sl ([.ref g0, .int a1, .int a2, .int a3])).length) Slot.unset).toArray = ls at hl ⊢
  have hl : lv_has ls 5 [(0, .ref g0), (1, .int a1), (2, .int a2), (3, .int a3)] := hl
  refine lv_aload_n hx hb dX11_earns_0 rfl (lv_at hl 0 rfl) ?_
  refine lv_iload_n hx hb dX11_earns_1 rfl (lv_at hl 1 rfl) ?_
  have hPc := hP.sub (ws' := [(g0, .inr (11, mF pq))]) [0] rfl
  have hDc := hD.sub (ws' := [(g0, .inr (11, mF pq))]) [0] (by decide) rfl
  have hKc := hK.sub (tys' := []) [] rfl
  have hFc : ∀ q, va_A [] s.heap.size q → A q := pu_free hS hA
  refine va_calli (va_runV (As := [.int a1]) (rest := []) ⟨hx, hb, hml, hown, hts⟩ (c_X11_isAgreement l dC dI s.heap.size g0 pq cp a1) (cwV 1 hts gX11_earns_X11_isAgreement rfl rfl rfl (by decide +kernel) ⟨(Nat.le_of_ble_eq_true rfl), (Nat.le_of_ble_eq_true rfl)⟩) (pr_V (r := (RX11, TX11, 63)) hPc hKc hDc 0 11 rfl rfl) rfl rfl hl.1 rfl (lv_room (Nat.le_of_ble_eq_true rfl)) dX11_earns_2 ⟨(Nat.le_of_ble_eq_true rfl), (Nat.le_of_ble_eq_true rfl)⟩) hS (fun q _ h => hFc q h) hFc (fun r_2 u t H locs ht hvm w_1 hB hz1 hk1 hS => ?_)
  have hP := pu_keep hP hk1
  clear hk1 hz1 hvm hB hPc hDc hKc hFc ht
  subst w_1
  refine lv_if_eq (tgt := 17) hx hb dX11_earns_5 (by decide) (fun _ => ?_) (fun c_3 => absurd c_3 (by decide))
  refine lv_iconst (v := (-1)) hx hb dX11_earns_17 (by decide) ?_
  refine lv_istore (lv' := [(4, .int (-1)), (0, .ref g0), (1, .int a1), (2, .int a2), (3, .int a3)]) hx hb dX11_earns_18 hl (by decide) rfl (fun ls hl => ?_)
  refine lv_iload hx hb dX11_earns_20 (lv_at hl 0 rfl) ?_
  refine lv_if_eq (tgt := 34) hx hb dX11_earns_22 (by decide) (fun c_4 => absurd c_4 (by decide)) (fun _ => ?_)
  refine lv_aload_n hx hb dX11_earns_25 rfl (lv_at hl 1 rfl) ?_
  refine lv_iload hx hb dX11_earns_26 (lv_at hl 0 rfl) ?_
  have hPc := hP.sub (ws' := [(g0, .inr (11, mF pq)), ((pq 0), .inl ((cp 0), 7, .inl (fun _ => 0)))]) [0, 1] rfl
  have hDc := hD.sub (ws' := [(g0, .inr (11, mF pq)), ((pq 0), .inl ((cp 0), 7, .inl (fun _ => 0)))]) [0, 1] (by decide) rfl
  have hKc := hK.sub (tys' := [((cp 0), .int)]) [0] rfl
  have hFc := va_free (wc := [(g0, .inr (11, mF pq)), ((pq 0), .inl ((cp 0), 7, .inl (fun _ => 0)))]) hD hS hA [0, 1] rfl
  refine va_calli (va_runV (As := [.int (-1)]) (rest := []) ⟨hx, hb, hml, hown, hts⟩ (c_X11_refuse l dC dI H.size g0 pq cp (-1) (by unfold vp_in; decide)) (cwV 1 hts gX11_earns_X11_refuse rfl rfl rfl (by decide +kernel) ⟨(Nat.le_of_ble_eq_true rfl), (Nat.le_of_ble_eq_true rfl)⟩) (pr_V (r := (RX11, TX11, 63)) hPc hKc hDc 0 11 rfl rfl) rfl rfl hl.1 rfl (lv_room (Nat.le_of_ble_eq_true rfl)) dX11_earns_28 ⟨(Nat.le_of_ble_eq_true rfl), (Nat.le_of_ble_eq_true rfl)⟩) hS (fun q _ h => hFc q h) hFc (fun r_6 u t H locs ht hvm w_5 hB hz1 hk1 hS => ?_)
  subst w_5
  refine lv_goto (tgt := 41) hx hb dX11_earns_31 (by decide) ?_
  exact W.iret (v := (-1)) hx hb hr (fun t ht hW => ⟨⟨(-1), (), rfl, rfl, trivial⟩, hS.F ht⟩) hS.2.2 dX11_earns_41
set_option maxHeartbeats 4000000 in
set_option maxRecDepth 100000 in
theorem c_X11_advance (l : Launch) (dC : Nat → ClassId) (dI : Nat → Nat → Nat) (sz : Nat) (g0 : Nat) (pq : Nat → Nat) (cp : Nat → ClassId) (a1 : Int32) (a2 : Int32) : Met l yX11_advance wsX11_advance ({ frames := 2, cells := 0, slots := 0, locals := 42 }) (va_Pc [.ref g0, .int a1, .int a2] (pcW (dC, dI) [((cp 0), .int)] [(g0, .inr (11, mF pq)), ((pq 0), .inl ((cp 0), 7, .inl (fun _ => 0)))] sz)) (va_Qi (fun (r : Int32) (u : Unit) => r = (-1)) (fun _ _ => True) (va_A [(g0, .inr (11, mF pq)), ((pq 0), .inl ((cp 0), 7, .inl (fun _ => 0)))] sz)) 0 0 (va_A [(g0, .inr (11, mF pq)), ((pq 0), .inl ((cp 0), 7, .inl (fun _ => 0)))] sz) := by
  refine Met.ofW (cc := cX11_advance) (maxL := 3) (ret := (some .int)) (by decide) rfl ?_
  intro p e s m args below meth c s₁ B hml hv
  obtain ⟨rfl, hsz, hP, hK, hD0⟩ := hv
  have hx := B.exec
  have hb := B.bytes
  have hr := B.returns
  have hts := atoms_spec (ws := wsX11_advance) B.pre
  have hown : s.vm.findClass RX11 = some m.cls := findClass_of_methodNamed B.named
  have hlocks := B.notSynchronized
  subst hsz
  have hD := hD0.self (sz := s.heap.size)
  generalize hAe : va_A [(g0, .inr (11, mF pq)), ((pq 0), .inl ((cp 0), 7, .inl (fun _ => 0)))] s.heap.size = A at hD ⊢
  have hA : ∀ q : Nat, s.heap.size ≤ q → A q := fun q h => by rw [← hAe]; exact Or.inr h
  have hS : va_S A s.heap s.heap [] := va_S.rf
  have hP : va_P (dC, dI) vwCl [(g0, .inr (11, mF pq)), ((pq 0), .inl ((cp 0), 7, .inl (fun _ => 0)))] s.heap := hP
  have hl := lv_entry ([.ref g0, .int a1, .int a2]) (n := 3) (Nat.le_of_ble_eq_true rfl)
  rw [lg_entry_eq]
  generalize (lg_sl ([.ref g0, .int a1, .int a2]) ++ List.replicate (3 - (lg_sl ([.ref g0, .int a1, .int a2])).length) Slot.unset).toArray = ls at hl ⊢
  have hl : lv_has ls 3 [(0, .ref g0), (1, .int a1), (2, .int a2)] := hl
  refine lv_aload_n hx hb dX11_advance_0 rfl (lv_at hl 0 rfl) ?_
  refine lv_iload_n hx hb dX11_advance_1 rfl (lv_at hl 1 rfl) ?_
  have hPc := hP.sub (ws' := [(g0, .inr (11, mF pq))]) [0] rfl
  have hDc := hD.sub (ws' := [(g0, .inr (11, mF pq))]) [0] (by decide) rfl
  have hKc := hK.sub (tys' := []) [] rfl
  have hFc : ∀ q, va_A [] s.heap.size q → A q := pu_free hS hA
  refine va_calli (va_runV (As := [.int a1]) (rest := []) ⟨hx, hb, hml, hown, hts⟩ (c_X11_isAgreement l dC dI s.heap.size g0 pq cp a1) (cwV 1 hts gX11_advance_X11_isAgreement rfl rfl rfl (by decide +kernel) ⟨(Nat.le_of_ble_eq_true rfl), (Nat.le_of_ble_eq_true rfl)⟩) (pr_V (r := (RX11, TX11, 63)) hPc hKc hDc 0 11 rfl rfl) rfl rfl hl.1 rfl (lv_room (Nat.le_of_ble_eq_true rfl)) dX11_advance_2 ⟨(Nat.le_of_ble_eq_true rfl), (Nat.le_of_ble_eq_true rfl)⟩) hS (fun q _ h => hFc q h) hFc (fun r_2 u t H locs ht hvm w_1 hB hz1 hk1 hS => ?_)
  have hP := pu_keep hP hk1
  clear hk1 hz1 hvm hB hPc hDc hKc hFc ht
  subst w_1
  refine lv_if_ne (tgt := 14) hx hb dX11_advance_5 (by decide) (fun c_3 => absurd c_3 (by decide)) (fun _ => ?_)
  refine lv_aload_n hx hb dX11_advance_8 rfl (lv_at hl 0 rfl) ?_
  refine lv_iconst (v := (-1)) hx hb dX11_advance_9 (by decide) ?_
  have hPc := hP.sub (ws' := [(g0, .inr (11, mF pq)), ((pq 0), .inl ((cp 0), 7, .inl (fun _ => 0)))]) [0, 1] rfl
  have hDc := hD.sub (ws' := [(g0, .inr (11, mF pq)), ((pq 0), .inl ((cp 0), 7, .inl (fun _ => 0)))]) [0, 1] (by decide) rfl
  have hKc := hK.sub (tys' := [((cp 0), .int)]) [0] rfl
  have hFc := va_free (wc := [(g0, .inr (11, mF pq)), ((pq 0), .inl ((cp 0), 7, .inl (fun _ => 0)))]) hD hS hA [0, 1] rfl
  refine va_calli (va_runV (As := [.int (-1)]) (rest := []) ⟨hx, hb, hml, hown, hts⟩ (c_X11_refuse l dC dI H.size g0 pq cp (-1) (by unfold vp_in; decide)) (cwV 1 hts gX11_advance_X11_refuse rfl rfl rfl (by decide +kernel) ⟨(Nat.le_of_ble_eq_true rfl), (Nat.le_of_ble_eq_true rfl)⟩) (pr_V (r := (RX11, TX11, 63)) hPc hKc hDc 0 11 rfl rfl) rfl rfl hl.1 rfl (lv_room (Nat.le_of_ble_eq_true rfl)) dX11_advance_10 ⟨(Nat.le_of_ble_eq_true rfl), (Nat.le_of_ble_eq_true rfl)⟩) hS (fun q _ h => hFc q h) hFc (fun r_5 u t H locs ht hvm w_4 hB hz1 hk1 hS => ?_)
  subst w_4
  exact W.iret (v := (-1)) hx hb hr (fun t ht hW => ⟨⟨(-1), (), rfl, rfl, trivial⟩, hS.F ht⟩) hS.2.2 dX11_advance_13
set_option maxHeartbeats 4000000 in
set_option maxRecDepth 100000 in
theorem c_X11_sold (l : Launch) (dC : Nat → ClassId) (dI : Nat → Nat → Nat) (sz : Nat) (g0 : Nat) (pq : Nat → Nat) (cp : Nat → ClassId) (a1 : Int32) (a2 : Int32) : Met l yX11_sold wsX11_sold ({ frames := 2, cells := 0, slots := 0, locals := 42 }) (va_Pc [.ref g0, .int a1, .int a2] (pcW (dC, dI) [((cp 0), .int)] [(g0, .inr (11, mF pq)), ((pq 0), .inl ((cp 0), 7, .inl (fun _ => 0)))] sz)) (va_Qi (fun (r : Int32) (u : Unit) => r = (-1)) (fun _ _ => True) (va_A [(g0, .inr (11, mF pq)), ((pq 0), .inl ((cp 0), 7, .inl (fun _ => 0)))] sz)) 0 0 (va_A [(g0, .inr (11, mF pq)), ((pq 0), .inl ((cp 0), 7, .inl (fun _ => 0)))] sz) := by
  refine Met.ofW (cc := cX11_sold) (maxL := 3) (ret := (some .int)) (by decide) rfl ?_
  intro p e s m args below meth c s₁ B hml hv
  obtain ⟨rfl, hsz, hP, hK, hD0⟩ := hv
  have hx := B.exec
  have hb := B.bytes
  have hr := B.returns
  have hts := atoms_spec (ws := wsX11_sold) B.pre
  have hown : s.vm.findClass RX11 = some m.cls := findClass_of_methodNamed B.named
  have hlocks := B.notSynchronized
  subst hsz
  have hD := hD0.self (sz := s.heap.size)
  generalize hAe : va_A [(g0, .inr (11, mF pq)), ((pq 0), .inl ((cp 0), 7, .inl (fun _ => 0)))] s.heap.size = A at hD ⊢
  have hA : ∀ q : Nat, s.heap.size ≤ q → A q := fun q h => by rw [← hAe]; exact Or.inr h
  have hS : va_S A s.heap s.heap [] := va_S.rf
  have hP : va_P (dC, dI) vwCl [(g0, .inr (11, mF pq)), ((pq 0), .inl ((cp 0), 7, .inl (fun _ => 0)))] s.heap := hP
  have hl := lv_entry ([.ref g0, .int a1, .int a2]) (n := 3) (Nat.le_of_ble_eq_true rfl)
  rw [lg_entry_eq]
  generalize (lg_sl ([.ref g0, .int a1, .int a2]) ++ List.replicate (3 - (lg_sl ([.ref g0, .int a1, .int a2])).length) Slot.unset).toArray = ls at hl ⊢
  have hl : lv_has ls 3 [(0, .ref g0), (1, .int a1), (2, .int a2)] := hl
  refine lv_aload_n hx hb dX11_sold_0 rfl (lv_at hl 0 rfl) ?_
  refine lv_iload_n hx hb dX11_sold_1 rfl (lv_at hl 1 rfl) ?_
  have hPc := hP.sub (ws' := [(g0, .inr (11, mF pq))]) [0] rfl
  have hDc := hD.sub (ws' := [(g0, .inr (11, mF pq))]) [0] (by decide) rfl
  have hKc := hK.sub (tys' := []) [] rfl
  have hFc : ∀ q, va_A [] s.heap.size q → A q := pu_free hS hA
  refine va_calli (va_runV (As := [.int a1]) (rest := []) ⟨hx, hb, hml, hown, hts⟩ (c_X11_isAgreement l dC dI s.heap.size g0 pq cp a1) (cwV 1 hts gX11_sold_X11_isAgreement rfl rfl rfl (by decide +kernel) ⟨(Nat.le_of_ble_eq_true rfl), (Nat.le_of_ble_eq_true rfl)⟩) (pr_V (r := (RX11, TX11, 63)) hPc hKc hDc 0 11 rfl rfl) rfl rfl hl.1 rfl (lv_room (Nat.le_of_ble_eq_true rfl)) dX11_sold_2 ⟨(Nat.le_of_ble_eq_true rfl), (Nat.le_of_ble_eq_true rfl)⟩) hS (fun q _ h => hFc q h) hFc (fun r_2 u t H locs ht hvm w_1 hB hz1 hk1 hS => ?_)
  have hP := pu_keep hP hk1
  clear hk1 hz1 hvm hB hPc hDc hKc hFc ht
  subst w_1
  refine lv_if_ne (tgt := 14) hx hb dX11_sold_5 (by decide) (fun c_3 => absurd c_3 (by decide)) (fun _ => ?_)
  refine lv_aload_n hx hb dX11_sold_8 rfl (lv_at hl 0 rfl) ?_
  refine lv_iconst (v := (-1)) hx hb dX11_sold_9 (by decide) ?_
  have hPc := hP.sub (ws' := [(g0, .inr (11, mF pq)), ((pq 0), .inl ((cp 0), 7, .inl (fun _ => 0)))]) [0, 1] rfl
  have hDc := hD.sub (ws' := [(g0, .inr (11, mF pq)), ((pq 0), .inl ((cp 0), 7, .inl (fun _ => 0)))]) [0, 1] (by decide) rfl
  have hKc := hK.sub (tys' := [((cp 0), .int)]) [0] rfl
  have hFc := va_free (wc := [(g0, .inr (11, mF pq)), ((pq 0), .inl ((cp 0), 7, .inl (fun _ => 0)))]) hD hS hA [0, 1] rfl
  refine va_calli (va_runV (As := [.int (-1)]) (rest := []) ⟨hx, hb, hml, hown, hts⟩ (c_X11_refuse l dC dI H.size g0 pq cp (-1) (by unfold vp_in; decide)) (cwV 1 hts gX11_sold_X11_refuse rfl rfl rfl (by decide +kernel) ⟨(Nat.le_of_ble_eq_true rfl), (Nat.le_of_ble_eq_true rfl)⟩) (pr_V (r := (RX11, TX11, 63)) hPc hKc hDc 0 11 rfl rfl) rfl rfl hl.1 rfl (lv_room (Nat.le_of_ble_eq_true rfl)) dX11_sold_10 ⟨(Nat.le_of_ble_eq_true rfl), (Nat.le_of_ble_eq_true rfl)⟩) hS (fun q _ h => hFc q h) hFc (fun r_5 u t H locs ht hvm w_4 hB hz1 hk1 hS => ?_)
  subst w_4
  exact W.iret (v := (-1)) hx hb hr (fun t ht hW => ⟨⟨(-1), (), rfl, rfl, trivial⟩, hS.F ht⟩) hS.2.2 dX11_sold_13
set_option maxHeartbeats 4000000 in
set_option maxRecDepth 100000 in
theorem c_X11_allot (l : Launch) (dC : Nat → ClassId) (dI : Nat → Nat → Nat) (sz : Nat) (g0 : Nat) (pq : Nat → Nat) (cp : Nat → ClassId) (a1 : Int32) (a2 : Int32) : Met l yX11_allot wsX11_allot ({ frames := 2, cells := 0, slots := 0, locals := 42 }) (va_Pc [.ref g0, .int a1, .int a2] (pcW (dC, dI) [((cp 0), .int)] [(g0, .inr (11, mF pq)), ((pq 0), .inl ((cp 0), 7, .inl (fun _ => 0)))] sz)) (va_Qi (fun (r : Int32) (u : Unit) => r = (-1)) (fun _ _ => True) (va_A [(g0, .inr (11, mF pq)), ((pq 0), .inl ((cp 0), 7, .inl (fun _ => 0)))] sz)) 0 0 (va_A [(g0, .inr (11, mF pq)), ((pq 0), .inl ((cp 0), 7, .inl (fun _ => 0)))] sz) := by
  refine Met.ofW (cc := cX11_allot) (maxL := 3) (ret := (some .int)) (by decide) rfl ?_
  intro p e s m args below meth c s₁ B hml hv
  obtain ⟨rfl, hsz, hP, hK, hD0⟩ := hv
  have hx := B.exec
  have hb := B.bytes
  have hr := B.returns
  have hts := atoms_spec (ws := wsX11_allot) B.pre
  have hown : s.vm.findClass RX11 = some m.cls := findClass_of_methodNamed B.named
  have hlocks := B.notSynchronized
  subst hsz
  have hD := hD0.self (sz := s.heap.size)
  generalize hAe : va_A [(g0, .inr (11, mF pq)), ((pq 0), .inl ((cp 0), 7, .inl (fun _ => 0)))] s.heap.size = A at hD ⊢
  have hA : ∀ q : Nat, s.heap.size ≤ q → A q := fun q h => by rw [← hAe]; exact Or.inr h
  have hS : va_S A s.heap s.heap [] := va_S.rf
  have hP : va_P (dC, dI) vwCl [(g0, .inr (11, mF pq)), ((pq 0), .inl ((cp 0), 7, .inl (fun _ => 0)))] s.heap := hP
  have hl := lv_entry ([.ref g0, .int a1, .int a2]) (n := 3) (Nat.le_of_ble_eq_true rfl)
  rw [lg_entry_eq]
  generalize (lg_sl ([.ref g0, .int a1, .int a2]) ++ List.replicate (3 - (lg_sl ([.ref g0, .int a1, .int a2])).length) Slot.unset).toArray = ls at hl ⊢
  have hl : lv_has ls 3 [(0, .ref g0), (1, .int a1), (2, .int a2)] := hl
  refine lv_aload_n hx hb dX11_allot_0 rfl (lv_at hl 0 rfl) ?_
  refine lv_iload_n hx hb dX11_allot_1 rfl (lv_at hl 1 rfl) ?_
  have hPc := hP.sub (ws' := [(g0, .inr (11, mF pq))]) [0] rfl
  have hDc := hD.sub (ws' := [(g0, .inr (11, mF pq))]) [0] (by decide) rfl
  have hKc := hK.sub (tys' := []) [] rfl
  have hFc : ∀ q, va_A [] s.heap.size q → A q := pu_free hS hA
  refine va_calli (va_runV (As := [.int a1]) (rest := []) ⟨hx, hb, hml, hown, hts⟩ (c_X11_isAgreement l dC dI s.heap.size g0 pq cp a1) (cwV 1 hts gX11_allot_X11_isAgreement rfl rfl rfl (by decide +kernel) ⟨(Nat.le_of_ble_eq_true rfl), (Nat.le_of_ble_eq_true rfl)⟩) (pr_V (r := (RX11, TX11, 63)) hPc hKc hDc 0 11 rfl rfl) rfl rfl hl.1 rfl (lv_room (Nat.le_of_ble_eq_true rfl)) dX11_allot_2 ⟨(Nat.le_of_ble_eq_true rfl), (Nat.le_of_ble_eq_true rfl)⟩) hS (fun q _ h => hFc q h) hFc (fun r_2 u t H locs ht hvm w_1 hB hz1 hk1 hS => ?_)
  have hP := pu_keep hP hk1
  clear hk1 hz1 hvm hB hPc hDc hKc hFc ht
  subst w_1
  refine lv_if_ne (tgt := 14) hx hb dX11_allot_5 (by decide) (fun c_3 => absurd c_3 (by decide)) (fun _ => ?_)
  refine lv_aload_n hx hb dX11_allot_8 rfl (lv_at hl 0 rfl) ?_
  refine lv_iconst (v := (-1)) hx hb dX11_allot_9 (by decide) ?_
  have hPc := hP.sub (ws' := [(g0, .inr (11, mF pq)), ((pq 0), .inl ((cp 0), 7, .inl (fun _ => 0)))]) [0, 1] rfl
  have hDc := hD.sub (ws' := [(g0, .inr (11, mF pq)), ((pq 0), .inl ((cp 0), 7, .inl (fun _ => 0)))]) [0, 1] (by decide) rfl
  have hKc := hK.sub (tys' := [((cp 0), .int)]) [0] rfl
  have hFc := va_free (wc := [(g0, .inr (11, mF pq)), ((pq 0), .inl ((cp 0), 7, .inl (fun _ => 0)))]) hD hS hA [0, 1] rfl
  refine va_calli (va_runV (As := [.int (-1)]) (rest := []) ⟨hx, hb, hml, hown, hts⟩ (c_X11_refuse l dC dI H.size g0 pq cp (-1) (by unfold vp_in; decide)) (cwV 1 hts gX11_allot_X11_refuse rfl rfl rfl (by decide +kernel) ⟨(Nat.le_of_ble_eq_true rfl), (Nat.le_of_ble_eq_true rfl)⟩) (pr_V (r := (RX11, TX11, 63)) hPc hKc hDc 0 11 rfl rfl) rfl rfl hl.1 rfl (lv_room (Nat.le_of_ble_eq_true rfl)) dX11_allot_10 ⟨(Nat.le_of_ble_eq_true rfl), (Nat.le_of_ble_eq_true rfl)⟩) hS (fun q _ h => hFc q h) hFc (fun r_5 u t H locs ht hvm w_4 hB hz1 hk1 hS => ?_)
  subst w_4
  exact W.iret (v := (-1)) hx hb hr (fun t ht hW => ⟨⟨(-1), (), rfl, rfl, trivial⟩, hS.F ht⟩) hS.2.2 dX11_allot_13
set_option maxHeartbeats 4000000 in
set_option maxRecDepth 100000 in
theorem c_X11_fine (l : Launch) (dC : Nat → ClassId) (dI : Nat → Nat → Nat) (sz : Nat) (g0 : Nat) (pq : Nat → Nat) (cp : Nat → ClassId) (a1 : Int32) (a2 : Int32) (a3 : Int32) (a4 : Int32) : Met l yX11_fine wsX11_fine ({ frames := 2, cells := 0, slots := 0, locals := 42 }) (va_Pc [.ref g0, .int a1, .int a2, .int a3, .int a4] (pcW (dC, dI) [((cp 0), .int)] [(g0, .inr (11, mF pq)), ((pq 0), .inl ((cp 0), 7, .inl (fun _ => 0)))] sz)) (va_Qi (fun (r : Int32) (u : Unit) => r = (-1)) (fun _ _ => True) (va_A [(g0, .inr (11, mF pq)), ((pq 0), .inl ((cp 0), 7, .inl (fun _ => 0)))] sz)) 0 0 (va_A [(g0, .inr (11, mF pq)), ((pq 0), .inl ((cp 0), 7, .inl (fun _ => 0)))] sz) := by
  refine Met.ofW (cc := cX11_fine) (maxL := 6) (ret := (some .int)) (by decide) rfl ?_
  intro p e s m args below meth c s₁ B hml hv
  obtain ⟨rfl, hsz, hP, hK, hD0⟩ := hv
  have hx := B.exec
  have hb := B.bytes
  have hr := B.returns
  have hts := atoms_spec (ws := wsX11_fine) B.pre
  have hown : s.vm.findClass RX11 = some m.cls := findClass_of_methodNamed B.named
  have hlocks := B.notSynchronized
  subst hsz
  have hD := hD0.self (sz := s.heap.size)
  generalize hAe : va_A [(g0, .inr (11, mF pq)), ((pq 0), .inl ((cp 0), 7, .inl (fun _ => 0)))] s.heap.size = A at hD ⊢
  have hA : ∀ q : Nat, s.heap.size ≤ q → A q := fun q h => by rw [← hAe]; exact Or.inr h
  have hS : va_S A s.heap s.heap [] := va_S.rf
  have hP : va_P (dC, dI) vwCl [(g0, .inr (11, mF pq)), ((pq 0), .inl ((cp 0), 7, .inl (fun _ => 0)))] s.heap := hP
  have hl := lv_entry ([.ref g0, .int a1, .int a2, .int a3, .int a4]) (n := 6) (Nat.le_of_ble_eq_true rfl)
  rw [lg_entry_eq]
  generalize (lg_sl ([.ref g0, .int a1, .int a2, .int a3, .int a4]) ++ List.replicate (6 - (lg_sl ([.ref g0, .int a1, .int a2, .int a3, .int a4])).length) Slot.unset).toArray = ls at hl ⊢
  have hl : lv_has ls 6 [(0, .ref g0), (1, .int a1), (2, .int a2), (3, .int a3), (4, .int a4)] := hl
  refine lv_aload_n hx hb dX11_fine_0 rfl (lv_at hl 0 rfl) ?_
  refine lv_iload_n hx hb dX11_fine_1 rfl (lv_at hl 1 rfl) ?_
  have hPc := hP.sub (ws' := [(g0, .inr (11, mF pq))]) [0] rfl
  have hDc := hD.sub (ws' := [(g0, .inr (11, mF pq))]) [0] (by decide) rfl
  have hKc := hK.sub (tys' := []) [] rfl
  have hFc : ∀ q, va_A [] s.heap.size q → A q := pu_free hS hA
  refine va_calli (va_runV (As := [.int a1]) (rest := []) ⟨hx, hb, hml, hown, hts⟩ (c_X11_isAgreement l dC dI s.heap.size g0 pq cp a1) (cwV 1 hts gX11_fine_X11_isAgreement rfl rfl rfl (by decide +kernel) ⟨(Nat.le_of_ble_eq_true rfl), (Nat.le_of_ble_eq_true rfl)⟩) (pr_V (r := (RX11, TX11, 63)) hPc hKc hDc 0 11 rfl rfl) rfl rfl hl.1 rfl (lv_room (Nat.le_of_ble_eq_true rfl)) dX11_fine_2 ⟨(Nat.le_of_ble_eq_true rfl), (Nat.le_of_ble_eq_true rfl)⟩) hS (fun q _ h => hFc q h) hFc (fun r_2 u t H locs ht hvm w_1 hB hz1 hk1 hS => ?_)
  have hP := pu_keep hP hk1
  clear hk1 hz1 hvm hB hPc hDc hKc hFc ht
  subst w_1
  refine lv_if_ne (tgt := 14) hx hb dX11_fine_5 (by decide) (fun c_3 => absurd c_3 (by decide)) (fun _ => ?_)
  refine lv_aload_n hx hb dX11_fine_8 rfl (lv_at hl 0 rfl) ?_
  refine lv_iconst (v := (-1)) hx hb dX11_fine_9 (by decide) ?_
  have hPc := hP.sub (ws' := [(g0, .inr (11, mF pq)), ((pq 0), .inl ((cp 0), 7, .inl (fun _ => 0)))]) [0, 1] rfl
  have hDc := hD.sub (ws' := [(g0, .inr (11, mF pq)), ((pq 0), .inl ((cp 0), 7, .inl (fun _ => 0)))]) [0, 1] (by decide) rfl
  have hKc := hK.sub (tys' := [((cp 0), .int)]) [0] rfl
  have hFc := va_free (wc := [(g0, .inr (11, mF pq)), ((pq 0), .inl ((cp 0), 7, .inl (fun _ => 0)))]) hD hS hA [0, 1] rfl
  refine va_calli (va_runV (As := [.int (-1)]) (rest := []) ⟨hx, hb, hml, hown, hts⟩ (c_X11_refuse l dC dI H.size g0 pq cp (-1) (by unfold vp_in; decide)) (cwV 1 hts gX11_fine_X11_refuse rfl rfl rfl (by decide +kernel) ⟨(Nat.le_of_ble_eq_true rfl), (Nat.le_of_ble_eq_true rfl)⟩) (pr_V (r := (RX11, TX11, 63)) hPc hKc hDc 0 11 rfl rfl) rfl rfl hl.1 rfl (lv_room (Nat.le_of_ble_eq_true rfl)) dX11_fine_10 ⟨(Nat.le_of_ble_eq_true rfl), (Nat.le_of_ble_eq_true rfl)⟩) hS (fun q _ h => hFc q h) hFc (fun r_5 u t H locs ht hvm w_4 hB hz1 hk1 hS => ?_)
  subst w_4
  exact W.iret (v := (-1)) hx hb hr (fun t ht hW => ⟨⟨(-1), (), rfl, rfl, trivial⟩, hS.F ht⟩) hS.2.2 dX11_fine_13
set_option maxHeartbeats 4000000 in
set_option maxRecDepth 100000 in
theorem c_X11_read (l : Launch) (dC : Nat → ClassId) (dI : Nat → Nat → Nat) (sz : Nat) (g0 : Nat) (pq : Nat → Nat) (cp : Nat → ClassId) (a1 : Int32) (a2 : Int32) : Met l yX11_read wsX11_read ({ frames := 3, cells := 0, slots := 0, locals := 64 }) (va_Pc [.ref g0, .int a1, .int a2] (pcW (dC, dI) [((cp 0), .int)] [(g0, .inr (11, mF pq)), ((pq 0), .inl ((cp 0), 7, .inl (fun _ => 0)))] sz)) (va_Qi (fun (r : Int32) (u : Unit) => r = (-1)) (fun _ _ => True) (va_A [(g0, .inr (11, mF pq)), ((pq 0), .inl ((cp 0), 7, .inl (fun _ => 0)))] sz)) 0 0 (va_A [(g0, .inr (11, mF pq)), ((pq 0), .inl ((cp 0), 7, .inl (fun _ => 0)))] sz) := by
  refine Met.ofW (cc := cX11_read) (maxL := 3) (ret := (some .int)) (by decide) rfl ?_
  intro p e s m args below meth c s₁ B hml hv
  obtain ⟨rfl, hsz, hP, hK, hD0⟩ := hv
  have hx := B.exec
  have hb := B.bytes
  have hr := B.returns
  have hts := atoms_spec (ws := wsX11_read) B.pre
  have hown : s.vm.findClass RX11 = some m.cls := findClass_of_methodNamed B.named
  have hlocks := B.notSynchronized
  subst hsz
  have hD := hD0.self (sz := s.heap.size)
  generalize hAe : va_A [(g0, .inr (11, mF pq)), ((pq 0), .inl ((cp 0), 7, .inl (fun _ => 0)))] s.heap.size = A at hD ⊢
  have hA : ∀ q : Nat, s.heap.size ≤ q → A q := fun q h => by rw [← hAe]; exact Or.inr h
  have hS : va_S A s.heap s.heap [] := va_S.rf
  have hP : va_P (dC, dI) vwCl [(g0, .inr (11, mF pq)), ((pq 0), .inl ((cp 0), 7, .inl (fun _ => 0)))] s.heap := hP
  have hl := lv_entry ([.ref g0, .int a1, .int a2]) (n := 3) (Nat.le_of_ble_eq_true rfl)
  rw [lg_entry_eq]
  generalize (lg_sl ([.ref g0, .int a1, .int a2]) ++ List.replicate (3 - (lg_sl ([.ref g0, .int a1, .int a2])).length) Slot.unset).toArray = ls at hl ⊢
  have hl : lv_has ls 3 [(0, .ref g0), (1, .int a1), (2, .int a2)] := hl
  refine lv_aload_n hx hb dX11_read_0 rfl (lv_at hl 0 rfl) ?_
  refine lv_iload_n hx hb dX11_read_1 rfl (lv_at hl 1 rfl) ?_
  refine lv_iload_n hx hb dX11_read_2 rfl (lv_at hl 2 rfl) ?_
  have hPc := hP.sub (ws' := [(g0, .inr (11, mF pq))]) [0] rfl
  have hDc := hD.sub (ws' := [(g0, .inr (11, mF pq))]) [0] (by decide) rfl
  have hKc := hK.sub (tys' := []) [] rfl
  have hFc : ∀ q, va_A [] s.heap.size q → A q := pu_free hS hA
  refine va_calli (va_runV (As := [.int a1, .int a2]) (rest := []) ⟨hx, hb, hml, hown, hts⟩ (c_X11_isFine l dC dI s.heap.size g0 pq cp a1 a2) (cwV 2 hts gX11_read_X11_isFine rfl rfl rfl (by decide +kernel) ⟨(Nat.le_of_ble_eq_true rfl), (Nat.le_of_ble_eq_true rfl)⟩) (pr_V (r := (RX11, TX11, 63)) hPc hKc hDc 0 11 rfl rfl) rfl rfl hl.1 rfl (lv_room (Nat.le_of_ble_eq_true rfl)) dX11_read_3 ⟨(Nat.le_of_ble_eq_true rfl), (Nat.le_of_ble_eq_true rfl)⟩) hS (fun q _ h => hFc q h) hFc (fun r_2 u t H locs ht hvm w_1 hB hz1 hk1 hS => ?_)
  have hP := pu_keep hP hk1
  clear hk1 hz1 hvm hB hPc hDc hKc hFc ht
  subst w_1
  refine lv_if_ne (tgt := 15) hx hb dX11_read_6 (by decide) (fun c_3 => absurd c_3 (by decide)) (fun _ => ?_)
  refine lv_aload_n hx hb dX11_read_9 rfl (lv_at hl 0 rfl) ?_
  refine lv_iconst (v := (-1)) hx hb dX11_read_10 (by decide) ?_
  have hPc := hP.sub (ws' := [(g0, .inr (11, mF pq)), ((pq 0), .inl ((cp 0), 7, .inl (fun _ => 0)))]) [0, 1] rfl
  have hDc := hD.sub (ws' := [(g0, .inr (11, mF pq)), ((pq 0), .inl ((cp 0), 7, .inl (fun _ => 0)))]) [0, 1] (by decide) rfl
  have hKc := hK.sub (tys' := [((cp 0), .int)]) [0] rfl
  have hFc := va_free (wc := [(g0, .inr (11, mF pq)), ((pq 0), .inl ((cp 0), 7, .inl (fun _ => 0)))]) hD hS hA [0, 1] rfl
  refine va_calli (va_runV (As := [.int (-1)]) (rest := []) ⟨hx, hb, hml, hown, hts⟩ (c_X11_refuse l dC dI H.size g0 pq cp (-1) (by unfold vp_in; decide)) (cwV 1 hts gX11_read_X11_refuse rfl rfl rfl (by decide +kernel) ⟨(Nat.le_of_ble_eq_true rfl), (Nat.le_of_ble_eq_true rfl)⟩) (pr_V (r := (RX11, TX11, 63)) hPc hKc hDc 0 11 rfl rfl) rfl rfl hl.1 rfl (lv_room (Nat.le_of_ble_eq_true rfl)) dX11_read_11 ⟨(Nat.le_of_ble_eq_true rfl), (Nat.le_of_ble_eq_true rfl)⟩) hS (fun q _ h => hFc q h) hFc (fun r_5 u t H locs ht hvm w_4 hB hz1 hk1 hS => ?_)
  subst w_4
  exact W.iret (v := (-1)) hx hb hr (fun t ht hW => ⟨⟨(-1), (), rfl, rfl, trivial⟩, hS.F ht⟩) hS.2.2 dX11_read_14
set_option maxHeartbeats 4000000 in
set_option maxRecDepth 100000 in
theorem c_X11_stands (l : Launch) (dC : Nat → ClassId) (dI : Nat → Nat → Nat) (sz : Nat) (g0 : Nat) (pq : Nat → Nat) (cp : Nat → ClassId) (a1 : Int32) (a2 : Int32) (a3 : Int32) : Met l yX11_stands wsX11_stands ({ frames := 3, cells := 0, slots := 0, locals := 64 }) (va_Pc [.ref g0, .int a1, .int a2, .int a3] (pcW (dC, dI) [((cp 0), .int)] [(g0, .inr (11, mF pq)), ((pq 0), .inl ((cp 0), 7, .inl (fun _ => 0)))] sz)) (va_Qi (fun (r : Int32) (u : Unit) => r = (-1)) (fun _ _ => True) (va_A [(g0, .inr (11, mF pq)), ((pq 0), .inl ((cp 0), 7, .inl (fun _ => 0)))] sz)) 0 0 (va_A [(g0, .inr (11, mF pq)), ((pq 0), .inl ((cp 0), 7, .inl (fun _ => 0)))] sz) := by
  refine Met.ofW (cc := cX11_stands) (maxL := 4) (ret := (some .int)) (by decide) rfl ?_
  intro p e s m args below meth c s₁ B hml hv
  obtain ⟨rfl, hsz, hP, hK, hD0⟩ := hv
  have hx := B.exec
  have hb := B.bytes
  have hr := B.returns
  have hts := atoms_spec (ws := wsX11_stands) B.pre
  have hown : s.vm.findClass RX11 = some m.cls := findClass_of_methodNamed B.named
  have hlocks := B.notSynchronized
  subst hsz
  have hD := hD0.self (sz := s.heap.size)
  generalize hAe : va_A [(g0, .inr (11, mF pq)), ((pq 0), .inl ((cp 0), 7, .inl (fun _ => 0)))] s.heap.size = A at hD ⊢
  have hA : ∀ q : Nat, s.heap.size ≤ q → A q := fun q h => by rw [← hAe]; exact Or.inr h
  have hS : va_S A s.heap s.heap [] := va_S.rf
  have hP : va_P (dC, dI) vwCl [(g0, .inr (11, mF pq)), ((pq 0), .inl ((cp 0), 7, .inl (fun _ => 0)))] s.heap := hP
  have hl := lv_entry ([.ref g0, .int a1, .int a2, .int a3]) (n := 4) (Nat.le_of_ble_eq_true rfl)
  rw [lg_entry_eq]
  generalize (lg_sl ([.ref g0, .int a1, .int a2, .int a3]) ++ List.replicate (4 - (lg_sl ([.ref g0, .int a1, .int a2, .int a3])).length) Slot.unset).toArray = ls at hl ⊢
  have hl : lv_has ls 4 [(0, .ref g0), (1, .int a1), (2, .int a2), (3, .int a3)] := hl
  refine lv_aload_n hx hb dX11_stands_0 rfl (lv_at hl 0 rfl) ?_
  refine lv_iload_n hx hb dX11_stands_1 rfl (lv_at hl 1 rfl) ?_
  refine lv_iload_n hx hb dX11_stands_2 rfl (lv_at hl 2 rfl) ?_
  have hPc := hP.sub (ws' := [(g0, .inr (11, mF pq))]) [0] rfl
  have hDc := hD.sub (ws' := [(g0, .inr (11, mF pq))]) [0] (by decide) rfl
  have hKc := hK.sub (tys' := []) [] rfl
  have hFc : ∀ q, va_A [] s.heap.size q → A q := pu_free hS hA
  refine va_calli (va_runV (As := [.int a1, .int a2]) (rest := []) ⟨hx, hb, hml, hown, hts⟩ (c_X11_isFine l dC dI s.heap.size g0 pq cp a1 a2) (cwV 2 hts gX11_stands_X11_isFine rfl rfl rfl (by decide +kernel) ⟨(Nat.le_of_ble_eq_true rfl), (Nat.le_of_ble_eq_true rfl)⟩) (pr_V (r := (RX11, TX11, 63)) hPc hKc hDc 0 11 rfl rfl) rfl rfl hl.1 rfl (lv_room (Nat.le_of_ble_eq_true rfl)) dX11_stands_3 ⟨(Nat.le_of_ble_eq_true rfl), (Nat.le_of_ble_eq_true rfl)⟩) hS (fun q _ h => hFc q h) hFc (fun r_2 u t H locs ht hvm w_1 hB hz1 hk1 hS => ?_)
  have hP := pu_keep hP hk1
  clear hk1 hz1 hvm hB hPc hDc hKc hFc ht
  subst w_1
  refine lv_if_ne (tgt := 15) hx hb dX11_stands_6 (by decide) (fun c_3 => absurd c_3 (by decide)) (fun _ => ?_)
  refine lv_aload_n hx hb dX11_stands_9 rfl (lv_at hl 0 rfl) ?_
  refine lv_iconst (v := (-1)) hx hb dX11_stands_10 (by decide) ?_
  have hPc := hP.sub (ws' := [(g0, .inr (11, mF pq)), ((pq 0), .inl ((cp 0), 7, .inl (fun _ => 0)))]) [0, 1] rfl
  have hDc := hD.sub (ws' := [(g0, .inr (11, mF pq)), ((pq 0), .inl ((cp 0), 7, .inl (fun _ => 0)))]) [0, 1] (by decide) rfl
  have hKc := hK.sub (tys' := [((cp 0), .int)]) [0] rfl
  have hFc := va_free (wc := [(g0, .inr (11, mF pq)), ((pq 0), .inl ((cp 0), 7, .inl (fun _ => 0)))]) hD hS hA [0, 1] rfl
  refine va_calli (va_runV (As := [.int (-1)]) (rest := []) ⟨hx, hb, hml, hown, hts⟩ (c_X11_refuse l dC dI H.size g0 pq cp (-1) (by unfold vp_in; decide)) (cwV 1 hts gX11_stands_X11_refuse rfl rfl rfl (by decide +kernel) ⟨(Nat.le_of_ble_eq_true rfl), (Nat.le_of_ble_eq_true rfl)⟩) (pr_V (r := (RX11, TX11, 63)) hPc hKc hDc 0 11 rfl rfl) rfl rfl hl.1 rfl (lv_room (Nat.le_of_ble_eq_true rfl)) dX11_stands_11 ⟨(Nat.le_of_ble_eq_true rfl), (Nat.le_of_ble_eq_true rfl)⟩) hS (fun q _ h => hFc q h) hFc (fun r_5 u t H locs ht hvm w_4 hB hz1 hk1 hS => ?_)
  subst w_4
  exact W.iret (v := (-1)) hx hb hr (fun t ht hW => ⟨⟨(-1), (), rfl, rfl, trivial⟩, hS.F ht⟩) hS.2.2 dX11_stands_14
set_option maxHeartbeats 4000000 in
set_option maxRecDepth 100000 in
theorem c_X11_rations (l : Launch) (dC : Nat → ClassId) (dI : Nat → Nat → Nat) (sz : Nat) (g0 : Nat) (pq : Nat → Nat) (cp : Nat → ClassId) (a1 : Int32) (a2 : Int32) (a3 : Int32) : Met l yX11_rations wsX11_rations ({ frames := 2, cells := 0, slots := 0, locals := 42 }) (va_Pc [.ref g0, .int a1, .int a2, .int a3] (pcW (dC, dI) [((cp 0), .int)] [(g0, .inr (11, mF pq)), ((pq 0), .inl ((cp 0), 7, .inl (fun _ => 0)))] sz)) (va_Qi (fun (r : Int32) (u : Unit) => r = (-1)) (fun _ _ => True) (va_A [(g0, .inr (11, mF pq)), ((pq 0), .inl ((cp 0), 7, .inl (fun _ => 0)))] sz)) 0 0 (va_A [(g0, .inr (11, mF pq)), ((pq 0), .inl ((cp 0), 7, .inl (fun _ => 0)))] sz) := by
  refine Met.ofW (cc := cX11_rations) (maxL := 5) (ret := (some .int)) (by decide) rfl ?_
  intro p e s m args below meth c s₁ B hml hv
  obtain ⟨rfl, hsz, hP, hK, hD0⟩ := hv
  have hx := B.exec
  have hb := B.bytes
  have hr := B.returns
  have hts := atoms_spec (ws := wsX11_rations) B.pre
  have hown : s.vm.findClass RX11 = some m.cls := findClass_of_methodNamed B.named
  have hlocks := B.notSynchronized
  subst hsz
  have hD := hD0.self (sz := s.heap.size)
  generalize hAe : va_A [(g0, .inr (11, mF pq)), ((pq 0), .inl ((cp 0), 7, .inl (fun _ => 0)))] s.heap.size = A at hD ⊢
  have hA : ∀ q : Nat, s.heap.size ≤ q → A q := fun q h => by rw [← hAe]; exact Or.inr h
  have hS : va_S A s.heap s.heap [] := va_S.rf
  have hP : va_P (dC, dI) vwCl [(g0, .inr (11, mF pq)), ((pq 0), .inl ((cp 0), 7, .inl (fun _ => 0)))] s.heap := hP
  have hl := lv_entry ([.ref g0, .int a1, .int a2, .int a3]) (n := 5) (Nat.le_of_ble_eq_true rfl)
  rw [lg_entry_eq]
  generalize (lg_sl ([.ref g0, .int a1, .int a2, .int a3]) ++ List.replicate (5 - (lg_sl ([.ref g0, .int a1, .int a2, .int a3])).length) Slot.unset).toArray = ls at hl ⊢
  have hl : lv_has ls 5 [(0, .ref g0), (1, .int a1), (2, .int a2), (3, .int a3)] := hl
  refine lv_aload_n hx hb dX11_rations_0 rfl (lv_at hl 0 rfl) ?_
  refine lv_iload_n hx hb dX11_rations_1 rfl (lv_at hl 1 rfl) ?_
  have hPc := hP.sub (ws' := [(g0, .inr (11, mF pq))]) [0] rfl
  have hDc := hD.sub (ws' := [(g0, .inr (11, mF pq))]) [0] (by decide) rfl
  have hKc := hK.sub (tys' := []) [] rfl
  have hFc : ∀ q, va_A [] s.heap.size q → A q := pu_free hS hA
  refine va_calli (va_runV (As := [.int a1]) (rest := []) ⟨hx, hb, hml, hown, hts⟩ (c_X11_isAgreement l dC dI s.heap.size g0 pq cp a1) (cwV 1 hts gX11_rations_X11_isAgreement rfl rfl rfl (by decide +kernel) ⟨(Nat.le_of_ble_eq_true rfl), (Nat.le_of_ble_eq_true rfl)⟩) (pr_V (r := (RX11, TX11, 63)) hPc hKc hDc 0 11 rfl rfl) rfl rfl hl.1 rfl (lv_room (Nat.le_of_ble_eq_true rfl)) dX11_rations_2 ⟨(Nat.le_of_ble_eq_true rfl), (Nat.le_of_ble_eq_true rfl)⟩) hS (fun q _ h => hFc q h) hFc (fun r_2 u t H locs ht hvm w_1 hB hz1 hk1 hS => ?_)
  have hP := pu_keep hP hk1
  clear hk1 hz1 hvm hB hPc hDc hKc hFc ht
  subst w_1
  refine lv_if_ne (tgt := 14) hx hb dX11_rations_5 (by decide) (fun c_3 => absurd c_3 (by decide)) (fun _ => ?_)
  refine lv_aload_n hx hb dX11_rations_8 rfl (lv_at hl 0 rfl) ?_
  refine lv_iconst (v := (-1)) hx hb dX11_rations_9 (by decide) ?_
  have hPc := hP.sub (ws' := [(g0, .inr (11, mF pq)), ((pq 0), .inl ((cp 0), 7, .inl (fun _ => 0)))]) [0, 1] rfl
  have hDc := hD.sub (ws' := [(g0, .inr (11, mF pq)), ((pq 0), .inl ((cp 0), 7, .inl (fun _ => 0)))]) [0, 1] (by decide) rfl
  have hKc := hK.sub (tys' := [((cp 0), .int)]) [0] rfl
  have hFc := va_free (wc := [(g0, .inr (11, mF pq)), ((pq 0), .inl ((cp 0), 7, .inl (fun _ => 0)))]) hD hS hA [0, 1] rfl
  refine va_calli (va_runV (As := [.int (-1)]) (rest := []) ⟨hx, hb, hml, hown, hts⟩ (c_X11_refuse l dC dI H.size g0 pq cp (-1) (by unfold vp_in; decide)) (cwV 1 hts gX11_rations_X11_refuse rfl rfl rfl (by decide +kernel) ⟨(Nat.le_of_ble_eq_true rfl), (Nat.le_of_ble_eq_true rfl)⟩) (pr_V (r := (RX11, TX11, 63)) hPc hKc hDc 0 11 rfl rfl) rfl rfl hl.1 rfl (lv_room (Nat.le_of_ble_eq_true rfl)) dX11_rations_10 ⟨(Nat.le_of_ble_eq_true rfl), (Nat.le_of_ble_eq_true rfl)⟩) hS (fun q _ h => hFc q h) hFc (fun r_5 u t H locs ht hvm w_4 hB hz1 hk1 hS => ?_)
  subst w_4
  exact W.iret (v := (-1)) hx hb hr (fun t ht hW => ⟨⟨(-1), (), rfl, rfl, trivial⟩, hS.F ht⟩) hS.2.2 dX11_rations_13
set_option maxHeartbeats 4000000 in
set_option maxRecDepth 100000 in
theorem c_X11_agreementOf (l : Launch) (dC : Nat → ClassId) (dI : Nat → Nat → Nat) (sz : Nat) (g0 : Nat) (pq : Nat → Nat) (cp : Nat → ClassId) (a1 : Int32) (a2 : Int32) : Met l yX11_agreementOf wsX11_agreementOf ({ frames := 2, cells := 0, slots := 0, locals := 42 }) (va_Pc [.ref g0, .int a1, .int a2] (pcW (dC, dI) [((cp 0), .int)] [(g0, .inr (11, mF pq)), ((pq 0), .inl ((cp 0), 7, .inl (fun _ => 0)))] sz)) (va_Qi (fun (r : Int32) (u : Unit) => r = (-1)) (fun _ _ => True) (va_A [(g0, .inr (11, mF pq)), ((pq 0), .inl ((cp 0), 7, .inl (fun _ => 0)))] sz)) 0 0 (va_A [(g0, .inr (11, mF pq)), ((pq 0), .inl ((cp 0), 7, .inl (fun _ => 0)))] sz) := by
  refine Met.ofW (cc := cX11_agreementOf) (maxL := 3) (ret := (some .int)) (by decide) rfl ?_
  intro p e s m args below meth c s₁ B hml hv
  obtain ⟨rfl, hsz, hP, hK, hD0⟩ := hv
  have hx := B.exec
  have hb := B.bytes
  have hr := B.returns
  have hts := atoms_spec (ws := wsX11_agreementOf) B.pre
  have hown : s.vm.findClass RX11 = some m.cls := findClass_of_methodNamed B.named
  have hlocks := B.notSynchronized
  subst hsz
  have hD := hD0.self (sz := s.heap.size)
  generalize hAe : va_A [(g0, .inr (11, mF pq)), ((pq 0), .inl ((cp 0), 7, .inl (fun _ => 0)))] s.heap.size = A at hD ⊢
  have hA : ∀ q : Nat, s.heap.size ≤ q → A q := fun q h => by rw [← hAe]; exact Or.inr h
  have hS : va_S A s.heap s.heap [] := va_S.rf
  have hP : va_P (dC, dI) vwCl [(g0, .inr (11, mF pq)), ((pq 0), .inl ((cp 0), 7, .inl (fun _ => 0)))] s.heap := hP
  have hl := lv_entry ([.ref g0, .int a1, .int a2]) (n := 3) (Nat.le_of_ble_eq_true rfl)
  rw [lg_entry_eq]
  generalize (lg_sl ([.ref g0, .int a1, .int a2]) ++ List.replicate (3 - (lg_sl ([.ref g0, .int a1, .int a2])).length) Slot.unset).toArray = ls at hl ⊢
  have hl : lv_has ls 3 [(0, .ref g0), (1, .int a1), (2, .int a2)] := hl
  refine lv_aload_n hx hb dX11_agreementOf_0 rfl (lv_at hl 0 rfl) ?_
  refine lv_iload_n hx hb dX11_agreementOf_1 rfl (lv_at hl 1 rfl) ?_
  have hPc := hP.sub (ws' := [(g0, .inr (11, mF pq))]) [0] rfl
  have hDc := hD.sub (ws' := [(g0, .inr (11, mF pq))]) [0] (by decide) rfl
  have hKc := hK.sub (tys' := []) [] rfl
  have hFc : ∀ q, va_A [] s.heap.size q → A q := pu_free hS hA
  refine va_calli (va_runV (As := [.int a1]) (rest := []) ⟨hx, hb, hml, hown, hts⟩ (c_X11_isAgreement l dC dI s.heap.size g0 pq cp a1) (cwV 1 hts gX11_agreementOf_X11_isAgreement rfl rfl rfl (by decide +kernel) ⟨(Nat.le_of_ble_eq_true rfl), (Nat.le_of_ble_eq_true rfl)⟩) (pr_V (r := (RX11, TX11, 63)) hPc hKc hDc 0 11 rfl rfl) rfl rfl hl.1 rfl (lv_room (Nat.le_of_ble_eq_true rfl)) dX11_agreementOf_2 ⟨(Nat.le_of_ble_eq_true rfl), (Nat.le_of_ble_eq_true rfl)⟩) hS (fun q _ h => hFc q h) hFc (fun r_2 u t H locs ht hvm w_1 hB hz1 hk1 hS => ?_)
  have hP := pu_keep hP hk1
  clear hk1 hz1 hvm hB hPc hDc hKc hFc ht
  subst w_1
  refine lv_if_ne (tgt := 14) hx hb dX11_agreementOf_5 (by decide) (fun c_3 => absurd c_3 (by decide)) (fun _ => ?_)
  refine lv_aload_n hx hb dX11_agreementOf_8 rfl (lv_at hl 0 rfl) ?_
  refine lv_iconst (v := (-1)) hx hb dX11_agreementOf_9 (by decide) ?_
  have hPc := hP.sub (ws' := [(g0, .inr (11, mF pq)), ((pq 0), .inl ((cp 0), 7, .inl (fun _ => 0)))]) [0, 1] rfl
  have hDc := hD.sub (ws' := [(g0, .inr (11, mF pq)), ((pq 0), .inl ((cp 0), 7, .inl (fun _ => 0)))]) [0, 1] (by decide) rfl
  have hKc := hK.sub (tys' := [((cp 0), .int)]) [0] rfl
  have hFc := va_free (wc := [(g0, .inr (11, mF pq)), ((pq 0), .inl ((cp 0), 7, .inl (fun _ => 0)))]) hD hS hA [0, 1] rfl
  refine va_calli (va_runV (As := [.int (-1)]) (rest := []) ⟨hx, hb, hml, hown, hts⟩ (c_X11_refuse l dC dI H.size g0 pq cp (-1) (by unfold vp_in; decide)) (cwV 1 hts gX11_agreementOf_X11_refuse rfl rfl rfl (by decide +kernel) ⟨(Nat.le_of_ble_eq_true rfl), (Nat.le_of_ble_eq_true rfl)⟩) (pr_V (r := (RX11, TX11, 63)) hPc hKc hDc 0 11 rfl rfl) rfl rfl hl.1 rfl (lv_room (Nat.le_of_ble_eq_true rfl)) dX11_agreementOf_10 ⟨(Nat.le_of_ble_eq_true rfl), (Nat.le_of_ble_eq_true rfl)⟩) hS (fun q _ h => hFc q h) hFc (fun r_5 u t H locs ht hvm w_4 hB hz1 hk1 hS => ?_)
  subst w_4
  exact W.iret (v := (-1)) hx hb hr (fun t ht hW => ⟨⟨(-1), (), rfl, rfl, trivial⟩, hS.F ht⟩) hS.2.2 dX11_agreementOf_13
set_option maxHeartbeats 4000000 in
set_option maxRecDepth 100000 in
theorem c_X11_aboard (l : Launch) (dC : Nat → ClassId) (dI : Nat → Nat → Nat) (sz : Nat) (g0 : Nat) (pq : Nat → Nat) (cp : Nat → ClassId) (a1 : Int32) (a2 : Int32) (a3 : Int32) : Met l yX11_aboard wsX11_aboard ({ frames := 2, cells := 0, slots := 0, locals := 42 }) (va_Pc [.ref g0, .int a1, .int a2, .int a3] (pcW (dC, dI) [((cp 0), .int)] [(g0, .inr (11, mF pq)), ((pq 0), .inl ((cp 0), 7, .inl (fun _ => 0)))] sz)) (va_Qi (fun (r : Int32) (u : Unit) => r = (-1)) (fun _ _ => True) (va_A [(g0, .inr (11, mF pq)), ((pq 0), .inl ((cp 0), 7, .inl (fun _ => 0)))] sz)) 0 0 (va_A [(g0, .inr (11, mF pq)), ((pq 0), .inl ((cp 0), 7, .inl (fun _ => 0)))] sz) := by
  refine Met.ofW (cc := cX11_aboard) (maxL := 5) (ret := (some .int)) (by decide) rfl ?_
  intro p e s m args below meth c s₁ B hml hv
  obtain ⟨rfl, hsz, hP, hK, hD0⟩ := hv
  have hx := B.exec
  have hb := B.bytes
  have hr := B.returns
  have hts := atoms_spec (ws := wsX11_aboard) B.pre
  have hown : s.vm.findClass RX11 = some m.cls := findClass_of_methodNamed B.named
  have hlocks := B.notSynchronized
  subst hsz
  have hD := hD0.self (sz := s.heap.size)
  generalize hAe : va_A [(g0, .inr (11, mF pq)), ((pq 0), .inl ((cp 0), 7, .inl (fun _ => 0)))] s.heap.size = A at hD ⊢
  have hA : ∀ q : Nat, s.heap.size ≤ q → A q := fun q h => by rw [← hAe]; exact Or.inr h
  have hS : va_S A s.heap s.heap [] := va_S.rf
  have hP : va_P (dC, dI) vwCl [(g0, .inr (11, mF pq)), ((pq 0), .inl ((cp 0), 7, .inl (fun _ => 0)))] s.heap := hP
  have hl := lv_entry ([.ref g0, .int a1, .int a2, .int a3]) (n := 5) (Nat.le_of_ble_eq_true rfl)
  rw [lg_entry_eq]
  generalize (lg_sl ([.ref g0, .int a1, .int a2, .int a3]) ++ List.replicate (5 - (lg_sl ([.ref g0, .int a1, .int a2, .int a3])).length) Slot.unset).toArray = ls at hl ⊢
  have hl : lv_has ls 5 [(0, .ref g0), (1, .int a1), (2, .int a2), (3, .int a3)] := hl
  refine lv_aload_n hx hb dX11_aboard_0 rfl (lv_at hl 0 rfl) ?_
  refine lv_iload_n hx hb dX11_aboard_1 rfl (lv_at hl 1 rfl) ?_
  have hPc := hP.sub (ws' := [(g0, .inr (11, mF pq))]) [0] rfl
  have hDc := hD.sub (ws' := [(g0, .inr (11, mF pq))]) [0] (by decide) rfl
  have hKc := hK.sub (tys' := []) [] rfl
  have hFc : ∀ q, va_A [] s.heap.size q → A q := pu_free hS hA
  refine va_calli (va_runV (As := [.int a1]) (rest := []) ⟨hx, hb, hml, hown, hts⟩ (c_X11_isVoyage l dC dI s.heap.size g0 pq cp a1) (cwV 1 hts gX11_aboard_X11_isVoyage rfl rfl rfl (by decide +kernel) ⟨(Nat.le_of_ble_eq_true rfl), (Nat.le_of_ble_eq_true rfl)⟩) (pr_V (r := (RX11, TX11, 63)) hPc hKc hDc 0 11 rfl rfl) rfl rfl hl.1 rfl (lv_room (Nat.le_of_ble_eq_true rfl)) dX11_aboard_2 ⟨(Nat.le_of_ble_eq_true rfl), (Nat.le_of_ble_eq_true rfl)⟩) hS (fun q _ h => hFc q h) hFc (fun r_2 u t H locs ht hvm w_1 hB hz1 hk1 hS => ?_)
  have hP := pu_keep hP hk1
  clear hk1 hz1 hvm hB hPc hDc hKc hFc ht
  subst w_1
  refine lv_if_eq (tgt := 17) hx hb dX11_aboard_5 (by decide) (fun _ => ?_) (fun c_3 => absurd c_3 (by decide))
  refine lv_iconst (v := (-1)) hx hb dX11_aboard_17 (by decide) ?_
  refine lv_istore (lv' := [(4, .int (-1)), (0, .ref g0), (1, .int a1), (2, .int a2), (3, .int a3)]) hx hb dX11_aboard_18 hl (by decide) rfl (fun ls hl => ?_)
  refine lv_iload hx hb dX11_aboard_20 (lv_at hl 0 rfl) ?_
  refine lv_if_eq (tgt := 34) hx hb dX11_aboard_22 (by decide) (fun c_4 => absurd c_4 (by decide)) (fun _ => ?_)
  refine lv_aload_n hx hb dX11_aboard_25 rfl (lv_at hl 1 rfl) ?_
  refine lv_iload hx hb dX11_aboard_26 (lv_at hl 0 rfl) ?_
  have hPc := hP.sub (ws' := [(g0, .inr (11, mF pq)), ((pq 0), .inl ((cp 0), 7, .inl (fun _ => 0)))]) [0, 1] rfl
  have hDc := hD.sub (ws' := [(g0, .inr (11, mF pq)), ((pq 0), .inl ((cp 0), 7, .inl (fun _ => 0)))]) [0, 1] (by decide) rfl
  have hKc := hK.sub (tys' := [((cp 0), .int)]) [0] rfl
  have hFc := va_free (wc := [(g0, .inr (11, mF pq)), ((pq 0), .inl ((cp 0), 7, .inl (fun _ => 0)))]) hD hS hA [0, 1] rfl
  refine va_calli (va_runV (As := [.int (-1)]) (rest := []) ⟨hx, hb, hml, hown, hts⟩ (c_X11_refuse l dC dI H.size g0 pq cp (-1) (by unfold vp_in; decide)) (cwV 1 hts gX11_aboard_X11_refuse rfl rfl rfl (by decide +kernel) ⟨(Nat.le_of_ble_eq_true rfl), (Nat.le_of_ble_eq_true rfl)⟩) (pr_V (r := (RX11, TX11, 63)) hPc hKc hDc 0 11 rfl rfl) rfl rfl hl.1 rfl (lv_room (Nat.le_of_ble_eq_true rfl)) dX11_aboard_28 ⟨(Nat.le_of_ble_eq_true rfl), (Nat.le_of_ble_eq_true rfl)⟩) hS (fun q _ h => hFc q h) hFc (fun r_6 u t H locs ht hvm w_5 hB hz1 hk1 hS => ?_)
  subst w_5
  refine lv_goto (tgt := 41) hx hb dX11_aboard_31 (by decide) ?_
  exact W.iret (v := (-1)) hx hb hr (fun t ht hW => ⟨⟨(-1), (), rfl, rfl, trivial⟩, hS.F ht⟩) hS.2.2 dX11_aboard_41
set_option maxHeartbeats 4000000 in
set_option maxRecDepth 100000 in
theorem c_X11_group (l : Launch) (dC : Nat → ClassId) (dI : Nat → Nat → Nat) (sz : Nat) (g0 : Nat) (pq : Nat → Nat) (cp : Nat → ClassId) (a1 : Int32) : Met l yX11_group wsX11_group ({ frames := 2, cells := 0, slots := 0, locals := 42 }) (va_Pc [.ref g0, .int a1] (pcW (dC, dI) [((cp 0), .int)] [(g0, .inr (11, mF pq)), ((pq 0), .inl ((cp 0), 7, .inl (fun _ => 0)))] sz)) (va_Qi (fun (r : Int32) (u : Unit) => r = (-1)) (fun _ _ => True) (va_A [(g0, .inr (11, mF pq)), ((pq 0), .inl ((cp 0), 7, .inl (fun _ => 0)))] sz)) 0 0 (va_A [(g0, .inr (11, mF pq)), ((pq 0), .inl ((cp 0), 7, .inl (fun _ => 0)))] sz) := by
  refine Met.ofW (cc := cX11_group) (maxL := 2) (ret := (some .int)) (by decide) rfl ?_
  intro p e s m args below meth c s₁ B hml hv
  obtain ⟨rfl, hsz, hP, hK, hD0⟩ := hv
  have hx := B.exec
  have hb := B.bytes
  have hr := B.returns
  have hts := atoms_spec (ws := wsX11_group) B.pre
  have hown : s.vm.findClass RX11 = some m.cls := findClass_of_methodNamed B.named
  have hlocks := B.notSynchronized
  subst hsz
  have hD := hD0.self (sz := s.heap.size)
  generalize hAe : va_A [(g0, .inr (11, mF pq)), ((pq 0), .inl ((cp 0), 7, .inl (fun _ => 0)))] s.heap.size = A at hD ⊢
  have hA : ∀ q : Nat, s.heap.size ≤ q → A q := fun q h => by rw [← hAe]; exact Or.inr h
  have hS : va_S A s.heap s.heap [] := va_S.rf
  have hP : va_P (dC, dI) vwCl [(g0, .inr (11, mF pq)), ((pq 0), .inl ((cp 0), 7, .inl (fun _ => 0)))] s.heap := hP
  have hl := lv_entry ([.ref g0, .int a1]) (n := 2) (Nat.le_of_ble_eq_true rfl)
  rw [lg_entry_eq]
  generalize (lg_sl ([.ref g0, .int a1]) ++ List.replicate (2 - (lg_sl ([.ref g0, .int a1])).length) Slot.unset).toArray = ls at hl ⊢
  have hl : lv_has ls 2 [(0, .ref g0), (1, .int a1)] := hl
  refine lv_aload_n hx hb dX11_group_0 rfl (lv_at hl 0 rfl) ?_
  refine lv_iload_n hx hb dX11_group_1 rfl (lv_at hl 1 rfl) ?_
  have hPc := hP.sub (ws' := [(g0, .inr (11, mF pq))]) [0] rfl
  have hDc := hD.sub (ws' := [(g0, .inr (11, mF pq))]) [0] (by decide) rfl
  have hKc := hK.sub (tys' := []) [] rfl
  have hFc : ∀ q, va_A [] s.heap.size q → A q := pu_free hS hA
  refine va_calli (va_runV (As := [.int a1]) (rest := []) ⟨hx, hb, hml, hown, hts⟩ (c_X11_isMan l dC dI s.heap.size g0 pq cp a1) (cwV 1 hts gX11_group_X11_isMan rfl rfl rfl (by decide +kernel) ⟨(Nat.le_of_ble_eq_true rfl), (Nat.le_of_ble_eq_true rfl)⟩) (pr_V (r := (RX11, TX11, 63)) hPc hKc hDc 0 11 rfl rfl) rfl rfl hl.1 rfl (lv_room (Nat.le_of_ble_eq_true rfl)) dX11_group_2 ⟨(Nat.le_of_ble_eq_true rfl), (Nat.le_of_ble_eq_true rfl)⟩) hS (fun q _ h => hFc q h) hFc (fun r_2 u t H locs ht hvm w_1 hB hz1 hk1 hS => ?_)
  have hP := pu_keep hP hk1
  clear hk1 hz1 hvm hB hPc hDc hKc hFc ht
  subst w_1
  refine lv_if_ne (tgt := 14) hx hb dX11_group_5 (by decide) (fun c_3 => absurd c_3 (by decide)) (fun _ => ?_)
  refine lv_aload_n hx hb dX11_group_8 rfl (lv_at hl 0 rfl) ?_
  refine lv_iconst (v := (-1)) hx hb dX11_group_9 (by decide) ?_
  have hPc := hP.sub (ws' := [(g0, .inr (11, mF pq)), ((pq 0), .inl ((cp 0), 7, .inl (fun _ => 0)))]) [0, 1] rfl
  have hDc := hD.sub (ws' := [(g0, .inr (11, mF pq)), ((pq 0), .inl ((cp 0), 7, .inl (fun _ => 0)))]) [0, 1] (by decide) rfl
  have hKc := hK.sub (tys' := [((cp 0), .int)]) [0] rfl
  have hFc := va_free (wc := [(g0, .inr (11, mF pq)), ((pq 0), .inl ((cp 0), 7, .inl (fun _ => 0)))]) hD hS hA [0, 1] rfl
  refine va_calli (va_runV (As := [.int (-1)]) (rest := []) ⟨hx, hb, hml, hown, hts⟩ (c_X11_refuse l dC dI H.size g0 pq cp (-1) (by unfold vp_in; decide)) (cwV 1 hts gX11_group_X11_refuse rfl rfl rfl (by decide +kernel) ⟨(Nat.le_of_ble_eq_true rfl), (Nat.le_of_ble_eq_true rfl)⟩) (pr_V (r := (RX11, TX11, 63)) hPc hKc hDc 0 11 rfl rfl) rfl rfl hl.1 rfl (lv_room (Nat.le_of_ble_eq_true rfl)) dX11_group_10 ⟨(Nat.le_of_ble_eq_true rfl), (Nat.le_of_ble_eq_true rfl)⟩) hS (fun q _ h => hFc q h) hFc (fun r_5 u t H locs ht hvm w_4 hB hz1 hk1 hS => ?_)
  subst w_4
  exact W.iret (v := (-1)) hx hb hr (fun t ht hW => ⟨⟨(-1), (), rfl, rfl, trivial⟩, hS.F ht⟩) hS.2.2 dX11_group_13
set_option maxHeartbeats 4000000 in
set_option maxRecDepth 100000 in
theorem c_X11_borrowed (l : Launch) (dC : Nat → ClassId) (dI : Nat → Nat → Nat) (sz : Nat) (g0 : Nat) (pq : Nat → Nat) (cp : Nat → ClassId) (a1 : Int32) : Met l yX11_borrowed wsX11_borrowed ({ frames := 2, cells := 0, slots := 0, locals := 42 }) (va_Pc [.ref g0, .int a1] (pcW (dC, dI) [((cp 0), .int)] [(g0, .inr (11, mF pq)), ((pq 0), .inl ((cp 0), 7, .inl (fun _ => 0)))] sz)) (va_Qi (fun (r : Int32) (u : Unit) => r = (-1)) (fun _ _ => True) (va_A [(g0, .inr (11, mF pq)), ((pq 0), .inl ((cp 0), 7, .inl (fun _ => 0)))] sz)) 0 0 (va_A [(g0, .inr (11, mF pq)), ((pq 0), .inl ((cp 0), 7, .inl (fun _ => 0)))] sz) := by
  refine Met.ofW (cc := cX11_borrowed) (maxL := 3) (ret := (some .int)) (by decide) rfl ?_
  intro p e s m args below meth c s₁ B hml hv
  obtain ⟨rfl, hsz, hP, hK, hD0⟩ := hv
  have hx := B.exec
  have hb := B.bytes
  have hr := B.returns
  have hts := atoms_spec (ws := wsX11_borrowed) B.pre
  have hown : s.vm.findClass RX11 = some m.cls := findClass_of_methodNamed B.named
  have hlocks := B.notSynchronized
  subst hsz
  have hD := hD0.self (sz := s.heap.size)
  generalize hAe : va_A [(g0, .inr (11, mF pq)), ((pq 0), .inl ((cp 0), 7, .inl (fun _ => 0)))] s.heap.size = A at hD ⊢
  have hA : ∀ q : Nat, s.heap.size ≤ q → A q := fun q h => by rw [← hAe]; exact Or.inr h
  have hS : va_S A s.heap s.heap [] := va_S.rf
  have hP : va_P (dC, dI) vwCl [(g0, .inr (11, mF pq)), ((pq 0), .inl ((cp 0), 7, .inl (fun _ => 0)))] s.heap := hP
  have hl := lv_entry ([.ref g0, .int a1]) (n := 3) (Nat.le_of_ble_eq_true rfl)
  rw [lg_entry_eq]
  generalize (lg_sl ([.ref g0, .int a1]) ++ List.replicate (3 - (lg_sl ([.ref g0, .int a1])).length) Slot.unset).toArray = ls at hl ⊢
  have hl : lv_has ls 3 [(0, .ref g0), (1, .int a1)] := hl
  refine lv_aload_n hx hb dX11_borrowed_0 rfl (lv_at hl 0 rfl) ?_
  refine lv_iload_n hx hb dX11_borrowed_1 rfl (lv_at hl 1 rfl) ?_
  have hPc := hP.sub (ws' := [(g0, .inr (11, mF pq))]) [0] rfl
  have hDc := hD.sub (ws' := [(g0, .inr (11, mF pq))]) [0] (by decide) rfl
  have hKc := hK.sub (tys' := []) [] rfl
  have hFc : ∀ q, va_A [] s.heap.size q → A q := pu_free hS hA
  refine va_calli (va_runV (As := [.int a1]) (rest := []) ⟨hx, hb, hml, hown, hts⟩ (c_X11_isAgreement l dC dI s.heap.size g0 pq cp a1) (cwV 1 hts gX11_borrowed_X11_isAgreement rfl rfl rfl (by decide +kernel) ⟨(Nat.le_of_ble_eq_true rfl), (Nat.le_of_ble_eq_true rfl)⟩) (pr_V (r := (RX11, TX11, 63)) hPc hKc hDc 0 11 rfl rfl) rfl rfl hl.1 rfl (lv_room (Nat.le_of_ble_eq_true rfl)) dX11_borrowed_2 ⟨(Nat.le_of_ble_eq_true rfl), (Nat.le_of_ble_eq_true rfl)⟩) hS (fun q _ h => hFc q h) hFc (fun r_2 u t H locs ht hvm w_1 hB hz1 hk1 hS => ?_)
  have hP := pu_keep hP hk1
  clear hk1 hz1 hvm hB hPc hDc hKc hFc ht
  subst w_1
  refine lv_if_ne (tgt := 14) hx hb dX11_borrowed_5 (by decide) (fun c_3 => absurd c_3 (by decide)) (fun _ => ?_)
  refine lv_aload_n hx hb dX11_borrowed_8 rfl (lv_at hl 0 rfl) ?_
  refine lv_iconst (v := (-1)) hx hb dX11_borrowed_9 (by decide) ?_
  have hPc := hP.sub (ws' := [(g0, .inr (11, mF pq)), ((pq 0), .inl ((cp 0), 7, .inl (fun _ => 0)))]) [0, 1] rfl
  have hDc := hD.sub (ws' := [(g0, .inr (11, mF pq)), ((pq 0), .inl ((cp 0), 7, .inl (fun _ => 0)))]) [0, 1] (by decide) rfl
  have hKc := hK.sub (tys' := [((cp 0), .int)]) [0] rfl
  have hFc := va_free (wc := [(g0, .inr (11, mF pq)), ((pq 0), .inl ((cp 0), 7, .inl (fun _ => 0)))]) hD hS hA [0, 1] rfl
  refine va_calli (va_runV (As := [.int (-1)]) (rest := []) ⟨hx, hb, hml, hown, hts⟩ (c_X11_refuse l dC dI H.size g0 pq cp (-1) (by unfold vp_in; decide)) (cwV 1 hts gX11_borrowed_X11_refuse rfl rfl rfl (by decide +kernel) ⟨(Nat.le_of_ble_eq_true rfl), (Nat.le_of_ble_eq_true rfl)⟩) (pr_V (r := (RX11, TX11, 63)) hPc hKc hDc 0 11 rfl rfl) rfl rfl hl.1 rfl (lv_room (Nat.le_of_ble_eq_true rfl)) dX11_borrowed_10 ⟨(Nat.le_of_ble_eq_true rfl), (Nat.le_of_ble_eq_true rfl)⟩) hS (fun q _ h => hFc q h) hFc (fun r_5 u t H locs ht hvm w_4 hB hz1 hk1 hS => ?_)
  subst w_4
  exact W.iret (v := (-1)) hx hb hr (fun t ht hW => ⟨⟨(-1), (), rfl, rfl, trivial⟩, hS.F ht⟩) hS.2.2 dX11_borrowed_13
set_option maxHeartbeats 4000000 in
set_option maxRecDepth 100000 in
theorem c_X11_home (l : Launch) (dC : Nat → ClassId) (dI : Nat → Nat → Nat) (sz : Nat) (g0 : Nat) (pq : Nat → Nat) (cp : Nat → ClassId) (a1 : Int32) : Met l yX11_home wsX11_home ({ frames := 2, cells := 0, slots := 0, locals := 42 }) (va_Pc [.ref g0, .int a1] (pcW (dC, dI) [((cp 0), .int)] [(g0, .inr (11, mF pq)), ((pq 0), .inl ((cp 0), 7, .inl (fun _ => 0)))] sz)) (va_Qi (fun (r : Int32) (u : Unit) => r = (-1)) (fun _ _ => True) (va_A [(g0, .inr (11, mF pq)), ((pq 0), .inl ((cp 0), 7, .inl (fun _ => 0)))] sz)) 0 0 (va_A [(g0, .inr (11, mF pq)), ((pq 0), .inl ((cp 0), 7, .inl (fun _ => 0)))] sz) := by
  refine Met.ofW (cc := cX11_home) (maxL := 4) (ret := (some .int)) (by decide) rfl ?_
  intro p e s m args below meth c s₁ B hml hv
  obtain ⟨rfl, hsz, hP, hK, hD0⟩ := hv
  have hx := B.exec
  have hb := B.bytes
  have hr := B.returns
  have hts := atoms_spec (ws := wsX11_home) B.pre
  have hown : s.vm.findClass RX11 = some m.cls := findClass_of_methodNamed B.named
  have hlocks := B.notSynchronized
  subst hsz
  have hD := hD0.self (sz := s.heap.size)
  generalize hAe : va_A [(g0, .inr (11, mF pq)), ((pq 0), .inl ((cp 0), 7, .inl (fun _ => 0)))] s.heap.size = A at hD ⊢
  have hA : ∀ q : Nat, s.heap.size ≤ q → A q := fun q h => by rw [← hAe]; exact Or.inr h
  have hS : va_S A s.heap s.heap [] := va_S.rf
  have hP : va_P (dC, dI) vwCl [(g0, .inr (11, mF pq)), ((pq 0), .inl ((cp 0), 7, .inl (fun _ => 0)))] s.heap := hP
  have hl := lv_entry ([.ref g0, .int a1]) (n := 4) (Nat.le_of_ble_eq_true rfl)
  rw [lg_entry_eq]
  generalize (lg_sl ([.ref g0, .int a1]) ++ List.replicate (4 - (lg_sl ([.ref g0, .int a1])).length) Slot.unset).toArray = ls at hl ⊢
  have hl : lv_has ls 4 [(0, .ref g0), (1, .int a1)] := hl
  refine lv_aload_n hx hb dX11_home_0 rfl (lv_at hl 0 rfl) ?_
  refine lv_iload_n hx hb dX11_home_1 rfl (lv_at hl 1 rfl) ?_
  have hPc := hP.sub (ws' := [(g0, .inr (11, mF pq))]) [0] rfl
  have hDc := hD.sub (ws' := [(g0, .inr (11, mF pq))]) [0] (by decide) rfl
  have hKc := hK.sub (tys' := []) [] rfl
  have hFc : ∀ q, va_A [] s.heap.size q → A q := pu_free hS hA
  refine va_calli (va_runV (As := [.int a1]) (rest := []) ⟨hx, hb, hml, hown, hts⟩ (c_X11_isMan l dC dI s.heap.size g0 pq cp a1) (cwV 1 hts gX11_home_X11_isMan rfl rfl rfl (by decide +kernel) ⟨(Nat.le_of_ble_eq_true rfl), (Nat.le_of_ble_eq_true rfl)⟩) (pr_V (r := (RX11, TX11, 63)) hPc hKc hDc 0 11 rfl rfl) rfl rfl hl.1 rfl (lv_room (Nat.le_of_ble_eq_true rfl)) dX11_home_2 ⟨(Nat.le_of_ble_eq_true rfl), (Nat.le_of_ble_eq_true rfl)⟩) hS (fun q _ h => hFc q h) hFc (fun r_2 u t H locs ht hvm w_1 hB hz1 hk1 hS => ?_)
  have hP := pu_keep hP hk1
  clear hk1 hz1 hvm hB hPc hDc hKc hFc ht
  subst w_1
  refine lv_if_ne (tgt := 14) hx hb dX11_home_5 (by decide) (fun c_3 => absurd c_3 (by decide)) (fun _ => ?_)
  refine lv_aload_n hx hb dX11_home_8 rfl (lv_at hl 0 rfl) ?_
  refine lv_iconst (v := (-1)) hx hb dX11_home_9 (by decide) ?_
  have hPc := hP.sub (ws' := [(g0, .inr (11, mF pq)), ((pq 0), .inl ((cp 0), 7, .inl (fun _ => 0)))]) [0, 1] rfl
  have hDc := hD.sub (ws' := [(g0, .inr (11, mF pq)), ((pq 0), .inl ((cp 0), 7, .inl (fun _ => 0)))]) [0, 1] (by decide) rfl
  have hKc := hK.sub (tys' := [((cp 0), .int)]) [0] rfl
  have hFc := va_free (wc := [(g0, .inr (11, mF pq)), ((pq 0), .inl ((cp 0), 7, .inl (fun _ => 0)))]) hD hS hA [0, 1] rfl
  refine va_calli (va_runV (As := [.int (-1)]) (rest := []) ⟨hx, hb, hml, hown, hts⟩ (c_X11_refuse l dC dI H.size g0 pq cp (-1) (by unfold vp_in; decide)) (cwV 1 hts gX11_home_X11_refuse rfl rfl rfl (by decide +kernel) ⟨(Nat.le_of_ble_eq_true rfl), (Nat.le_of_ble_eq_true rfl)⟩) (pr_V (r := (RX11, TX11, 63)) hPc hKc hDc 0 11 rfl rfl) rfl rfl hl.1 rfl (lv_room (Nat.le_of_ble_eq_true rfl)) dX11_home_10 ⟨(Nat.le_of_ble_eq_true rfl), (Nat.le_of_ble_eq_true rfl)⟩) hS (fun q _ h => hFc q h) hFc (fun r_5 u t H locs ht hvm w_4 hB hz1 hk1 hS => ?_)
  subst w_4
  exact W.iret (v := (-1)) hx hb hr (fun t ht hW => ⟨⟨(-1), (), rfl, rfl, trivial⟩, hS.F ht⟩) hS.2.2 dX11_home_13
set_option maxHeartbeats 4000000 in
set_option maxRecDepth 100000 in
theorem c_X11_ask (l : Launch) (dC : Nat → ClassId) (dI : Nat → Nat → Nat) (sz : Nat) (g0 : Nat) (pq : Nat → Nat) (cp : Nat → ClassId) (a1 : Int32) (a2 : Int32) (a3 : Int32) : Met l yX11_ask wsX11_ask ({ frames := 2, cells := 0, slots := 0, locals := 42 }) (va_Pc [.ref g0, .int a1, .int a2, .int a3] (pcW (dC, dI) [((cp 0), .int)] [(g0, .inr (11, mF pq)), ((pq 0), .inl ((cp 0), 7, .inl (fun _ => 0)))] sz)) (va_Qi (fun (r : Int32) (u : Unit) => r = (-1)) (fun _ _ => True) (va_A [(g0, .inr (11, mF pq)), ((pq 0), .inl ((cp 0), 7, .inl (fun _ => 0)))] sz)) 0 0 (va_A [(g0, .inr (11, mF pq)), ((pq 0), .inl ((cp 0), 7, .inl (fun _ => 0)))] sz) := by
  refine Met.ofW (cc := cX11_ask) (maxL := 5) (ret := (some .int)) (by decide) rfl ?_
  intro p e s m args below meth c s₁ B hml hv
  obtain ⟨rfl, hsz, hP, hK, hD0⟩ := hv
  have hx := B.exec
  have hb := B.bytes
  have hr := B.returns
  have hts := atoms_spec (ws := wsX11_ask) B.pre
  have hown : s.vm.findClass RX11 = some m.cls := findClass_of_methodNamed B.named
  have hlocks := B.notSynchronized
  subst hsz
  have hD := hD0.self (sz := s.heap.size)
  generalize hAe : va_A [(g0, .inr (11, mF pq)), ((pq 0), .inl ((cp 0), 7, .inl (fun _ => 0)))] s.heap.size = A at hD ⊢
  have hA : ∀ q : Nat, s.heap.size ≤ q → A q := fun q h => by rw [← hAe]; exact Or.inr h
  have hS : va_S A s.heap s.heap [] := va_S.rf
  have hP : va_P (dC, dI) vwCl [(g0, .inr (11, mF pq)), ((pq 0), .inl ((cp 0), 7, .inl (fun _ => 0)))] s.heap := hP
  have hl := lv_entry ([.ref g0, .int a1, .int a2, .int a3]) (n := 5) (Nat.le_of_ble_eq_true rfl)
  rw [lg_entry_eq]
  generalize (lg_sl ([.ref g0, .int a1, .int a2, .int a3]) ++ List.replicate (5 - (lg_sl ([.ref g0, .int a1, .int a2, .int a3])).length) Slot.unset).toArray = ls at hl ⊢
  have hl : lv_has ls 5 [(0, .ref g0), (1, .int a1), (2, .int a2), (3, .int a3)] := hl
  refine lv_aload_n hx hb dX11_ask_0 rfl (lv_at hl 0 rfl) ?_
  refine lv_iload_n hx hb dX11_ask_1 rfl (lv_at hl 1 rfl) ?_
  have hPc := hP.sub (ws' := [(g0, .inr (11, mF pq))]) [0] rfl
  have hDc := hD.sub (ws' := [(g0, .inr (11, mF pq))]) [0] (by decide) rfl
  have hKc := hK.sub (tys' := []) [] rfl
  have hFc : ∀ q, va_A [] s.heap.size q → A q := pu_free hS hA
  refine va_calli (va_runV (As := [.int a1]) (rest := []) ⟨hx, hb, hml, hown, hts⟩ (c_X11_isMan l dC dI s.heap.size g0 pq cp a1) (cwV 1 hts gX11_ask_X11_isMan rfl rfl rfl (by decide +kernel) ⟨(Nat.le_of_ble_eq_true rfl), (Nat.le_of_ble_eq_true rfl)⟩) (pr_V (r := (RX11, TX11, 63)) hPc hKc hDc 0 11 rfl rfl) rfl rfl hl.1 rfl (lv_room (Nat.le_of_ble_eq_true rfl)) dX11_ask_2 ⟨(Nat.le_of_ble_eq_true rfl), (Nat.le_of_ble_eq_true rfl)⟩) hS (fun q _ h => hFc q h) hFc (fun r_2 u t H locs ht hvm w_1 hB hz1 hk1 hS => ?_)
  have hP := pu_keep hP hk1
  clear hk1 hz1 hvm hB hPc hDc hKc hFc ht
  subst w_1
  refine lv_if_ne (tgt := 14) hx hb dX11_ask_5 (by decide) (fun c_3 => absurd c_3 (by decide)) (fun _ => ?_)
  refine lv_aload_n hx hb dX11_ask_8 rfl (lv_at hl 0 rfl) ?_
  refine lv_iconst (v := (-1)) hx hb dX11_ask_9 (by decide) ?_
  have hPc := hP.sub (ws' := [(g0, .inr (11, mF pq)), ((pq 0), .inl ((cp 0), 7, .inl (fun _ => 0)))]) [0, 1] rfl
  have hDc := hD.sub (ws' := [(g0, .inr (11, mF pq)), ((pq 0), .inl ((cp 0), 7, .inl (fun _ => 0)))]) [0, 1] (by decide) rfl
  have hKc := hK.sub (tys' := [((cp 0), .int)]) [0] rfl
  have hFc := va_free (wc := [(g0, .inr (11, mF pq)), ((pq 0), .inl ((cp 0), 7, .inl (fun _ => 0)))]) hD hS hA [0, 1] rfl
  refine va_calli (va_runV (As := [.int (-1)]) (rest := []) ⟨hx, hb, hml, hown, hts⟩ (c_X11_refuse l dC dI H.size g0 pq cp (-1) (by unfold vp_in; decide)) (cwV 1 hts gX11_ask_X11_refuse rfl rfl rfl (by decide +kernel) ⟨(Nat.le_of_ble_eq_true rfl), (Nat.le_of_ble_eq_true rfl)⟩) (pr_V (r := (RX11, TX11, 63)) hPc hKc hDc 0 11 rfl rfl) rfl rfl hl.1 rfl (lv_room (Nat.le_of_ble_eq_true rfl)) dX11_ask_10 ⟨(Nat.le_of_ble_eq_true rfl), (Nat.le_of_ble_eq_true rfl)⟩) hS (fun q _ h => hFc q h) hFc (fun r_5 u t H locs ht hvm w_4 hB hz1 hk1 hS => ?_)
  subst w_4
  exact W.iret (v := (-1)) hx hb hr (fun t ht hW => ⟨⟨(-1), (), rfl, rfl, trivial⟩, hS.F ht⟩) hS.2.2 dX11_ask_13
set_option maxHeartbeats 4000000 in
set_option maxRecDepth 100000 in
theorem c_X11_check (l : Launch) (dC : Nat → ClassId) (dI : Nat → Nat → Nat) (sz : Nat) (g0 : Nat) (pq : Nat → Nat) (cp : Nat → ClassId) (a1 : Int32) (a2 : Int32) (a3 : Int32) : Met l yX11_check wsX11_check ({ frames := 2, cells := 0, slots := 0, locals := 42 }) (va_Pc [.ref g0, .int a1, .int a2, .int a3] (pcW (dC, dI) [((cp 0), .int)] [(g0, .inr (11, mF pq)), ((pq 0), .inl ((cp 0), 7, .inl (fun _ => 0)))] sz)) (va_Qi (fun (r : Int32) (u : Unit) => r = (-1)) (fun _ _ => True) (va_A [(g0, .inr (11, mF pq)), ((pq 0), .inl ((cp 0), 7, .inl (fun _ => 0)))] sz)) 0 0 (va_A [(g0, .inr (11, mF pq)), ((pq 0), .inl ((cp 0), 7, .inl (fun _ => 0)))] sz) := by
  refine Met.ofW (cc := cX11_check) (maxL := 8) (ret := (some .int)) (by decide) rfl ?_
  intro p e s m args below meth c s₁ B hml hv
  obtain ⟨rfl, hsz, hP, hK, hD0⟩ := hv
  have hx := B.exec
  have hb := B.bytes
  have hr := B.returns
  have hts := atoms_spec (ws := wsX11_check) B.pre
  have hown : s.vm.findClass RX11 = some m.cls := findClass_of_methodNamed B.named
  have hlocks := B.notSynchronized
  subst hsz
  have hD := hD0.self (sz := s.heap.size)
  generalize hAe : va_A [(g0, .inr (11, mF pq)), ((pq 0), .inl ((cp 0), 7, .inl (fun _ => 0)))] s.heap.size = A at hD ⊢
  have hA : ∀ q : Nat, s.heap.size ≤ q → A q := fun q h => by rw [← hAe]; exact Or.inr h
  have hS : va_S A s.heap s.heap [] := va_S.rf
  have hP : va_P (dC, dI) vwCl [(g0, .inr (11, mF pq)), ((pq 0), .inl ((cp 0), 7, .inl (fun _ => 0)))] s.heap := hP
  have hl := lv_entry ([.ref g0, .int a1, .int a2, .int a3]) (n := 8) (Nat.le_of_ble_eq_true rfl)
  rw [lg_entry_eq]
  generalize (lg_sl ([.ref g0, .int a1, .int a2, .int a3]) ++ List.replicate (8 - (lg_sl ([.ref g0, .int a1, .int a2, .int a3])).length) Slot.unset).toArray = ls at hl ⊢
  have hl : lv_has ls 8 [(0, .ref g0), (1, .int a1), (2, .int a2), (3, .int a3)] := hl
  refine lv_aload_n hx hb dX11_check_0 rfl (lv_at hl 0 rfl) ?_
  refine lv_iload_n hx hb dX11_check_1 rfl (lv_at hl 1 rfl) ?_
  have hPc := hP.sub (ws' := [(g0, .inr (11, mF pq))]) [0] rfl
  have hDc := hD.sub (ws' := [(g0, .inr (11, mF pq))]) [0] (by decide) rfl
  have hKc := hK.sub (tys' := []) [] rfl
  have hFc : ∀ q, va_A [] s.heap.size q → A q := pu_free hS hA
  refine va_calli (va_runV (As := [.int a1]) (rest := []) ⟨hx, hb, hml, hown, hts⟩ (c_X11_isVoyage l dC dI s.heap.size g0 pq cp a1) (cwV 1 hts gX11_check_X11_isVoyage rfl rfl rfl (by decide +kernel) ⟨(Nat.le_of_ble_eq_true rfl), (Nat.le_of_ble_eq_true rfl)⟩) (pr_V (r := (RX11, TX11, 63)) hPc hKc hDc 0 11 rfl rfl) rfl rfl hl.1 rfl (lv_room (Nat.le_of_ble_eq_true rfl)) dX11_check_2 ⟨(Nat.le_of_ble_eq_true rfl), (Nat.le_of_ble_eq_true rfl)⟩) hS (fun q _ h => hFc q h) hFc (fun r_2 u t H locs ht hvm w_1 hB hz1 hk1 hS => ?_)
  have hP := pu_keep hP hk1
  clear hk1 hz1 hvm hB hPc hDc hKc hFc ht
  subst w_1
  refine lv_if_eq (tgt := 17) hx hb dX11_check_5 (by decide) (fun _ => ?_) (fun c_3 => absurd c_3 (by decide))
  refine lv_iconst (v := (-1)) hx hb dX11_check_17 (by decide) ?_
  refine lv_istore (lv' := [(4, .int (-1)), (0, .ref g0), (1, .int a1), (2, .int a2), (3, .int a3)]) hx hb dX11_check_18 hl (by decide) rfl (fun ls hl => ?_)
  refine lv_iload hx hb dX11_check_20 (lv_at hl 0 rfl) ?_
  refine lv_if_eq (tgt := 32) hx hb dX11_check_22 (by decide) (fun c_4 => absurd c_4 (by decide)) (fun _ => ?_)
  refine lv_aload_n hx hb dX11_check_25 rfl (lv_at hl 1 rfl) ?_
  refine lv_iload hx hb dX11_check_26 (lv_at hl 0 rfl) ?_
  have hPc := hP.sub (ws' := [(g0, .inr (11, mF pq)), ((pq 0), .inl ((cp 0), 7, .inl (fun _ => 0)))]) [0, 1] rfl
  have hDc := hD.sub (ws' := [(g0, .inr (11, mF pq)), ((pq 0), .inl ((cp 0), 7, .inl (fun _ => 0)))]) [0, 1] (by decide) rfl
  have hKc := hK.sub (tys' := [((cp 0), .int)]) [0] rfl
  have hFc := va_free (wc := [(g0, .inr (11, mF pq)), ((pq 0), .inl ((cp 0), 7, .inl (fun _ => 0)))]) hD hS hA [0, 1] rfl
  refine va_calli (va_runV (As := [.int (-1)]) (rest := []) ⟨hx, hb, hml, hown, hts⟩ (c_X11_refuse l dC dI H.size g0 pq cp (-1) (by unfold vp_in; decide)) (cwV 1 hts gX11_check_X11_refuse rfl rfl rfl (by decide +kernel) ⟨(Nat.le_of_ble_eq_true rfl), (Nat.le_of_ble_eq_true rfl)⟩) (pr_V (r := (RX11, TX11, 63)) hPc hKc hDc 0 11 rfl rfl) rfl rfl hl.1 rfl (lv_room (Nat.le_of_ble_eq_true rfl)) dX11_check_28 ⟨(Nat.le_of_ble_eq_true rfl), (Nat.le_of_ble_eq_true rfl)⟩) hS (fun q _ h => hFc q h) hFc (fun r_6 u t H locs ht hvm w_5 hB hz1 hk1 hS => ?_)
  subst w_5
  exact W.iret (v := (-1)) hx hb hr (fun t ht hW => ⟨⟨(-1), (), rfl, rfl, trivial⟩, hS.F ht⟩) hS.2.2 dX11_check_31
set_option maxHeartbeats 4000000 in
set_option maxRecDepth 100000 in
theorem c_X11_owed (l : Launch) (dC : Nat → ClassId) (dI : Nat → Nat → Nat) (sz : Nat) (g0 : Nat) (pq : Nat → Nat) (cp : Nat → ClassId) (a1 : Int32) (a2 : Int32) (a3 : Int32) : Met l yX11_owed wsX11_owed ({ frames := 2, cells := 0, slots := 0, locals := 42 }) (va_Pc [.ref g0, .int a1, .int a2, .int a3] (pcW (dC, dI) [((cp 0), .int)] [(g0, .inr (11, mF pq)), ((pq 0), .inl ((cp 0), 7, .inl (fun _ => 0)))] sz)) (va_Qi (fun (r : Int32) (u : Unit) => r = 1000000001) (fun _ _ => True) (va_A [(g0, .inr (11, mF pq)), ((pq 0), .inl ((cp 0), 7, .inl (fun _ => 0)))] sz)) 0 0 (va_A [(g0, .inr (11, mF pq)), ((pq 0), .inl ((cp 0), 7, .inl (fun _ => 0)))] sz) := by
  refine Met.ofW (cc := cX11_owed) (maxL := 5) (ret := (some .int)) (by decide) rfl ?_
  intro p e s m args below meth c s₁ B hml hv
  obtain ⟨rfl, hsz, hP, hK, hD0⟩ := hv
  have hx := B.exec
  have hb := B.bytes
  have hr := B.returns
  have hts := atoms_spec (ws := wsX11_owed) B.pre
  have hown : s.vm.findClass RX11 = some m.cls := findClass_of_methodNamed B.named
  have hlocks := B.notSynchronized
  subst hsz
  have hD := hD0.self (sz := s.heap.size)
  generalize hAe : va_A [(g0, .inr (11, mF pq)), ((pq 0), .inl ((cp 0), 7, .inl (fun _ => 0)))] s.heap.size = A at hD ⊢
  have hA : ∀ q : Nat, s.heap.size ≤ q → A q := fun q h => by rw [← hAe]; exact Or.inr h
  have hS : va_S A s.heap s.heap [] := va_S.rf
  have hP : va_P (dC, dI) vwCl [(g0, .inr (11, mF pq)), ((pq 0), .inl ((cp 0), 7, .inl (fun _ => 0)))] s.heap := hP
  have hl := lv_entry ([.ref g0, .int a1, .int a2, .int a3]) (n := 5) (Nat.le_of_ble_eq_true rfl)
  rw [lg_entry_eq]
  generalize (lg_sl ([.ref g0, .int a1, .int a2, .int a3]) ++ List.replicate (5 - (lg_sl ([.ref g0, .int a1, .int a2, .int a3])).length) Slot.unset).toArray = ls at hl ⊢
  have hl : lv_has ls 5 [(0, .ref g0), (1, .int a1), (2, .int a2), (3, .int a3)] := hl
  refine lv_aload_n hx hb dX11_owed_0 rfl (lv_at hl 0 rfl) ?_
  refine lv_iload_n hx hb dX11_owed_1 rfl (lv_at hl 1 rfl) ?_
  have hPc := hP.sub (ws' := [(g0, .inr (11, mF pq))]) [0] rfl
  have hDc := hD.sub (ws' := [(g0, .inr (11, mF pq))]) [0] (by decide) rfl
  have hKc := hK.sub (tys' := []) [] rfl
  have hFc : ∀ q, va_A [] s.heap.size q → A q := pu_free hS hA
  refine va_calli (va_runV (As := [.int a1]) (rest := []) ⟨hx, hb, hml, hown, hts⟩ (c_X11_isAgreement l dC dI s.heap.size g0 pq cp a1) (cwV 1 hts gX11_owed_X11_isAgreement rfl rfl rfl (by decide +kernel) ⟨(Nat.le_of_ble_eq_true rfl), (Nat.le_of_ble_eq_true rfl)⟩) (pr_V (r := (RX11, TX11, 63)) hPc hKc hDc 0 11 rfl rfl) rfl rfl hl.1 rfl (lv_room (Nat.le_of_ble_eq_true rfl)) dX11_owed_2 ⟨(Nat.le_of_ble_eq_true rfl), (Nat.le_of_ble_eq_true rfl)⟩) hS (fun q _ h => hFc q h) hFc (fun r_2 u t H locs ht hvm w_1 hB hz1 hk1 hS => ?_)
  have hP := pu_keep hP hk1
  clear hk1 hz1 hvm hB hPc hDc hKc hFc ht
  subst w_1
  refine lv_if_eq (tgt := 17) hx hb dX11_owed_5 (by decide) (fun _ => ?_) (fun c_3 => absurd c_3 (by decide))
  refine lv_iconst (v := (-1)) hx hb dX11_owed_17 (by decide) ?_
  refine lv_istore (lv' := [(4, .int (-1)), (0, .ref g0), (1, .int a1), (2, .int a2), (3, .int a3)]) hx hb dX11_owed_18 hl (by decide) rfl (fun ls hl => ?_)
  refine lv_iload hx hb dX11_owed_20 (lv_at hl 0 rfl) ?_
  refine lv_if_eq (tgt := 34) hx hb dX11_owed_22 (by decide) (fun c_4 => absurd c_4 (by decide)) (fun _ => ?_)
  refine lv_aload_n hx hb dX11_owed_25 rfl (lv_at hl 1 rfl) ?_
  refine lv_iload hx hb dX11_owed_26 (lv_at hl 0 rfl) ?_
  have hPc := hP.sub (ws' := [(g0, .inr (11, mF pq)), ((pq 0), .inl ((cp 0), 7, .inl (fun _ => 0)))]) [0, 1] rfl
  have hDc := hD.sub (ws' := [(g0, .inr (11, mF pq)), ((pq 0), .inl ((cp 0), 7, .inl (fun _ => 0)))]) [0, 1] (by decide) rfl
  have hKc := hK.sub (tys' := [((cp 0), .int)]) [0] rfl
  have hFc := va_free (wc := [(g0, .inr (11, mF pq)), ((pq 0), .inl ((cp 0), 7, .inl (fun _ => 0)))]) hD hS hA [0, 1] rfl
  refine va_calli (va_runV (As := [.int (-1)]) (rest := []) ⟨hx, hb, hml, hown, hts⟩ (c_X11_refuseFar l dC dI H.size g0 pq cp) (cwV 1 hts gX11_owed_X11_refuseFar rfl rfl rfl (by decide +kernel) ⟨(Nat.le_of_ble_eq_true rfl), (Nat.le_of_ble_eq_true rfl)⟩) (pr_V (r := (RX11, TX11, 63)) hPc hKc hDc 0 11 rfl rfl) rfl rfl hl.1 rfl (lv_room (Nat.le_of_ble_eq_true rfl)) dX11_owed_28 ⟨(Nat.le_of_ble_eq_true rfl), (Nat.le_of_ble_eq_true rfl)⟩) hS (fun q _ h => hFc q h) hFc (fun r_6 u t H locs ht hvm w_5 hB hz1 hk1 hS => ?_)
  subst w_5
  refine lv_goto (tgt := 41) hx hb dX11_owed_31 (by decide) ?_
  exact W.iret (v := 1000000001) hx hb hr (fun t ht hW => ⟨⟨1000000001, (), rfl, rfl, trivial⟩, hS.F ht⟩) hS.2.2 dX11_owed_41
end
section
def tyX6 : Nat → FieldType := fun k => match k with
  | 0 => .int
  | 1 => .int
  | 2 => .int
  | 3 => .int
  | 4 => .array .int
  | _ => .int
theorem nmX6 : ∀ a, a < 6 → ∀ b, b < 6 → a ≠ b → (TX6 a).2.1 ≠ (TX6 b).2.1 := by decide +kernel
theorem tyX6_ok : ∀ k, k < 6 → parseFieldDescriptor (TX6 k).2.2.1 = some (tyX6 k) := by decide +kernel
abbrev cX6_init : ByteArray := prog_8_method_1_code
def yX6_init : MethodName := ⟨RX6, "<init>", "(IIII)V"⟩
abbrev cX6_isAlike : ByteArray := prog_8_method_4_code
def yX6_isAlike : MethodName := ⟨RX6, "isAlike", "(LShipOffice$Man;)Z"⟩
abbrev cX6_digitsApart : ByteArray := prog_8_method_5_code
def yX6_digitsApart : MethodName := ⟨RX6, "digitsApart", "(II)I"⟩
abbrev cX7_join : ByteArray := prog_9_method_2_code
def yX7_join : MethodName := ⟨RX7, "join", "(III)I"⟩
def tyX9 : Nat → FieldType := fun k => match k with
  | 0 => .int
  | 1 => .int
  | 2 => .int
  | 3 => .int
  | 4 => .boolean
  | 5 => .int
  | 6 => .int
  | 7 => .int
  | 8 => .int
  | _ => .object "ShipOffice$Happening"
theorem nmX9 : ∀ a, a < 10 → ∀ b, b < 10 → a ≠ b → (TX9 a).2.1 ≠ (TX9 b).2.1 := by decide +kernel
theorem tyX9_ok : ∀ k, k < 10 → parseFieldDescriptor (TX9 k).2.2.1 = some (tyX9 k) := by decide +kernel
abbrev cX9_init : ByteArray := prog_11_method_1_code
def yX9_init : MethodName := ⟨RX9, "<init>", "(IIII)V"⟩
def tyX10 : Nat → FieldType := fun k => match k with
  | 0 => .int
  | 1 => .array (.object "ShipOffice$Man")
  | 2 => .int
  | 3 => .array (.object "ShipOffice$Voyage")
  | 4 => .int
  | 5 => .array (.object "ShipOffice$Agreement")
  | 6 => .int
  | 7 => .int
  | 8 => .object "ShipOffice$Law"
  | 9 => .object "ShipOffice$Tape"
  | 10 => .object "ShipOffice$Sea"
  | 11 => .object "ShipOffice$Hiring"
  | 12 => .array .int
  | 13 => .array .int
  | 14 => .int
  | _ => .array .int
theorem nmX10 : ∀ a, a < 16 → ∀ b, b < 16 → a ≠ b → (TX10 a).2.1 ≠ (TX10 b).2.1 := by decide +kernel
theorem tyX10_ok : ∀ k, k < 16 → parseFieldDescriptor (TX10 k).2.2.1 = some (tyX10 k) := by decide +kernel
abbrev cX10_days : ByteArray := prog_1_method_2_code
def yX10_days : MethodName := ⟨RX10, "days", "(I)I"⟩
abbrev cX10_miles : ByteArray := prog_1_method_3_code
def yX10_miles : MethodName := ⟨RX10, "miles", "(III)I"⟩
abbrev cX10_man : ByteArray := prog_1_method_4_code
def yX10_man : MethodName := ⟨RX10, "man", "(III)I"⟩
abbrev cX10_voyage : ByteArray := prog_1_method_5_code
def yX10_voyage : MethodName := ⟨RX10, "voyage", "(II)I"⟩
abbrev cX10_put : ByteArray := prog_1_method_34_code
def yX10_put : MethodName := ⟨RX10, "put", "(I)I"⟩
abbrev cX10_joinGroups : ByteArray := prog_1_method_47_code
def yX10_joinGroups : MethodName := ⟨RX10, "joinGroups", "(LShipOffice$Man;)V"⟩
abbrev cX10_mergeGroups : ByteArray := prog_1_method_48_code
def yX10_mergeGroups : MethodName := ⟨RX10, "mergeGroups", "(II)V"⟩
abbrev cX10_hasVoyage : ByteArray := prog_1_method_49_code
def yX10_hasVoyage : MethodName := ⟨RX10, "hasVoyage", "(I)Z"⟩
def wsX6_init : List Cond := .code yX6_init cX6_init 5 none :: ([.methodLink RX6 3 objectInit, .instanceMethod objectInit, .code objectInit ⟨#[0xb1]⟩ 1 none, .arrayClass .int, .fieldLink RX6 9 "ShipOffice$Man" "wages" "[I", .fieldLink RX6 15 "ShipOffice$Man" "number" "I", .fieldLink RX6 19 "ShipOffice$Man" "name" "I", .fieldLink RX6 22 "ShipOffice$Man" "marks" "I", .fieldLink RX6 25 "ShipOffice$Man" "born" "I", .fieldLink RX6 28 "ShipOffice$Man" "leastAlike" "I"] ++ wsX60)
def wsX6_isAlike : List Cond := .code yX6_isAlike cX6_isAlike 2 (some .boolean) :: ([.fieldLink RX6 22 "ShipOffice$Man" "marks" "I", .fieldLink RX6 19 "ShipOffice$Man" "name" "I", .methodLink RX6 31 yX6_digitsApart, .static yX6_digitsApart, .initialized RX6, .code yX6_digitsApart cX6_digitsApart 6 (some .int)] ++ wsX60)
def wsX7_join : List Cond := .code yX7_join cX7_join 5 (some .int) :: ([.fieldLink RX7 9 "ShipOffice$Sea" "miles" "[I"] ++ wsX70)
def wsX9_init : List Cond := .code yX9_init cX9_init 5 none :: ([.methodLink RX9 3 objectInit, .instanceMethod objectInit, .code objectInit ⟨#[0xb1]⟩ 1 none, .constant RX9 9 (1000000), .fieldLink RX9 10 "ShipOffice$Voyage" "sailedDay" "I", .fieldLink RX9 16 "ShipOffice$Voyage" "sailedTold" "I", .fieldLink RX9 19 "ShipOffice$Voyage" "lostDay" "I", .fieldLink RX9 22 "ShipOffice$Voyage" "lostTold" "I", .fieldLink RX9 25 "ShipOffice$Voyage" "number" "I", .fieldLink RX9 28 "ShipOffice$Voyage" "ship" "I", .fieldLink RX9 31 "ShipOffice$Voyage" "port" "I", .fieldLink RX9 34 "ShipOffice$Voyage" "openedOn" "I"] ++ wsX90)
def wsX10_days : List Cond := .code yX10_days cX10_days 2 (some .int) :: ([.fieldLink RX10 73 "ShipOffice" "now" "I", .methodLink RX10 69 yX10_refuse, .instanceMethod yX10_refuse, .selects RX10 yX10_refuse yX10_refuse, .initialized RX10, .code yX10_refuse cX10_refuse 2 (some .int), .fieldLink RX10 66 "ShipOffice" "refusals" "[I"] ++ wsX100)
def wsX10_isPort : List Cond := .code yX10_isPort cX10_isPort 1 (some .boolean) :: ([])
def wsX10_miles : List Cond := .code yX10_miles cX10_miles 4 (some .int) :: ([.fieldLink RX10 44 "ShipOffice" "sea" "LShipOffice$Sea;", .methodLink RX10 77 yX10_isPort, .static yX10_isPort, .initialized RX10, .code yX10_isPort cX10_isPort 1 (some .boolean), .methodLink RX10 69 yX10_refuse, .instanceMethod yX10_refuse, .selects RX10 yX10_refuse yX10_refuse, .code yX10_refuse cX10_refuse 2 (some .int), .fieldLink RX10 66 "ShipOffice" "refusals" "[I", .methodLink RX10 81 yX7_join, .instanceMethod yX7_join, .selects RX7 yX7_join yX7_join, .initialized RX7, .code yX7_join cX7_join 5 (some .int), .fieldLink RX7 9 "ShipOffice$Sea" "miles" "[I"] ++ wsX100 ++ wsX70)
def wsX10_mergeGroups : List Cond := .code yX10_mergeGroups cX10_mergeGroups 6 none :: ([.methodLink RX10 378 Lib.Math.min.name, .static Lib.Math.min.name, .initialized "java/lang/Math", .code Lib.Math.min.name Lib.Math.min.code 2 (some .int), .methodLink RX10 383 Lib.Math.max.name, .static Lib.Math.max.name, .code Lib.Math.max.name Lib.Math.max.code 2 (some .int), .fieldLink RX10 86 "ShipOffice" "manCount" "I", .fieldLink RX10 11 "ShipOffice" "men" "[LShipOffice$Man;", .fieldLink RX10 311 "ShipOffice$Man" "leastAlike" "I"] ++ wsX100 ++ wsX60)
def wsX10_joinGroups_r1 : List Cond := [Cond.fieldLink RX10 86 "ShipOffice" "manCount" "I", Cond.fieldLink RX10 11 "ShipOffice" "men" "[LShipOffice$Man;", Cond.fieldLink RX10 311 "ShipOffice$Man" "leastAlike" "I", Cond.methodLink RX10 371 yX6_isAlike, Cond.instanceMethod yX6_isAlike, Cond.selects RX6 yX6_isAlike yX6_isAlike, Cond.initialized RX6, Cond.code yX6_isAlike cX6_isAlike 2 (some .boolean), Cond.fieldLink RX6 22 "ShipOffice$Man" "marks" "I", Cond.fieldLink RX6 19 "ShipOffice$Man" "name" "I", Cond.methodLink RX6 31 yX6_digitsApart, Cond.static yX6_digitsApart, Cond.code yX6_digitsApart cX6_digitsApart 6 (some .int), Cond.methodLink RX10 374 yX10_mergeGroups, Cond.instanceMethod yX10_mergeGroups, Cond.selects RX10 yX10_mergeGroups yX10_mergeGroups, Cond.initialized RX10, Cond.code yX10_mergeGroups cX10_mergeGroups 6 none, Cond.methodLink RX10 378 Lib.Math.min.name, Cond.static Lib.Math.min.name, Cond.initialized "java/lang/Math", Cond.code Lib.Math.min.name Lib.Math.min.code 2 (some .int), Cond.methodLink RX10 383 Lib.Math.max.name, Cond.static Lib.Math.max.name]
def wsX10_joinGroups_r2 : List Cond := [Cond.code Lib.Math.max.name Lib.Math.max.code 2 (some .int)]
def wsX10_joinGroups : List Cond := .code yX10_joinGroups cX10_joinGroups 3 none :: ((wsX10_joinGroups_r1 ++ wsX10_joinGroups_r2) ++ wsX100 ++ wsX60)
def wsX10_man_r1 : List Cond := [Cond.constant RX10 85 (99999), Cond.fieldLink RX10 73 "ShipOffice" "now" "I", Cond.fieldLink RX10 86 "ShipOffice" "manCount" "I", Cond.fieldLink RX10 11 "ShipOffice" "men" "[LShipOffice$Man;", Cond.classLink RX10 9 RX6, Cond.instantiable RX6 6, Cond.initialized RX6, Cond.methodLink RX10 69 yX10_refuse, Cond.instanceMethod yX10_refuse, Cond.selects RX10 yX10_refuse yX10_refuse, Cond.initialized RX10, Cond.code yX10_refuse cX10_refuse 2 (some .int), Cond.fieldLink RX10 66 "ShipOffice" "refusals" "[I", Cond.methodLink RX10 89 yX6_init, Cond.instanceMethod yX6_init, Cond.code yX6_init cX6_init 5 none, Cond.methodLink RX6 3 objectInit, Cond.instanceMethod objectInit, Cond.code objectInit ⟨#[0xb1]⟩ 1 none, Cond.arrayClass .int, Cond.fieldLink RX6 9 "ShipOffice$Man" "wages" "[I", Cond.fieldLink RX6 15 "ShipOffice$Man" "number" "I", Cond.fieldLink RX6 19 "ShipOffice$Man" "name" "I", Cond.fieldLink RX6 22 "ShipOffice$Man" "marks" "I"]
def wsX10_man_r2 : List Cond := [Cond.fieldLink RX6 25 "ShipOffice$Man" "born" "I", Cond.fieldLink RX6 28 "ShipOffice$Man" "leastAlike" "I", Cond.methodLink RX10 92 yX10_joinGroups, Cond.instanceMethod yX10_joinGroups, Cond.selects RX10 yX10_joinGroups yX10_joinGroups, Cond.code yX10_joinGroups cX10_joinGroups 3 none, Cond.fieldLink RX10 311 "ShipOffice$Man" "leastAlike" "I", Cond.methodLink RX10 371 yX6_isAlike, Cond.instanceMethod yX6_isAlike, Cond.selects RX6 yX6_isAlike yX6_isAlike, Cond.code yX6_isAlike cX6_isAlike 2 (some .boolean), Cond.methodLink RX6 31 yX6_digitsApart, Cond.static yX6_digitsApart, Cond.code yX6_digitsApart cX6_digitsApart 6 (some .int), Cond.methodLink RX10 374 yX10_mergeGroups, Cond.instanceMethod yX10_mergeGroups, Cond.selects RX10 yX10_mergeGroups yX10_mergeGroups, Cond.code yX10_mergeGroups cX10_mergeGroups 6 none, Cond.methodLink RX10 378 Lib.Math.min.name, Cond.static Lib.Math.min.name, Cond.initialized "java/lang/Math", Cond.code Lib.Math.min.name Lib.Math.min.code 2 (some .int), Cond.methodLink RX10 383 Lib.Math.max.name, Cond.static Lib.Math.max.name]
def wsX10_man_r3 : List Cond := [Cond.code Lib.Math.max.name Lib.Math.max.code 2 (some .int)]
def wsX10_man : List Cond := .code yX10_man cX10_man 4 (some .int) :: ((wsX10_man_r1 ++ (wsX10_man_r2 ++ wsX10_man_r3)) ++ wsX100 ++ wsX60)
def wsX10_hasVoyage : List Cond := .code yX10_hasVoyage cX10_hasVoyage 3 (some .boolean) :: ([.fieldLink RX10 99 "ShipOffice" "voyageCount" "I", .fieldLink RX10 17 "ShipOffice" "voyages" "[LShipOffice$Voyage;", .fieldLink RX10 386 "ShipOffice$Voyage" "ship" "I", .fieldLink RX10 107 "ShipOffice$Voyage" "isOver" "Z"] ++ wsX100 ++ wsX90)
def wsX10_voyage_r1 : List Cond := [Cond.fieldLink RX10 99 "ShipOffice" "voyageCount" "I", Cond.fieldLink RX10 17 "ShipOffice" "voyages" "[LShipOffice$Voyage;", Cond.classLink RX10 15 RX9, Cond.instantiable RX9 10, Cond.initialized RX9, Cond.fieldLink RX10 73 "ShipOffice" "now" "I", Cond.methodLink RX10 77 yX10_isPort, Cond.static yX10_isPort, Cond.initialized RX10, Cond.code yX10_isPort cX10_isPort 1 (some .boolean), Cond.methodLink RX10 69 yX10_refuse, Cond.instanceMethod yX10_refuse, Cond.selects RX10 yX10_refuse yX10_refuse, Cond.code yX10_refuse cX10_refuse 2 (some .int), Cond.fieldLink RX10 66 "ShipOffice" "refusals" "[I", Cond.methodLink RX10 96 yX10_hasVoyage, Cond.instanceMethod yX10_hasVoyage, Cond.selects RX10 yX10_hasVoyage yX10_hasVoyage, Cond.code yX10_hasVoyage cX10_hasVoyage 3 (some .boolean), Cond.fieldLink RX10 386 "ShipOffice$Voyage" "ship" "I", Cond.fieldLink RX10 107 "ShipOffice$Voyage" "isOver" "Z", Cond.methodLink RX10 102 yX9_init, Cond.instanceMethod yX9_init, Cond.code yX9_init cX9_init 5 none]
def wsX10_voyage_r2 : List Cond := [Cond.methodLink RX9 3 objectInit, Cond.instanceMethod objectInit, Cond.code objectInit ⟨#[0xb1]⟩ 1 none, Cond.constant RX9 9 (1000000), Cond.fieldLink RX9 10 "ShipOffice$Voyage" "sailedDay" "I", Cond.fieldLink RX9 16 "ShipOffice$Voyage" "sailedTold" "I", Cond.fieldLink RX9 19 "ShipOffice$Voyage" "lostDay" "I", Cond.fieldLink RX9 22 "ShipOffice$Voyage" "lostTold" "I", Cond.fieldLink RX9 25 "ShipOffice$Voyage" "number" "I", Cond.fieldLink RX9 28 "ShipOffice$Voyage" "ship" "I", Cond.fieldLink RX9 31 "ShipOffice$Voyage" "port" "I", Cond.fieldLink RX9 34 "ShipOffice$Voyage" "openedOn" "I"]
def wsX10_voyage : List Cond := .code yX10_voyage cX10_voyage 3 (some .int) :: ((wsX10_voyage_r1 ++ wsX10_voyage_r2) ++ wsX100 ++ wsX90)
def wsX10_put : List Cond := .code yX10_put cX10_put 2 (some .int) :: ([.fieldLink RX10 353 "ShipOffice" "rowCount" "I", .fieldLink RX10 63 "ShipOffice" "row" "[I", .methodLink RX10 69 yX10_refuse, .instanceMethod yX10_refuse, .selects RX10 yX10_refuse yX10_refuse, .initialized RX10, .code yX10_refuse cX10_refuse 2 (some .int), .fieldLink RX10 66 "ShipOffice" "refusals" "[I"] ++ wsX100)
theorem dX6_init_0 : decode cX6_init 0 = .ok (.aload_n 0, 1) := by decide +kernel
theorem dX6_init_1 : decode cX6_init 1 = .ok (.invokespecial 3, 3) := by decide +kernel
theorem dX6_init_4 : decode cX6_init 4 = .ok (.aload_n 0, 1) := by decide +kernel
theorem dX6_init_5 : decode cX6_init 5 = .ok (.iconst 4, 1) := by decide +kernel
theorem dX6_init_6 : decode cX6_init 6 = .ok (.newarray .int, 2) := by decide +kernel
theorem dX6_init_8 : decode cX6_init 8 = .ok (.putfield 9, 3) := by decide +kernel
theorem dX6_init_11 : decode cX6_init 11 = .ok (.aload_n 0, 1) := by decide +kernel
theorem dX6_init_12 : decode cX6_init 12 = .ok (.iload_n 1, 1) := by decide +kernel
theorem dX6_init_13 : decode cX6_init 13 = .ok (.putfield 15, 3) := by decide +kernel
theorem dX6_init_16 : decode cX6_init 16 = .ok (.aload_n 0, 1) := by decide +kernel
theorem dX6_init_17 : decode cX6_init 17 = .ok (.iload_n 2, 1) := by decide +kernel
theorem dX6_init_18 : decode cX6_init 18 = .ok (.putfield 19, 3) := by decide +kernel
theorem dX6_init_21 : decode cX6_init 21 = .ok (.aload_n 0, 1) := by decide +kernel
theorem dX6_init_22 : decode cX6_init 22 = .ok (.iload_n 3, 1) := by decide +kernel
theorem dX6_init_23 : decode cX6_init 23 = .ok (.putfield 22, 3) := by decide +kernel
theorem dX6_init_26 : decode cX6_init 26 = .ok (.aload_n 0, 1) := by decide +kernel
theorem dX6_init_27 : decode cX6_init 27 = .ok (.iload 4, 2) := by decide +kernel
theorem dX6_init_29 : decode cX6_init 29 = .ok (.putfield 25, 3) := by decide +kernel
theorem dX6_init_32 : decode cX6_init 32 = .ok (.aload_n 0, 1) := by decide +kernel
theorem dX6_init_33 : decode cX6_init 33 = .ok (.iload_n 1, 1) := by decide +kernel
theorem dX6_init_34 : decode cX6_init 34 = .ok (.putfield 28, 3) := by decide +kernel
theorem dX6_init_37 : decode cX6_init 37 = .ok (.return_, 1) := by decide +kernel
theorem dX6_isAlike_0 : decode cX6_isAlike 0 = .ok (.aload_n 0, 1) := by decide +kernel
theorem dX6_isAlike_1 : decode cX6_isAlike 1 = .ok (.getfield 22, 3) := by decide +kernel
theorem dX6_isAlike_4 : decode cX6_isAlike 4 = .ok (.aload_n 1, 1) := by decide +kernel
theorem dX6_isAlike_5 : decode cX6_isAlike 5 = .ok (.getfield 22, 3) := by decide +kernel
theorem dX6_isAlike_8 : decode cX6_isAlike 8 = .ok (.if_icmp .eq 29, 3) := by decide +kernel
theorem dX6_isAlike_37 : decode cX6_isAlike 37 = .ok (.iconst 1, 1) := by decide +kernel
theorem dX6_isAlike_38 : decode cX6_isAlike 38 = .ok (.goto 4, 3) := by decide +kernel
theorem dX6_isAlike_42 : decode cX6_isAlike 42 = .ok (.ireturn, 1) := by decide +kernel
theorem dX7_join_0 : decode cX7_join 0 = .ok (.aload_n 0, 1) := by decide +kernel
theorem dX7_join_1 : decode cX7_join 1 = .ok (.getfield 9, 3) := by decide +kernel
theorem dX7_join_4 : decode cX7_join 4 = .ok (.iload_n 1, 1) := by decide +kernel
theorem dX7_join_5 : decode cX7_join 5 = .ok (.bipush 10, 2) := by decide +kernel
theorem dX7_join_7 : decode cX7_join 7 = .ok (.imul, 1) := by decide +kernel
theorem dX7_join_8 : decode cX7_join 8 = .ok (.iload_n 2, 1) := by decide +kernel
theorem dX7_join_9 : decode cX7_join 9 = .ok (.iadd, 1) := by decide +kernel
theorem dX7_join_10 : decode cX7_join 10 = .ok (.iaload, 1) := by decide +kernel
theorem dX7_join_11 : decode cX7_join 11 = .ok (.istore 4, 2) := by decide +kernel
theorem dX7_join_13 : decode cX7_join 13 = .ok (.aload_n 0, 1) := by decide +kernel
theorem dX7_join_14 : decode cX7_join 14 = .ok (.getfield 9, 3) := by decide +kernel
theorem dX7_join_17 : decode cX7_join 17 = .ok (.iload_n 1, 1) := by decide +kernel
theorem dX7_join_18 : decode cX7_join 18 = .ok (.bipush 10, 2) := by decide +kernel
theorem dX7_join_20 : decode cX7_join 20 = .ok (.imul, 1) := by decide +kernel
theorem dX7_join_21 : decode cX7_join 21 = .ok (.iload_n 2, 1) := by decide +kernel
theorem dX7_join_22 : decode cX7_join 22 = .ok (.iadd, 1) := by decide +kernel
theorem dX7_join_23 : decode cX7_join 23 = .ok (.iload_n 3, 1) := by decide +kernel
theorem dX7_join_24 : decode cX7_join 24 = .ok (.iastore, 1) := by decide +kernel
theorem dX7_join_25 : decode cX7_join 25 = .ok (.aload_n 0, 1) := by decide +kernel
theorem dX7_join_26 : decode cX7_join 26 = .ok (.getfield 9, 3) := by decide +kernel
theorem dX7_join_29 : decode cX7_join 29 = .ok (.iload_n 2, 1) := by decide +kernel
theorem dX7_join_30 : decode cX7_join 30 = .ok (.bipush 10, 2) := by decide +kernel
theorem dX7_join_32 : decode cX7_join 32 = .ok (.imul, 1) := by decide +kernel
theorem dX7_join_33 : decode cX7_join 33 = .ok (.iload_n 1, 1) := by decide +kernel
theorem dX7_join_34 : decode cX7_join 34 = .ok (.iadd, 1) := by decide +kernel
theorem dX7_join_35 : decode cX7_join 35 = .ok (.iload_n 3, 1) := by decide +kernel
theorem dX7_join_36 : decode cX7_join 36 = .ok (.iastore, 1) := by decide +kernel
theorem dX7_join_37 : decode cX7_join 37 = .ok (.iload 4, 2) := by decide +kernel
theorem dX7_join_39 : decode cX7_join 39 = .ok (.ireturn, 1) := by decide +kernel
theorem dX9_init_0 : decode cX9_init 0 = .ok (.aload_n 0, 1) := by decide +kernel
theorem dX9_init_1 : decode cX9_init 1 = .ok (.invokespecial 3, 3) := by decide +kernel
theorem dX9_init_4 : decode cX9_init 4 = .ok (.aload_n 0, 1) := by decide +kernel
theorem dX9_init_5 : decode cX9_init 5 = .ok (.ldc 9, 2) := by decide +kernel
theorem dX9_init_7 : decode cX9_init 7 = .ok (.putfield 10, 3) := by decide +kernel
theorem dX9_init_10 : decode cX9_init 10 = .ok (.aload_n 0, 1) := by decide +kernel
theorem dX9_init_11 : decode cX9_init 11 = .ok (.ldc 9, 2) := by decide +kernel
theorem dX9_init_13 : decode cX9_init 13 = .ok (.putfield 16, 3) := by decide +kernel
theorem dX9_init_16 : decode cX9_init 16 = .ok (.aload_n 0, 1) := by decide +kernel
theorem dX9_init_17 : decode cX9_init 17 = .ok (.ldc 9, 2) := by decide +kernel
theorem dX9_init_19 : decode cX9_init 19 = .ok (.putfield 19, 3) := by decide +kernel
theorem dX9_init_22 : decode cX9_init 22 = .ok (.aload_n 0, 1) := by decide +kernel
theorem dX9_init_23 : decode cX9_init 23 = .ok (.ldc 9, 2) := by decide +kernel
theorem dX9_init_25 : decode cX9_init 25 = .ok (.putfield 22, 3) := by decide +kernel
theorem dX9_init_28 : decode cX9_init 28 = .ok (.aload_n 0, 1) := by decide +kernel
theorem dX9_init_29 : decode cX9_init 29 = .ok (.iload_n 1, 1) := by decide +kernel
theorem dX9_init_30 : decode cX9_init 30 = .ok (.putfield 25, 3) := by decide +kernel
theorem dX9_init_33 : decode cX9_init 33 = .ok (.aload_n 0, 1) := by decide +kernel
theorem dX9_init_34 : decode cX9_init 34 = .ok (.iload_n 2, 1) := by decide +kernel
theorem dX9_init_35 : decode cX9_init 35 = .ok (.putfield 28, 3) := by decide +kernel
theorem dX9_init_38 : decode cX9_init 38 = .ok (.aload_n 0, 1) := by decide +kernel
theorem dX9_init_39 : decode cX9_init 39 = .ok (.iload_n 3, 1) := by decide +kernel
theorem dX9_init_40 : decode cX9_init 40 = .ok (.putfield 31, 3) := by decide +kernel
theorem dX9_init_43 : decode cX9_init 43 = .ok (.aload_n 0, 1) := by decide +kernel
theorem dX9_init_44 : decode cX9_init 44 = .ok (.iload 4, 2) := by decide +kernel
theorem dX9_init_46 : decode cX9_init 46 = .ok (.putfield 34, 3) := by decide +kernel
theorem dX9_init_49 : decode cX9_init 49 = .ok (.return_, 1) := by decide +kernel
set_option maxRecDepth 20000 in
theorem ggX10_days_X10_refuse : GoodIn wsX10_days wsX10_refuse := goodIn_r _ [6, 7, 8, 9, 10, 11, 12, 13, 14, 15, 16, 17, 18, 19, 20, 21, 22, 23] (by decide +kernel) (by decide +kernel)
set_option maxRecDepth 20000 in
theorem gX10_days_X10_refuse : GoodIn wsX10_days (wsV RX10 69 RX10 yX10_refuse wsX10_refuse) := goodIn_app (goodIn_of _ (by decide +kernel)) ggX10_days_X10_refuse
theorem dX10_days_0 : decode cX10_days 0 = .ok (.iload_n 1, 1) := by decide +kernel
theorem dX10_days_1 : decode cX10_days 1 = .ok (.iconst 1, 1) := by decide +kernel
theorem dX10_days_2 : decode cX10_days 2 = .ok (.if_icmp .ge 10, 3) := by decide +kernel
theorem dX10_days_5 : decode cX10_days 5 = .ok (.aload_n 0, 1) := by decide +kernel
theorem dX10_days_6 : decode cX10_days 6 = .ok (.bipush (-4), 2) := by decide +kernel
theorem dX10_days_8 : decode cX10_days 8 = .ok (.invokevirtual 69, 3) := by decide +kernel
theorem dX10_days_11 : decode cX10_days 11 = .ok (.ireturn, 1) := by decide +kernel
theorem dX10_days_12 : decode cX10_days 12 = .ok (.iload_n 1, 1) := by decide +kernel
theorem dX10_days_13 : decode cX10_days 13 = .ok (.sipush 3000, 3) := by decide +kernel
theorem dX10_days_16 : decode cX10_days 16 = .ok (.aload_n 0, 1) := by decide +kernel
theorem dX10_days_17 : decode cX10_days 17 = .ok (.getfield 73, 3) := by decide +kernel
theorem dX10_days_20 : decode cX10_days 20 = .ok (.isub, 1) := by decide +kernel
theorem dX10_days_21 : decode cX10_days 21 = .ok (.if_icmp .le 10, 3) := by decide +kernel
theorem dX10_days_24 : decode cX10_days 24 = .ok (.aload_n 0, 1) := by decide +kernel
theorem dX10_days_25 : decode cX10_days 25 = .ok (.bipush (-6), 2) := by decide +kernel
theorem dX10_days_27 : decode cX10_days 27 = .ok (.invokevirtual 69, 3) := by decide +kernel
theorem dX10_days_30 : decode cX10_days 30 = .ok (.ireturn, 1) := by decide +kernel
theorem dX10_days_31 : decode cX10_days 31 = .ok (.aload_n 0, 1) := by decide +kernel
theorem dX10_days_32 : decode cX10_days 32 = .ok (.dup, 1) := by decide +kernel
theorem dX10_days_33 : decode cX10_days 33 = .ok (.getfield 73, 3) := by decide +kernel
theorem dX10_days_36 : decode cX10_days 36 = .ok (.iload_n 1, 1) := by decide +kernel
theorem dX10_days_37 : decode cX10_days 37 = .ok (.iadd, 1) := by decide +kernel
theorem dX10_days_38 : decode cX10_days 38 = .ok (.putfield 73, 3) := by decide +kernel
theorem dX10_days_41 : decode cX10_days 41 = .ok (.aload_n 0, 1) := by decide +kernel
theorem dX10_days_42 : decode cX10_days 42 = .ok (.getfield 73, 3) := by decide +kernel
theorem dX10_days_45 : decode cX10_days 45 = .ok (.ireturn, 1) := by decide +kernel
set_option maxRecDepth 20000 in
theorem ggX10_miles_X10_isPort : GoodIn wsX10_miles wsX10_isPort := goodIn_r _ [5] (by decide +kernel) (by decide +kernel)
set_option maxRecDepth 20000 in
theorem gX10_miles_X10_isPort : GoodIn wsX10_miles (va_wsS RX10 77 yX10_isPort wsX10_isPort) := goodIn_app (goodIn_of _ (by decide +kernel)) ggX10_miles_X10_isPort
set_option maxRecDepth 20000 in
theorem ggX10_miles_X10_refuse : GoodIn wsX10_miles wsX10_refuse := goodIn_r _ [9, 10, 17, 18, 19, 20, 21, 22, 23, 24, 25, 26, 27, 28, 29, 30, 31, 32] (by decide +kernel) (by decide +kernel)
set_option maxRecDepth 20000 in
theorem gX10_miles_X10_refuse : GoodIn wsX10_miles (wsV RX10 69 RX10 yX10_refuse wsX10_refuse) := goodIn_app (goodIn_of _ (by decide +kernel)) ggX10_miles_X10_refuse
set_option maxRecDepth 20000 in
theorem ggX10_miles_X7_join : GoodIn wsX10_miles wsX7_join := goodIn_r _ [15, 16, 33, 34] (by decide +kernel) (by decide +kernel)
set_option maxRecDepth 20000 in
theorem gX10_miles_X7_join : GoodIn wsX10_miles (wsV RX10 81 RX7 yX7_join wsX7_join) := goodIn_app (goodIn_of _ (by decide +kernel)) ggX10_miles_X7_join
theorem dX10_miles_0 : decode cX10_miles 0 = .ok (.iload_n 1, 1) := by decide +kernel
theorem dX10_miles_1 : decode cX10_miles 1 = .ok (.invokestatic 77, 3) := by decide +kernel
theorem dX10_miles_4 : decode cX10_miles 4 = .ok (.ifCond .eq 15, 3) := by decide +kernel
theorem dX10_miles_7 : decode cX10_miles 7 = .ok (.iload_n 2, 1) := by decide +kernel
theorem dX10_miles_8 : decode cX10_miles 8 = .ok (.invokestatic 77, 3) := by decide +kernel
theorem dX10_miles_11 : decode cX10_miles 11 = .ok (.ifCond .eq 8, 3) := by decide +kernel
theorem dX10_miles_14 : decode cX10_miles 14 = .ok (.iload_n 1, 1) := by decide +kernel
theorem dX10_miles_15 : decode cX10_miles 15 = .ok (.iload_n 2, 1) := by decide +kernel
theorem dX10_miles_16 : decode cX10_miles 16 = .ok (.if_icmp .ne 9, 3) := by decide +kernel
theorem dX10_miles_19 : decode cX10_miles 19 = .ok (.aload_n 0, 1) := by decide +kernel
theorem dX10_miles_20 : decode cX10_miles 20 = .ok (.iconst (-1), 1) := by decide +kernel
theorem dX10_miles_21 : decode cX10_miles 21 = .ok (.invokevirtual 69, 3) := by decide +kernel
theorem dX10_miles_24 : decode cX10_miles 24 = .ok (.ireturn, 1) := by decide +kernel
theorem dX10_miles_25 : decode cX10_miles 25 = .ok (.iload_n 3, 1) := by decide +kernel
theorem dX10_miles_26 : decode cX10_miles 26 = .ok (.ifCond .ge 10, 3) := by decide +kernel
theorem dX10_miles_29 : decode cX10_miles 29 = .ok (.aload_n 0, 1) := by decide +kernel
theorem dX10_miles_30 : decode cX10_miles 30 = .ok (.bipush (-4), 2) := by decide +kernel
theorem dX10_miles_32 : decode cX10_miles 32 = .ok (.invokevirtual 69, 3) := by decide +kernel
theorem dX10_miles_35 : decode cX10_miles 35 = .ok (.ireturn, 1) := by decide +kernel
theorem dX10_miles_36 : decode cX10_miles 36 = .ok (.iload_n 3, 1) := by decide +kernel
theorem dX10_miles_37 : decode cX10_miles 37 = .ok (.sipush 9999, 3) := by decide +kernel
theorem dX10_miles_40 : decode cX10_miles 40 = .ok (.if_icmp .le 10, 3) := by decide +kernel
theorem dX10_miles_43 : decode cX10_miles 43 = .ok (.aload_n 0, 1) := by decide +kernel
theorem dX10_miles_44 : decode cX10_miles 44 = .ok (.bipush (-6), 2) := by decide +kernel
theorem dX10_miles_46 : decode cX10_miles 46 = .ok (.invokevirtual 69, 3) := by decide +kernel
theorem dX10_miles_49 : decode cX10_miles 49 = .ok (.ireturn, 1) := by decide +kernel
theorem dX10_miles_50 : decode cX10_miles 50 = .ok (.aload_n 0, 1) := by decide +kernel
theorem dX10_miles_51 : decode cX10_miles 51 = .ok (.getfield 44, 3) := by decide +kernel
theorem dX10_miles_54 : decode cX10_miles 54 = .ok (.iload_n 1, 1) := by decide +kernel
theorem dX10_miles_55 : decode cX10_miles 55 = .ok (.iload_n 2, 1) := by decide +kernel
theorem dX10_miles_56 : decode cX10_miles 56 = .ok (.iload_n 3, 1) := by decide +kernel
theorem dX10_miles_57 : decode cX10_miles 57 = .ok (.invokevirtual 81, 3) := by decide +kernel
theorem dX10_miles_60 : decode cX10_miles 60 = .ok (.ireturn, 1) := by decide +kernel
set_option maxRecDepth 20000 in
theorem ggX10_man_X10_refuse : GoodIn wsX10_man wsX10_refuse := goodIn_r _ [12, 13, 50, 51, 52, 53, 54, 55, 56, 57, 58, 59, 60, 61, 62, 63, 64, 65] (by decide +kernel) (by decide +kernel)
set_option maxRecDepth 20000 in
theorem gX10_man_X10_refuse : GoodIn wsX10_man (wsV RX10 69 RX10 yX10_refuse wsX10_refuse) := goodIn_app (goodIn_of _ (by decide +kernel)) ggX10_man_X10_refuse
set_option maxRecDepth 20000 in
theorem ggX10_man_X6_init : GoodIn wsX10_man wsX6_init := goodIn_r _ [16, 17, 18, 19, 20, 21, 22, 23, 24, 25, 26, 66, 67, 68, 69, 70, 71] (by decide +kernel) (by decide +kernel)
set_option maxRecDepth 20000 in
theorem gX10_man_X6_init : GoodIn wsX10_man (wsX6_init) := ggX10_man_X6_init
set_option maxRecDepth 20000 in
theorem ggX10_man_X10_joinGroups : GoodIn wsX10_man wsX10_joinGroups := goodIn_r _ [30, 3, 4, 31, 32, 33, 34, 7, 35, 24, 23, 36, 37, 38, 39, 40, 41, 11, 42, 43, 44, 45, 46, 47, 48, 49, 50, 51, 52, 53, 54, 55, 56, 57, 58, 59, 60, 61, 62, 63, 64, 65, 66, 67, 68, 69, 70, 71] (by decide +kernel) (by decide +kernel)
set_option maxRecDepth 20000 in
theorem gX10_man_X10_joinGroups : GoodIn wsX10_man (wsV RX10 92 RX10 yX10_joinGroups wsX10_joinGroups) := goodIn_app (goodIn_of _ (by decide +kernel)) ggX10_man_X10_joinGroups
theorem dX10_man_0 : decode cX10_man 0 = .ok (.iload_n 1, 1) := by decide +kernel
theorem dX10_man_1 : decode cX10_man 1 = .ok (.ifCond .lt 14, 3) := by decide +kernel
theorem dX10_man_4 : decode cX10_man 4 = .ok (.iload_n 2, 1) := by decide +kernel
theorem dX10_man_5 : decode cX10_man 5 = .ok (.ifCond .lt 10, 3) := by decide +kernel
theorem dX10_man_8 : decode cX10_man 8 = .ok (.iload_n 3, 1) := by decide +kernel
theorem dX10_man_9 : decode cX10_man 9 = .ok (.sipush (-30000), 3) := by decide +kernel
theorem dX10_man_12 : decode cX10_man 12 = .ok (.if_icmp .ge 10, 3) := by decide +kernel
theorem dX10_man_15 : decode cX10_man 15 = .ok (.aload_n 0, 1) := by decide +kernel
theorem dX10_man_16 : decode cX10_man 16 = .ok (.bipush (-4), 2) := by decide +kernel
theorem dX10_man_18 : decode cX10_man 18 = .ok (.invokevirtual 69, 3) := by decide +kernel
theorem dX10_man_21 : decode cX10_man 21 = .ok (.ireturn, 1) := by decide +kernel
theorem dX10_man_22 : decode cX10_man 22 = .ok (.iload_n 1, 1) := by decide +kernel
theorem dX10_man_23 : decode cX10_man 23 = .ok (.sipush 9999, 3) := by decide +kernel
theorem dX10_man_26 : decode cX10_man 26 = .ok (.if_icmp .gt 26, 3) := by decide +kernel
theorem dX10_man_29 : decode cX10_man 29 = .ok (.iload_n 2, 1) := by decide +kernel
theorem dX10_man_30 : decode cX10_man 30 = .ok (.ldc 85, 2) := by decide +kernel
theorem dX10_man_32 : decode cX10_man 32 = .ok (.if_icmp .gt 20, 3) := by decide +kernel
theorem dX10_man_35 : decode cX10_man 35 = .ok (.iload_n 3, 1) := by decide +kernel
theorem dX10_man_36 : decode cX10_man 36 = .ok (.aload_n 0, 1) := by decide +kernel
theorem dX10_man_37 : decode cX10_man 37 = .ok (.getfield 73, 3) := by decide +kernel
theorem dX10_man_40 : decode cX10_man 40 = .ok (.if_icmp .gt 12, 3) := by decide +kernel
theorem dX10_man_43 : decode cX10_man 43 = .ok (.aload_n 0, 1) := by decide +kernel
theorem dX10_man_44 : decode cX10_man 44 = .ok (.getfield 86, 3) := by decide +kernel
theorem dX10_man_47 : decode cX10_man 47 = .ok (.bipush 40, 2) := by decide +kernel
theorem dX10_man_49 : decode cX10_man 49 = .ok (.if_icmp .lt 10, 3) := by decide +kernel
theorem dX10_man_52 : decode cX10_man 52 = .ok (.aload_n 0, 1) := by decide +kernel
theorem dX10_man_53 : decode cX10_man 53 = .ok (.bipush (-6), 2) := by decide +kernel
theorem dX10_man_55 : decode cX10_man 55 = .ok (.invokevirtual 69, 3) := by decide +kernel
theorem dX10_man_58 : decode cX10_man 58 = .ok (.ireturn, 1) := by decide +kernel
theorem dX10_man_59 : decode cX10_man 59 = .ok (.aload_n 0, 1) := by decide +kernel
theorem dX10_man_60 : decode cX10_man 60 = .ok (.getfield 11, 3) := by decide +kernel
theorem dX10_man_63 : decode cX10_man 63 = .ok (.aload_n 0, 1) := by decide +kernel
theorem dX10_man_64 : decode cX10_man 64 = .ok (.getfield 86, 3) := by decide +kernel
theorem dX10_man_67 : decode cX10_man 67 = .ok (.new 9, 3) := by decide +kernel
theorem dX10_man_70 : decode cX10_man 70 = .ok (.dup, 1) := by decide +kernel
theorem dX10_man_71 : decode cX10_man 71 = .ok (.aload_n 0, 1) := by decide +kernel
theorem dX10_man_72 : decode cX10_man 72 = .ok (.getfield 86, 3) := by decide +kernel
theorem dX10_man_75 : decode cX10_man 75 = .ok (.iload_n 1, 1) := by decide +kernel
theorem dX10_man_76 : decode cX10_man 76 = .ok (.iload_n 2, 1) := by decide +kernel
theorem dX10_man_77 : decode cX10_man 77 = .ok (.iload_n 3, 1) := by decide +kernel
theorem dX10_man_78 : decode cX10_man 78 = .ok (.invokespecial 89, 3) := by decide +kernel
theorem dX10_man_81 : decode cX10_man 81 = .ok (.aastore, 1) := by decide +kernel
theorem dX10_man_82 : decode cX10_man 82 = .ok (.aload_n 0, 1) := by decide +kernel
theorem dX10_man_83 : decode cX10_man 83 = .ok (.dup, 1) := by decide +kernel
theorem dX10_man_84 : decode cX10_man 84 = .ok (.getfield 86, 3) := by decide +kernel
theorem dX10_man_87 : decode cX10_man 87 = .ok (.iconst 1, 1) := by decide +kernel
theorem dX10_man_88 : decode cX10_man 88 = .ok (.iadd, 1) := by decide +kernel
theorem dX10_man_89 : decode cX10_man 89 = .ok (.putfield 86, 3) := by decide +kernel
theorem dX10_man_92 : decode cX10_man 92 = .ok (.aload_n 0, 1) := by decide +kernel
theorem dX10_man_93 : decode cX10_man 93 = .ok (.aload_n 0, 1) := by decide +kernel
theorem dX10_man_94 : decode cX10_man 94 = .ok (.getfield 11, 3) := by decide +kernel
theorem dX10_man_97 : decode cX10_man 97 = .ok (.aload_n 0, 1) := by decide +kernel
theorem dX10_man_98 : decode cX10_man 98 = .ok (.getfield 86, 3) := by decide +kernel
theorem dX10_man_101 : decode cX10_man 101 = .ok (.iconst 1, 1) := by decide +kernel
theorem dX10_man_102 : decode cX10_man 102 = .ok (.isub, 1) := by decide +kernel
theorem dX10_man_103 : decode cX10_man 103 = .ok (.aaload, 1) := by decide +kernel
theorem dX10_man_104 : decode cX10_man 104 = .ok (.invokevirtual 92, 3) := by decide +kernel
theorem dX10_man_107 : decode cX10_man 107 = .ok (.aload_n 0, 1) := by decide +kernel
theorem dX10_man_108 : decode cX10_man 108 = .ok (.getfield 86, 3) := by decide +kernel
theorem dX10_man_111 : decode cX10_man 111 = .ok (.iconst 1, 1) := by decide +kernel
theorem dX10_man_112 : decode cX10_man 112 = .ok (.isub, 1) := by decide +kernel
theorem dX10_man_113 : decode cX10_man 113 = .ok (.ireturn, 1) := by decide +kernel
set_option maxRecDepth 20000 in
theorem ggX10_voyage_X10_isPort : GoodIn wsX10_voyage wsX10_isPort := goodIn_r _ [10] (by decide +kernel) (by decide +kernel)
set_option maxRecDepth 20000 in
theorem gX10_voyage_X10_isPort : GoodIn wsX10_voyage (va_wsS RX10 77 yX10_isPort wsX10_isPort) := goodIn_app (goodIn_of _ (by decide +kernel)) ggX10_voyage_X10_isPort
set_option maxRecDepth 20000 in
theorem ggX10_voyage_X10_refuse : GoodIn wsX10_voyage wsX10_refuse := goodIn_r _ [14, 15, 37, 38, 39, 40, 41, 42, 43, 44, 45, 46, 47, 48, 49, 50, 51, 52] (by decide +kernel) (by decide +kernel)
set_option maxRecDepth 20000 in
theorem gX10_voyage_X10_refuse : GoodIn wsX10_voyage (wsV RX10 69 RX10 yX10_refuse wsX10_refuse) := goodIn_app (goodIn_of _ (by decide +kernel)) ggX10_voyage_X10_refuse
set_option maxRecDepth 20000 in
theorem ggX10_voyage_X10_hasVoyage : GoodIn wsX10_voyage wsX10_hasVoyage := goodIn_r _ [19, 1, 2, 20, 21, 37, 38, 39, 40, 41, 42, 43, 44, 45, 46, 47, 48, 49, 50, 51, 52, 53, 54, 55, 56, 57, 58, 59, 60, 61, 62] (by decide +kernel) (by decide +kernel)
set_option maxRecDepth 20000 in
theorem gX10_voyage_X10_hasVoyage : GoodIn wsX10_voyage (wsV RX10 96 RX10 yX10_hasVoyage wsX10_hasVoyage) := goodIn_app (goodIn_of _ (by decide +kernel)) ggX10_voyage_X10_hasVoyage
set_option maxRecDepth 20000 in
theorem ggX10_voyage_X9_init : GoodIn wsX10_voyage wsX9_init := goodIn_r _ [24, 25, 26, 27, 28, 29, 30, 31, 32, 33, 34, 35, 36, 53, 54, 55, 56, 57, 58, 59, 60, 61, 62] (by decide +kernel) (by decide +kernel)
set_option maxRecDepth 20000 in
theorem gX10_voyage_X9_init : GoodIn wsX10_voyage (wsX9_init) := ggX10_voyage_X9_init
theorem dX10_voyage_0 : decode cX10_voyage 0 = .ok (.iload_n 1, 1) := by decide +kernel
theorem dX10_voyage_1 : decode cX10_voyage 1 = .ok (.ifCond .lt 16, 3) := by decide +kernel
theorem dX10_voyage_4 : decode cX10_voyage 4 = .ok (.iload_n 1, 1) := by decide +kernel
theorem dX10_voyage_5 : decode cX10_voyage 5 = .ok (.bipush 10, 2) := by decide +kernel
theorem dX10_voyage_7 : decode cX10_voyage 7 = .ok (.if_icmp .ge 10, 3) := by decide +kernel
theorem dX10_voyage_10 : decode cX10_voyage 10 = .ok (.iload_n 2, 1) := by decide +kernel
theorem dX10_voyage_11 : decode cX10_voyage 11 = .ok (.invokestatic 77, 3) := by decide +kernel
theorem dX10_voyage_14 : decode cX10_voyage 14 = .ok (.ifCond .ne 9, 3) := by decide +kernel
theorem dX10_voyage_17 : decode cX10_voyage 17 = .ok (.aload_n 0, 1) := by decide +kernel
theorem dX10_voyage_18 : decode cX10_voyage 18 = .ok (.iconst (-1), 1) := by decide +kernel
theorem dX10_voyage_19 : decode cX10_voyage 19 = .ok (.invokevirtual 69, 3) := by decide +kernel
theorem dX10_voyage_22 : decode cX10_voyage 22 = .ok (.ireturn, 1) := by decide +kernel
theorem dX10_voyage_23 : decode cX10_voyage 23 = .ok (.aload_n 0, 1) := by decide +kernel
theorem dX10_voyage_24 : decode cX10_voyage 24 = .ok (.iload_n 1, 1) := by decide +kernel
theorem dX10_voyage_25 : decode cX10_voyage 25 = .ok (.invokevirtual 96, 3) := by decide +kernel
theorem dX10_voyage_28 : decode cX10_voyage 28 = .ok (.ifCond .eq 10, 3) := by decide +kernel
theorem dX10_voyage_38 : decode cX10_voyage 38 = .ok (.aload_n 0, 1) := by decide +kernel
theorem dX10_voyage_39 : decode cX10_voyage 39 = .ok (.getfield 99, 3) := by decide +kernel
theorem dX10_voyage_42 : decode cX10_voyage 42 = .ok (.bipush 20, 2) := by decide +kernel
theorem dX10_voyage_44 : decode cX10_voyage 44 = .ok (.if_icmp .lt 10, 3) := by decide +kernel
theorem dX10_voyage_54 : decode cX10_voyage 54 = .ok (.aload_n 0, 1) := by decide +kernel
theorem dX10_voyage_55 : decode cX10_voyage 55 = .ok (.getfield 17, 3) := by decide +kernel
theorem dX10_voyage_58 : decode cX10_voyage 58 = .ok (.aload_n 0, 1) := by decide +kernel
theorem dX10_voyage_59 : decode cX10_voyage 59 = .ok (.getfield 99, 3) := by decide +kernel
theorem dX10_voyage_62 : decode cX10_voyage 62 = .ok (.new 15, 3) := by decide +kernel
theorem dX10_voyage_65 : decode cX10_voyage 65 = .ok (.dup, 1) := by decide +kernel
theorem dX10_voyage_66 : decode cX10_voyage 66 = .ok (.aload_n 0, 1) := by decide +kernel
theorem dX10_voyage_67 : decode cX10_voyage 67 = .ok (.getfield 99, 3) := by decide +kernel
theorem dX10_voyage_70 : decode cX10_voyage 70 = .ok (.iload_n 1, 1) := by decide +kernel
theorem dX10_voyage_71 : decode cX10_voyage 71 = .ok (.iload_n 2, 1) := by decide +kernel
theorem dX10_voyage_72 : decode cX10_voyage 72 = .ok (.aload_n 0, 1) := by decide +kernel
theorem dX10_voyage_73 : decode cX10_voyage 73 = .ok (.getfield 73, 3) := by decide +kernel
theorem dX10_voyage_76 : decode cX10_voyage 76 = .ok (.invokespecial 102, 3) := by decide +kernel
theorem dX10_voyage_79 : decode cX10_voyage 79 = .ok (.aastore, 1) := by decide +kernel
theorem dX10_voyage_80 : decode cX10_voyage 80 = .ok (.aload_n 0, 1) := by decide +kernel
theorem dX10_voyage_81 : decode cX10_voyage 81 = .ok (.dup, 1) := by decide +kernel
theorem dX10_voyage_82 : decode cX10_voyage 82 = .ok (.getfield 99, 3) := by decide +kernel
theorem dX10_voyage_85 : decode cX10_voyage 85 = .ok (.iconst 1, 1) := by decide +kernel
theorem dX10_voyage_86 : decode cX10_voyage 86 = .ok (.iadd, 1) := by decide +kernel
theorem dX10_voyage_87 : decode cX10_voyage 87 = .ok (.putfield 99, 3) := by decide +kernel
theorem dX10_voyage_90 : decode cX10_voyage 90 = .ok (.aload_n 0, 1) := by decide +kernel
theorem dX10_voyage_91 : decode cX10_voyage 91 = .ok (.getfield 99, 3) := by decide +kernel
theorem dX10_voyage_94 : decode cX10_voyage 94 = .ok (.iconst 1, 1) := by decide +kernel
theorem dX10_voyage_95 : decode cX10_voyage 95 = .ok (.isub, 1) := by decide +kernel
theorem dX10_voyage_96 : decode cX10_voyage 96 = .ok (.ireturn, 1) := by decide +kernel
theorem dX10_put_0 : decode cX10_put 0 = .ok (.aload_n 0, 1) := by decide +kernel
theorem dX10_put_1 : decode cX10_put 1 = .ok (.getfield 353, 3) := by decide +kernel
theorem dX10_put_4 : decode cX10_put 4 = .ok (.bipush 12, 2) := by decide +kernel
theorem dX10_put_6 : decode cX10_put 6 = .ok (.if_icmp .lt 10, 3) := by decide +kernel
theorem dX10_put_16 : decode cX10_put 16 = .ok (.aload_n 0, 1) := by decide +kernel
theorem dX10_put_17 : decode cX10_put 17 = .ok (.getfield 63, 3) := by decide +kernel
theorem dX10_put_20 : decode cX10_put 20 = .ok (.aload_n 0, 1) := by decide +kernel
theorem dX10_put_21 : decode cX10_put 21 = .ok (.getfield 353, 3) := by decide +kernel
theorem dX10_put_24 : decode cX10_put 24 = .ok (.iload_n 1, 1) := by decide +kernel
theorem dX10_put_25 : decode cX10_put 25 = .ok (.iastore, 1) := by decide +kernel
theorem dX10_put_26 : decode cX10_put 26 = .ok (.aload_n 0, 1) := by decide +kernel
theorem dX10_put_27 : decode cX10_put 27 = .ok (.dup, 1) := by decide +kernel
theorem dX10_put_28 : decode cX10_put 28 = .ok (.getfield 353, 3) := by decide +kernel
theorem dX10_put_31 : decode cX10_put 31 = .ok (.iconst 1, 1) := by decide +kernel
theorem dX10_put_32 : decode cX10_put 32 = .ok (.iadd, 1) := by decide +kernel
theorem dX10_put_33 : decode cX10_put 33 = .ok (.putfield 353, 3) := by decide +kernel
theorem dX10_put_36 : decode cX10_put 36 = .ok (.aload_n 0, 1) := by decide +kernel
theorem dX10_put_37 : decode cX10_put 37 = .ok (.getfield 353, 3) := by decide +kernel
theorem dX10_put_40 : decode cX10_put 40 = .ok (.ireturn, 1) := by decide +kernel
theorem dX10_isPort_0 : decode cX10_isPort 0 = .ok (.iload_n 0, 1) := by decide +kernel
theorem dX10_isPort_1 : decode cX10_isPort 1 = .ok (.ifCond .lt 13, 3) := by decide +kernel
theorem dX10_isPort_4 : decode cX10_isPort 4 = .ok (.iload_n 0, 1) := by decide +kernel
theorem dX10_isPort_5 : decode cX10_isPort 5 = .ok (.bipush 10, 2) := by decide +kernel
theorem dX10_isPort_7 : decode cX10_isPort 7 = .ok (.if_icmp .ge 7, 3) := by decide +kernel
theorem dX10_isPort_10 : decode cX10_isPort 10 = .ok (.iconst 1, 1) := by decide +kernel
theorem dX10_isPort_11 : decode cX10_isPort 11 = .ok (.goto 4, 3) := by decide +kernel
theorem dX10_isPort_14 : decode cX10_isPort 14 = .ok (.iconst 0, 1) := by decide +kernel
theorem dX10_isPort_15 : decode cX10_isPort 15 = .ok (.ireturn, 1) := by decide +kernel
set_option maxRecDepth 20000 in
theorem ggX10_joinGroups_X6_isAlike : GoodIn wsX10_joinGroups wsX6_isAlike := goodIn_r _ [8, 9, 10, 11, 12, 7, 13, 42, 43, 44, 45, 46, 47] (by decide +kernel) (by decide +kernel)
set_option maxRecDepth 20000 in
theorem gX10_joinGroups_X6_isAlike : GoodIn wsX10_joinGroups (wsV RX10 371 RX6 yX6_isAlike wsX6_isAlike) := goodIn_app (goodIn_of _ (by decide +kernel)) ggX10_joinGroups_X6_isAlike
set_option maxRecDepth 20000 in
theorem ggX10_joinGroups_X10_mergeGroups : GoodIn wsX10_joinGroups wsX10_mergeGroups := goodIn_r _ [18, 19, 20, 21, 22, 23, 24, 25, 1, 2, 3, 26, 27, 28, 29, 30, 31, 32, 33, 34, 35, 36, 37, 38, 39, 40, 41, 42, 43, 44, 45, 46, 47] (by decide +kernel) (by decide +kernel)
set_option maxRecDepth 20000 in
theorem gX10_joinGroups_X10_mergeGroups : GoodIn wsX10_joinGroups (wsV RX10 374 RX10 yX10_mergeGroups wsX10_mergeGroups) := goodIn_app (goodIn_of _ (by decide +kernel)) ggX10_joinGroups_X10_mergeGroups
theorem dX10_joinGroups_0 : decode cX10_joinGroups 0 = .ok (.iconst 0, 1) := by decide +kernel
theorem dX10_joinGroups_1 : decode cX10_joinGroups 1 = .ok (.istore_n 2, 1) := by decide +kernel
theorem dX10_joinGroups_2 : decode cX10_joinGroups 2 = .ok (.iload_n 2, 1) := by decide +kernel
theorem dX10_joinGroups_3 : decode cX10_joinGroups 3 = .ok (.aload_n 0, 1) := by decide +kernel
theorem dX10_joinGroups_4 : decode cX10_joinGroups 4 = .ok (.getfield 86, 3) := by decide +kernel
theorem dX10_joinGroups_7 : decode cX10_joinGroups 7 = .ok (.if_icmp .ge 39, 3) := by decide +kernel
theorem dX10_joinGroups_10 : decode cX10_joinGroups 10 = .ok (.aload_n 1, 1) := by decide +kernel
theorem dX10_joinGroups_11 : decode cX10_joinGroups 11 = .ok (.aload_n 0, 1) := by decide +kernel
theorem dX10_joinGroups_12 : decode cX10_joinGroups 12 = .ok (.getfield 11, 3) := by decide +kernel
theorem dX10_joinGroups_15 : decode cX10_joinGroups 15 = .ok (.iload_n 2, 1) := by decide +kernel
theorem dX10_joinGroups_16 : decode cX10_joinGroups 16 = .ok (.aaload, 1) := by decide +kernel
theorem dX10_joinGroups_17 : decode cX10_joinGroups 17 = .ok (.invokevirtual 371, 3) := by decide +kernel
theorem dX10_joinGroups_20 : decode cX10_joinGroups 20 = .ok (.ifCond .eq 20, 3) := by decide +kernel
theorem dX10_joinGroups_23 : decode cX10_joinGroups 23 = .ok (.aload_n 0, 1) := by decide +kernel
theorem dX10_joinGroups_24 : decode cX10_joinGroups 24 = .ok (.aload_n 1, 1) := by decide +kernel
theorem dX10_joinGroups_25 : decode cX10_joinGroups 25 = .ok (.getfield 311, 3) := by decide +kernel
theorem dX10_joinGroups_28 : decode cX10_joinGroups 28 = .ok (.aload_n 0, 1) := by decide +kernel
theorem dX10_joinGroups_29 : decode cX10_joinGroups 29 = .ok (.getfield 11, 3) := by decide +kernel
theorem dX10_joinGroups_32 : decode cX10_joinGroups 32 = .ok (.iload_n 2, 1) := by decide +kernel
theorem dX10_joinGroups_33 : decode cX10_joinGroups 33 = .ok (.aaload, 1) := by decide +kernel
theorem dX10_joinGroups_34 : decode cX10_joinGroups 34 = .ok (.getfield 311, 3) := by decide +kernel
theorem dX10_joinGroups_37 : decode cX10_joinGroups 37 = .ok (.invokevirtual 374, 3) := by decide +kernel
theorem dX10_joinGroups_40 : decode cX10_joinGroups 40 = .ok (.iinc 2 1, 3) := by decide +kernel
theorem dX10_joinGroups_43 : decode cX10_joinGroups 43 = .ok (.goto (-41), 3) := by decide +kernel
theorem dX10_joinGroups_46 : decode cX10_joinGroups 46 = .ok (.return_, 1) := by decide +kernel
theorem dX10_mergeGroups_0 : decode cX10_mergeGroups 0 = .ok (.iload_n 1, 1) := by decide +kernel
theorem dX10_mergeGroups_1 : decode cX10_mergeGroups 1 = .ok (.iload_n 2, 1) := by decide +kernel
theorem dX10_mergeGroups_2 : decode cX10_mergeGroups 2 = .ok (.invokestatic 378, 3) := by decide +kernel
theorem dX10_mergeGroups_5 : decode cX10_mergeGroups 5 = .ok (.istore_n 3, 1) := by decide +kernel
theorem dX10_mergeGroups_6 : decode cX10_mergeGroups 6 = .ok (.iload_n 1, 1) := by decide +kernel
theorem dX10_mergeGroups_7 : decode cX10_mergeGroups 7 = .ok (.iload_n 2, 1) := by decide +kernel
theorem dX10_mergeGroups_8 : decode cX10_mergeGroups 8 = .ok (.invokestatic 383, 3) := by decide +kernel
theorem dX10_mergeGroups_11 : decode cX10_mergeGroups 11 = .ok (.istore 4, 2) := by decide +kernel
theorem dX10_mergeGroups_13 : decode cX10_mergeGroups 13 = .ok (.iconst 0, 1) := by decide +kernel
theorem dX10_mergeGroups_14 : decode cX10_mergeGroups 14 = .ok (.istore 5, 2) := by decide +kernel
theorem dX10_mergeGroups_16 : decode cX10_mergeGroups 16 = .ok (.iload 5, 2) := by decide +kernel
theorem dX10_mergeGroups_18 : decode cX10_mergeGroups 18 = .ok (.aload_n 0, 1) := by decide +kernel
theorem dX10_mergeGroups_19 : decode cX10_mergeGroups 19 = .ok (.getfield 86, 3) := by decide +kernel
theorem dX10_mergeGroups_22 : decode cX10_mergeGroups 22 = .ok (.if_icmp .ge 35, 3) := by decide +kernel
theorem dX10_mergeGroups_25 : decode cX10_mergeGroups 25 = .ok (.aload_n 0, 1) := by decide +kernel
theorem dX10_mergeGroups_26 : decode cX10_mergeGroups 26 = .ok (.getfield 11, 3) := by decide +kernel
theorem dX10_mergeGroups_29 : decode cX10_mergeGroups 29 = .ok (.iload 5, 2) := by decide +kernel
theorem dX10_mergeGroups_31 : decode cX10_mergeGroups 31 = .ok (.aaload, 1) := by decide +kernel
theorem dX10_mergeGroups_32 : decode cX10_mergeGroups 32 = .ok (.getfield 311, 3) := by decide +kernel
theorem dX10_mergeGroups_35 : decode cX10_mergeGroups 35 = .ok (.iload 4, 2) := by decide +kernel
theorem dX10_mergeGroups_37 : decode cX10_mergeGroups 37 = .ok (.if_icmp .ne 14, 3) := by decide +kernel
theorem dX10_mergeGroups_40 : decode cX10_mergeGroups 40 = .ok (.aload_n 0, 1) := by decide +kernel
theorem dX10_mergeGroups_41 : decode cX10_mergeGroups 41 = .ok (.getfield 11, 3) := by decide +kernel
theorem dX10_mergeGroups_44 : decode cX10_mergeGroups 44 = .ok (.iload 5, 2) := by decide +kernel
theorem dX10_mergeGroups_46 : decode cX10_mergeGroups 46 = .ok (.aaload, 1) := by decide +kernel
theorem dX10_mergeGroups_47 : decode cX10_mergeGroups 47 = .ok (.iload_n 3, 1) := by decide +kernel
theorem dX10_mergeGroups_48 : decode cX10_mergeGroups 48 = .ok (.putfield 311, 3) := by decide +kernel
theorem dX10_mergeGroups_51 : decode cX10_mergeGroups 51 = .ok (.iinc 5 1, 3) := by decide +kernel
theorem dX10_mergeGroups_54 : decode cX10_mergeGroups 54 = .ok (.goto (-38), 3) := by decide +kernel
theorem dX10_mergeGroups_57 : decode cX10_mergeGroups 57 = .ok (.return_, 1) := by decide +kernel
theorem dX10_hasVoyage_0 : decode cX10_hasVoyage 0 = .ok (.iconst 0, 1) := by decide +kernel
theorem dX10_hasVoyage_1 : decode cX10_hasVoyage 1 = .ok (.istore_n 2, 1) := by decide +kernel
theorem dX10_hasVoyage_2 : decode cX10_hasVoyage 2 = .ok (.iload_n 2, 1) := by decide +kernel
theorem dX10_hasVoyage_3 : decode cX10_hasVoyage 3 = .ok (.aload_n 0, 1) := by decide +kernel
theorem dX10_hasVoyage_4 : decode cX10_hasVoyage 4 = .ok (.getfield 99, 3) := by decide +kernel
theorem dX10_hasVoyage_7 : decode cX10_hasVoyage 7 = .ok (.if_icmp .ge 36, 3) := by decide +kernel
theorem dX10_hasVoyage_43 : decode cX10_hasVoyage 43 = .ok (.iconst 0, 1) := by decide +kernel
theorem dX10_hasVoyage_44 : decode cX10_hasVoyage 44 = .ok (.ireturn, 1) := by decide +kernel
theorem in_wsX10_days_X10 : ∀ w ∈ wsX100, w ∈ wsX10_days := fun w h => List.mem_cons_of_mem _ (List.mem_append_right _ h)
theorem in_wsX7_join_X7 : ∀ w ∈ wsX70, w ∈ wsX7_join := fun w h => List.mem_cons_of_mem _ (List.mem_append_right _ h)
theorem in_wsX10_miles_X10 : ∀ w ∈ wsX100, w ∈ wsX10_miles := fun w h => List.mem_cons_of_mem _ (List.mem_append_left _ (List.mem_append_right _ h))
theorem in_wsX6_init_X6 : ∀ w ∈ wsX60, w ∈ wsX6_init := fun w h => List.mem_cons_of_mem _ (List.mem_append_right _ h)
theorem in_wsX6_isAlike_X6 : ∀ w ∈ wsX60, w ∈ wsX6_isAlike := fun w h => List.mem_cons_of_mem _ (List.mem_append_right _ h)
theorem in_wsX10_mergeGroups_X10 : ∀ w ∈ wsX100, w ∈ wsX10_mergeGroups := fun w h => List.mem_cons_of_mem _ (List.mem_append_left _ (List.mem_append_right _ h))
theorem in_wsX10_mergeGroups_X6 : ∀ w ∈ wsX60, w ∈ wsX10_mergeGroups := fun w h => List.mem_cons_of_mem _ (List.mem_append_right _ h)
theorem in_wsX10_joinGroups_X10 : ∀ w ∈ wsX100, w ∈ wsX10_joinGroups := fun w h => List.mem_cons_of_mem _ (List.mem_append_left _ (List.mem_append_right _ h))
theorem in_wsX10_joinGroups_X6 : ∀ w ∈ wsX60, w ∈ wsX10_joinGroups := fun w h => List.mem_cons_of_mem _ (List.mem_append_right _ h)
theorem in_wsX10_man_X10 : ∀ w ∈ wsX100, w ∈ wsX10_man := fun w h => List.mem_cons_of_mem _ (List.mem_append_left _ (List.mem_append_right _ h))
theorem in_wsX10_man_X6 : ∀ w ∈ wsX60, w ∈ wsX10_man := fun w h => List.mem_cons_of_mem _ (List.mem_append_right _ h)
theorem in_wsX10_hasVoyage_X10 : ∀ w ∈ wsX100, w ∈ wsX10_hasVoyage := fun w h => List.mem_cons_of_mem _ (List.mem_append_left _ (List.mem_append_right _ h))
theorem in_wsX9_init_X9 : ∀ w ∈ wsX90, w ∈ wsX9_init := fun w h => List.mem_cons_of_mem _ (List.mem_append_right _ h)
theorem in_wsX10_voyage_X10 : ∀ w ∈ wsX100, w ∈ wsX10_voyage := fun w h => List.mem_cons_of_mem _ (List.mem_append_left _ (List.mem_append_right _ h))
theorem in_wsX10_voyage_X9 : ∀ w ∈ wsX90, w ∈ wsX10_voyage := fun w h => List.mem_cons_of_mem _ (List.mem_append_right _ h)
theorem in_wsX10_put_X10 : ∀ w ∈ wsX100, w ∈ wsX10_put := fun w h => List.mem_cons_of_mem _ (List.mem_append_right _ h)
theorem in_obj_wsX6_init : Cond.code objectInit ⟨#[0xb1]⟩ 1 none ∈ wsX6_init := List.mem_of_getElem? (i := 3) rfl
theorem in_obj_wsX9_init : Cond.code objectInit ⟨#[0xb1]⟩ 1 none ∈ wsX9_init := List.mem_of_getElem? (i := 3) rfl
theorem i_lt (a b : Int32) : a < b ↔ a.toInt < b.toInt := Int32.lt_iff_toInt_lt
theorem i_le (a b : Int32) : a ≤ b ↔ a.toInt ≤ b.toInt := Int32.le_iff_toInt_le
theorem feq {n a b : Int32} (h : ¬ n ≤ a) (h2 : n ≤ b) (h3 : b.toInt = a.toInt + 1) : n = b := by
  rw [i_le] at h h2
  exact Int32.toInt_inj.mp (by omega)
theorem ile_of_nlt {n a b : Int32} (h : ¬ a < n) (h3 : a.toInt ≤ b.toInt) : n ≤ b := by
  rw [i_lt] at h
  rw [i_le]
  omega
theorem nle_of_le {n a b : Int32} (h : a ≤ n) (h3 : b.toInt < a.toInt) : ¬ n ≤ b := by
  rw [i_le] at h
  rw [i_le]
  omega
theorem isI_lt {v : Int32} (n : Int32) (h : v < 0) : isI v n = 0 := by simp [isI, h]
theorem isI_ge {v n : Int32} (h : n ≤ v) : isI v n = 0 := by
  unfold isI
  split
  · rfl
  · simp [h]
theorem isI_in {v n : Int32} (h : ¬ v < 0) (h2 : ¬ n ≤ v) : isI v n = 1 := by simp [isI, h, h2]
theorem isI_nz {v n : Int32} (h : ¬ isI v n = 0) : 0 ≤ v.toInt ∧ v.toInt < n.toInt := by
  unfold isI at h
  split at h
  · exact absurd rfl h
  · rename_i h1
    split at h
    · exact absurd rfl h
    · rename_i h2
      rw [i_lt] at h1
      rw [i_le] at h2
      exact ⟨by have : (0 : Int32).toInt = 0 := by decide
                omega, by omega⟩
theorem ten_of {v : Int32} (h : ¬ isI v 10 = 0) : ∃ j : Nat, j < 10 ∧ v = nI j := by
  have h1 := isI_nz h
  have h2 : (10 : Int32).toInt = 10 := by decide
  exact vp_in_of (n := 10) (vp_in_iff.mpr ⟨h1.1, by omega⟩) (by decide)
theorem nI10 : (10 : Int32) = nI 10 := by decide
theorem mi_in {a b : Int32} (h : ¬ isI a 10 = 0) (h2 : ¬ isI b 10 = 0) : vp_in ((a * 10) + b) 100 := by
  obtain ⟨i, hi, rfl⟩ := ten_of h
  obtain ⟨j, hj, rfl⟩ := ten_of h2
  rw [nI10, pk_mul, nI_add]
  exact vp_in_nI (by omega) (by decide)
theorem mi_in2 {a b : Int32} (h : ¬ isI a 10 = 0) (h2 : ¬ isI b 10 = 0) : vp_in ((10 * a) + b) 100 := by
  obtain ⟨i, hi, rfl⟩ := ten_of h
  obtain ⟨j, hj, rfl⟩ := ten_of h2
  rw [nI10, pk_mul, nI_add]
  exact vp_in_nI (by omega) (by decide)
/-- the answers of the first call on a fresh object -/
def sp_days (n : Int32) : Int32 := if 1 ≤ n then (if n ≤ 3000 then n else -6) else -4
def sp_miles (a b v : Int32) : Int32 := if isI a 10 = 0 then -1 else if isI b 10 = 0 then -1 else if a = b then -1 else if 0 ≤ v then (if v ≤ 9999 then 0 else -6) else -4
def sp_man (a b d : Int32) : Int32 := if a < 0 then -4 else if b < 0 then -4 else if -30000 ≤ d then (if 9999 < a then -6 else if 99999 < b then -6 else if 0 < d then -6 else 0) else -4
def sp_voyage (a b : Int32) : Int32 := if isI a 10 = 0 then -1 else if isI b 10 = 0 then -1 else 0
def sp_feed (n : Int32) : Int32 := if 1 ≤ n then (if 8 < n then -6 else n) else -4
def sp_act (a d : Int32) : Int32 := if isI a 5 = 0 then -2 else if 0 ≤ d then (if 3000 < d then -6 else -20) else -4
def sp_count (w : Int32) : Int32 := if w < 0 then -9 else if 18 ≤ w then -9 else if w = 10 then -9 else 0
set_option maxHeartbeats 4000000 in
set_option maxRecDepth 100000 in
theorem c_X10_days (l : Launch) (dC : Nat → ClassId) (dI : Nat → Nat → Nat) (sz : Nat) (h0 : Nat) (q : Nat → Nat) (cq : Nat → ClassId) (a1 : Int32) : Met l yX10_days wsX10_days ({ frames := 1, cells := 0, slots := 0, locals := 21 }) (va_Pc [.ref h0, .int a1] (pcW (dC, dI) [((cq 15), .int)] [(h0, .inr (10, oF q)), ((q 15), .inl ((cq 15), 7, .inl (fun _ => 0)))] sz)) (va_Qi (fun (r : Int32) (u : Unit) => r = sp_days a1) (fun _ _ => True) (va_A [(h0, .inr (10, oF q)), ((q 15), .inl ((cq 15), 7, .inl (fun _ => 0)))] sz)) 0 0 (va_A [(h0, .inr (10, oF q)), ((q 15), .inl ((cq 15), 7, .inl (fun _ => 0)))] sz) := by
  refine Met.ofW (cc := cX10_days) (maxL := 2) (ret := (some .int)) (by decide) rfl ?_
  intro p e s m args below meth c s₁ B hml hv
  obtain ⟨rfl, hsz, hP, hK, hD0⟩ := hv
  have hx := B.exec
  have hb := B.bytes
  have hr := B.returns
  have hts := atoms_spec (ws := wsX10_days) B.pre
  have hown : s.vm.findClass RX10 = some m.cls := findClass_of_methodNamed B.named
  have hlocks := B.notSynchronized
  subst hsz
  have hD := hD0.self (sz := s.heap.size)
  generalize hAe : va_A [(h0, .inr (10, oF q)), ((q 15), .inl ((cq 15), 7, .inl (fun _ => 0)))] s.heap.size = A at hD ⊢
  have hA : ∀ q : Nat, s.heap.size ≤ q → A q := fun q h => by rw [← hAe]; exact Or.inr h
  have hS : va_S A s.heap s.heap [] := va_S.rf
  have hP : va_P (dC, dI) vwCl [(h0, .inr (10, oF q)), ((q 15), .inl ((cq 15), 7, .inl (fun _ => 0)))] s.heap := hP
  have hl := lv_entry ([.ref h0, .int a1]) (n := 2) (Nat.le_of_ble_eq_true rfl)
  rw [lg_entry_eq]
  generalize (lg_sl ([.ref h0, .int a1]) ++ List.replicate (2 - (lg_sl ([.ref h0, .int a1])).length) Slot.unset).toArray = ls at hl ⊢
  have hl : lv_has ls 2 [(0, .ref h0), (1, .int a1)] := hl
  refine lv_iload_n hx hb dX10_days_0 rfl (lv_at hl 1 rfl) ?_
  refine lv_iconst (v := 1) hx hb dX10_days_1 (by decide) ?_
  refine lv_icmp_ge (tgt := 12) hx hb dX10_days_2 (by decide) (fun c_1 => ?_) (fun c_1 => ?_)
  · refine lv_iload_n hx hb dX10_days_12 rfl (lv_at hl 1 rfl) ?_
    refine lv_sipush (v := 3000) hx hb dX10_days_13 (by decide) ?_
    refine lv_aload_n hx hb dX10_days_16 rfl (lv_at hl 0 rfl) ?_
    refine va_get (D := (dC, dI)) (ci := 10) (v := .int 0) (C := RX10) (T := TX10) (N := 16) hx hb hts in_wsX10_days_X10 hown hK hP 0 rfl rfl 0 (by decide) (hts (.fieldLink RX10 73 "ShipOffice" "now" "I") (by decide +kernel)) (fun _ h9 => h9) rfl dX10_days_17 ?_
    refine lv_isub hx hb dX10_days_20 ?_
    refine lv_topi (fun y ey => ?_)
    obtain rfl : y = 3000 := ey.trans (by decide)
    refine lv_icmp_le (tgt := 31) hx hb dX10_days_21 (by decide) (fun c_2 => ?_) (fun c_2 => ?_)
    · refine lv_aload_n hx hb dX10_days_31 rfl (lv_at hl 0 rfl) ?_
      refine lv_dup hx hb dX10_days_32 rfl ?_
      refine va_get (D := (dC, dI)) (ci := 10) (v := .int 0) (C := RX10) (T := TX10) (N := 16) hx hb hts in_wsX10_days_X10 hown hK hP 0 rfl rfl 0 (by decide) (hts (.fieldLink RX10 73 "ShipOffice" "now" "I") (by decide +kernel)) (fun _ h9 => h9) rfl dX10_days_33 ?_
      refine lv_iload_n hx hb dX10_days_36 rfl (lv_at hl 1 rfl) ?_
      refine lv_iadd hx hb dX10_days_37 ?_
      refine va_put (D := (dC, dI)) (ci := 10) (v := .int (0 + a1)) (ty := .int) (C := RX10) (T := TX10) (N := 16) hx hb hts in_wsX10_days_X10 tyX10 tyX10_ok nmX10 hown hK hP hD hS 0 rfl rfl 0 (by decide) (hts (.fieldLink RX10 73 "ShipOffice" "now" "I") (by decide +kernel)) (fun _ h9 => h9) rfl (by decide +kernel) rfl rfl (Nat.le_of_ble_eq_true rfl) dX10_days_38 (fun H locs hP hD hS => ?_)
      have hP : va_P (dC, dI) vwCl [(h0, .inr (10, ((oF q).set 0 (.int (0 + a1))))), ((q 15), .inl ((cq 15), 7, .inl (fun _ => 0)))] H := hP
      have hD : va_D A [(h0, .inr (10, ((oF q).set 0 (.int (0 + a1))))), ((q 15), .inl ((cq 15), 7, .inl (fun _ => 0)))] := hD
      refine lv_aload_n hx hb dX10_days_41 rfl (lv_at hl 0 rfl) ?_
      refine va_get (D := (dC, dI)) (ci := 10) (v := .int (0 + a1)) (C := RX10) (T := TX10) (N := 16) hx hb hts in_wsX10_days_X10 hown hK hP 0 rfl rfl 0 (by decide) (hts (.fieldLink RX10 73 "ShipOffice" "now" "I") (by decide +kernel)) (fun _ h9 => h9) rfl dX10_days_42 ?_
      exact W.iret (v := (0 + a1)) hx hb hr (fun t ht hW => ⟨⟨(0 + a1), (), rfl, (by simp [sp_days, c_1, c_2]), trivial⟩, hS.F ht⟩) hS.2.2 dX10_days_45
    · refine lv_aload_n hx hb dX10_days_24 rfl (lv_at hl 0 rfl) ?_
      refine lv_bipush (v := (-6)) hx hb dX10_days_25 (by decide) ?_
      have hPc := hP.sub (ws' := [(h0, .inr (10, oF q)), ((q 15), .inl ((cq 15), 7, .inl (fun _ => 0)))]) [0, 1] rfl
      have hDc := hD.sub (ws' := [(h0, .inr (10, oF q)), ((q 15), .inl ((cq 15), 7, .inl (fun _ => 0)))]) [0, 1] (by decide) rfl
      have hKc := hK.sub (tys' := [((cq 15), .int)]) [0] rfl
      have hFc := va_free (wc := [(h0, .inr (10, oF q)), ((q 15), .inl ((cq 15), 7, .inl (fun _ => 0)))]) hD hS hA [0, 1] rfl
      refine va_calli (va_runV (As := [.int (-6)]) (rest := []) ⟨hx, hb, hml, hown, hts⟩ (c_X10_refuse l dC dI s.heap.size h0 q cq (-6) (by unfold vp_in; decide)) (cwV 1 hts gX10_days_X10_refuse rfl rfl rfl (by decide +kernel) ⟨(Nat.le_of_ble_eq_true rfl), (Nat.le_of_ble_eq_true rfl)⟩) (pr_V (r := (RX10, TX10, 16)) hPc hKc hDc 0 10 rfl rfl) rfl rfl hl.1 rfl (lv_room (Nat.le_of_ble_eq_true rfl)) dX10_days_27 ⟨(Nat.le_of_ble_eq_true rfl), (Nat.le_of_ble_eq_true rfl)⟩) hS (fun q _ h => hFc q h) hFc (fun r_4 u t H locs ht hvm w_3 hB hz1 hk1 hS => ?_)
      subst w_3
      exact W.iret (v := (-6)) hx hb hr (fun t ht hW => ⟨⟨(-6), (), rfl, (by simp [sp_days, c_1, c_2]), trivial⟩, hS.F ht⟩) hS.2.2 dX10_days_30
  · refine lv_aload_n hx hb dX10_days_5 rfl (lv_at hl 0 rfl) ?_
    refine lv_bipush (v := (-4)) hx hb dX10_days_6 (by decide) ?_
    have hPc := hP.sub (ws' := [(h0, .inr (10, oF q)), ((q 15), .inl ((cq 15), 7, .inl (fun _ => 0)))]) [0, 1] rfl
    have hDc := hD.sub (ws' := [(h0, .inr (10, oF q)), ((q 15), .inl ((cq 15), 7, .inl (fun _ => 0)))]) [0, 1] (by decide) rfl
    have hKc := hK.sub (tys' := [((cq 15), .int)]) [0] rfl
    have hFc := va_free (wc := [(h0, .inr (10, oF q)), ((q 15), .inl ((cq 15), 7, .inl (fun _ => 0)))]) hD hS hA [0, 1] rfl
    refine va_calli (va_runV (As := [.int (-4)]) (rest := []) ⟨hx, hb, hml, hown, hts⟩ (c_X10_refuse l dC dI s.heap.size h0 q cq (-4) (by unfold vp_in; decide)) (cwV 1 hts gX10_days_X10_refuse rfl rfl rfl (by decide +kernel) ⟨(Nat.le_of_ble_eq_true rfl), (Nat.le_of_ble_eq_true rfl)⟩) (pr_V (r := (RX10, TX10, 16)) hPc hKc hDc 0 10 rfl rfl) rfl rfl hl.1 rfl (lv_room (Nat.le_of_ble_eq_true rfl)) dX10_days_8 ⟨(Nat.le_of_ble_eq_true rfl), (Nat.le_of_ble_eq_true rfl)⟩) hS (fun q _ h => hFc q h) hFc (fun r_6 u t H locs ht hvm w_5 hB hz1 hk1 hS => ?_)
    subst w_5
    exact W.iret (v := (-4)) hx hb hr (fun t ht hW => ⟨⟨(-4), (), rfl, (by simp [sp_days, c_1]), trivial⟩, hS.F ht⟩) hS.2.2 dX10_days_11
set_option maxHeartbeats 4000000 in
set_option maxRecDepth 100000 in
theorem c_X10_isPort (l : Launch) (dC : Nat → ClassId) (dI : Nat → Nat → Nat) (sz : Nat) (n : Int32) : Met l yX10_isPort wsX10_isPort ({ frames := 0, cells := 0, slots := 0, locals := 0 }) (va_Pc [.int n] (pcW (dC, dI) [] [] sz)) (va_Qi (fun (r : Int32) (u : Unit) => r = isI n 10) (fun _ _ => True) (va_A [] sz)) 0 0 (va_A [] sz) := by
  refine Met.ofW (cc := cX10_isPort) (maxL := 1) (ret := (some .boolean)) (by decide) rfl ?_
  intro p e s m args below meth c s₁ B hml hv
  obtain ⟨rfl, hsz, hP, hK, hD0⟩ := hv
  have hx := B.exec
  have hb := B.bytes
  have hr := B.returns
  have hts := atoms_spec (ws := wsX10_isPort) B.pre
  have hown : s.vm.findClass RX10 = some m.cls := findClass_of_methodNamed B.named
  have hlocks := B.notSynchronized
  subst hsz
  have hD := hD0
  generalize hAe : va_A [] s.heap.size = A at ⊢
  have hA : ∀ q : Nat, s.heap.size ≤ q → A q := fun q h => by rw [← hAe]; exact Or.inr h
  have hS : va_S A s.heap s.heap [] := va_S.rf
  have hP : va_P (dC, dI) vwCl [] s.heap := hP
  have hl := lv_entry ([.int n]) (n := 1) (Nat.le_of_ble_eq_true rfl)
  rw [lg_entry_eq]
  generalize (lg_sl ([.int n]) ++ List.replicate (1 - (lg_sl ([.int n])).length) Slot.unset).toArray = ls at hl ⊢
  have hl : lv_has ls 1 [(0, .int n)] := hl
  refine lv_iload_n hx hb dX10_isPort_0 rfl (lv_at hl 0 rfl) ?_
  refine lv_if_lt (tgt := 14) hx hb dX10_isPort_1 (by decide) (fun c_1 => ?_) (fun c_1 => ?_)
  · refine lv_iconst (v := 0) hx hb dX10_isPort_14 (by decide) ?_
    exact W.zret (v := 0) hx hb hr rfl (fun t ht hW => ⟨⟨0, (), rfl, (by simp [isI, c_1]), trivial⟩, hS.F ht⟩) hS.2.2 dX10_isPort_15
  · refine lv_iload_n hx hb dX10_isPort_4 rfl (lv_at hl 0 rfl) ?_
    refine lv_bipush (v := 10) hx hb dX10_isPort_5 (by decide) ?_
    refine lv_icmp_ge (tgt := 14) hx hb dX10_isPort_7 (by decide) (fun c_2 => ?_) (fun c_2 => ?_)
    · refine lv_iconst (v := 0) hx hb dX10_isPort_14 (by decide) ?_
      exact W.zret (v := 0) hx hb hr rfl (fun t ht hW => ⟨⟨0, (), rfl, (by simp [isI, c_1, c_2]), trivial⟩, hS.F ht⟩) hS.2.2 dX10_isPort_15
    · refine lv_iconst (v := 1) hx hb dX10_isPort_10 (by decide) ?_
      refine lv_goto (tgt := 15) hx hb dX10_isPort_11 (by decide) ?_
      exact W.zret (v := 1) hx hb hr rfl (fun t ht hW => ⟨⟨1, (), rfl, (by simp [isI, c_1, c_2]), trivial⟩, hS.F ht⟩) hS.2.2 dX10_isPort_15
set_option maxHeartbeats 4000000 in
set_option maxRecDepth 100000 in
theorem c_X7_join (l : Launch) (dC : Nat → ClassId) (dI : Nat → Nat → Nat) (sz : Nat) (h0 : Nat) (q : Nat → Nat) (cq : Nat → ClassId) (a b v : Int32) (h1 : vp_in ((a * 10) + b) 100) (h2 : vp_in ((b * 10) + a) 100) : Met l yX7_join wsX7_join ({ frames := 0, cells := 0, slots := 0, locals := 0 }) (va_Pc [.ref (q 10), .int a, .int b, .int v] (pcW (dC, dI) [((cq 100), .int)] [((q 10), .inr (7, [.ref (q 100), .ref (q 101)])), ((q 100), .inl ((cq 100), 100, .inl (fun _ => 0)))] sz)) (va_Qi (fun (r : Int32) (u : Unit) => r = 0) (fun _ _ => True) (va_A [((q 10), .inr (7, [.ref (q 100), .ref (q 101)])), ((q 100), .inl ((cq 100), 100, .inl (fun _ => 0)))] sz)) 0 0 (va_A [((q 10), .inr (7, [.ref (q 100), .ref (q 101)])), ((q 100), .inl ((cq 100), 100, .inl (fun _ => 0)))] sz) := by
  refine Met.ofW (cc := cX7_join) (maxL := 5) (ret := (some .int)) (by decide) rfl ?_
  intro p e s m args below meth c s₁ B hml hv
  obtain ⟨rfl, hsz, hP, hK, hD0⟩ := hv
  have hx := B.exec
  have hb := B.bytes
  have hr := B.returns
  have hts := atoms_spec (ws := wsX7_join) B.pre
  have hown : s.vm.findClass RX7 = some m.cls := findClass_of_methodNamed B.named
  have hlocks := B.notSynchronized
  subst hsz
  have hD := hD0.self (sz := s.heap.size)
  generalize hAe : va_A [((q 10), .inr (7, [.ref (q 100), .ref (q 101)])), ((q 100), .inl ((cq 100), 100, .inl (fun _ => 0)))] s.heap.size = A at hD ⊢
  have hA : ∀ q : Nat, s.heap.size ≤ q → A q := fun q h => by rw [← hAe]; exact Or.inr h
  have hS : va_S A s.heap s.heap [] := va_S.rf
  have hP : va_P (dC, dI) vwCl [((q 10), .inr (7, [.ref (q 100), .ref (q 101)])), ((q 100), .inl ((cq 100), 100, .inl (fun _ => 0)))] s.heap := hP
  have hl := lv_entry ([.ref (q 10), .int a, .int b, .int v]) (n := 5) (Nat.le_of_ble_eq_true rfl)
  rw [lg_entry_eq]
  generalize (lg_sl ([.ref (q 10), .int a, .int b, .int v]) ++ List.replicate (5 - (lg_sl ([.ref (q 10), .int a, .int b, .int v])).length) Slot.unset).toArray = ls at hl ⊢
  have hl : lv_has ls 5 [(0, .ref (q 10)), (1, .int a), (2, .int b), (3, .int v)] := hl
  refine lv_aload_n hx hb dX7_join_0 rfl (lv_at hl 0 rfl) ?_
  refine va_get (D := (dC, dI)) (ci := 7) (v := .ref (q 100)) (C := RX7) (T := TX7) (N := 2) hx hb hts in_wsX7_join_X7 hown hK hP 0 rfl rfl 0 (by decide) (hts (.fieldLink RX7 9 "ShipOffice$Sea" "miles" "[I") (by decide +kernel)) (fun _ h9 => h9) rfl dX7_join_1 ?_
  refine lv_iload_n hx hb dX7_join_4 rfl (lv_at hl 1 rfl) ?_
  refine lv_bipush (v := 10) hx hb dX7_join_5 (by decide) ?_
  refine lv_imul hx hb dX7_join_7 ?_
  refine lv_iload_n hx hb dX7_join_8 rfl (lv_at hl 2 rfl) ?_
  refine lv_iadd hx hb dX7_join_9 ?_
  refine va_iald hx hb hK hP 1 0 rfl rfl h1 dX7_join_10 ?_
  refine W.eq (g2 := F0 m 11 ls [.int 0]) rfl ?_
  refine lv_istore (lv' := [(4, .int 0), (0, .ref (q 10)), (1, .int a), (2, .int b), (3, .int v)]) hx hb dX7_join_11 hl (by decide) rfl (fun ls hl => ?_)
  refine lv_aload_n hx hb dX7_join_13 rfl (lv_at hl 1 rfl) ?_
  refine va_get (D := (dC, dI)) (ci := 7) (v := .ref (q 100)) (C := RX7) (T := TX7) (N := 2) hx hb hts in_wsX7_join_X7 hown hK hP 0 rfl rfl 0 (by decide) (hts (.fieldLink RX7 9 "ShipOffice$Sea" "miles" "[I") (by decide +kernel)) (fun _ h9 => h9) rfl dX7_join_14 ?_
  refine lv_iload_n hx hb dX7_join_17 rfl (lv_at hl 2 rfl) ?_
  refine lv_bipush (v := 10) hx hb dX7_join_18 (by decide) ?_
  refine lv_imul hx hb dX7_join_20 ?_
  refine lv_iload_n hx hb dX7_join_21 rfl (lv_at hl 3 rfl) ?_
  refine lv_iadd hx hb dX7_join_22 ?_
  refine lv_iload_n hx hb dX7_join_23 rfl (lv_at hl 4 rfl) ?_
  refine va_iast hx hb hK hP hD hS 1 0 rfl rfl h1 dX7_join_24 (fun H locs hP hD hS => ?_)
  have hP : va_P (dC, dI) vwCl [((q 10), .inr (7, [.ref (q 100), .ref (q 101)])), ((q 100), .inl ((cq 100), 100, .inl (upd (fun _ => 0) ((a * 10) + b : Int32).toNatClampNeg v)))] H := hP
  have hD : va_D A [((q 10), .inr (7, [.ref (q 100), .ref (q 101)])), ((q 100), .inl ((cq 100), 100, .inl (upd (fun _ => 0) ((a * 10) + b : Int32).toNatClampNeg v)))] := hD
  refine lv_aload_n hx hb dX7_join_25 rfl (lv_at hl 1 rfl) ?_
  refine va_get (D := (dC, dI)) (ci := 7) (v := .ref (q 100)) (C := RX7) (T := TX7) (N := 2) hx hb hts in_wsX7_join_X7 hown hK hP 0 rfl rfl 0 (by decide) (hts (.fieldLink RX7 9 "ShipOffice$Sea" "miles" "[I") (by decide +kernel)) (fun _ h9 => h9) rfl dX7_join_26 ?_
  refine lv_iload_n hx hb dX7_join_29 rfl (lv_at hl 3 rfl) ?_
  refine lv_bipush (v := 10) hx hb dX7_join_30 (by decide) ?_
  refine lv_imul hx hb dX7_join_32 ?_
  refine lv_iload_n hx hb dX7_join_33 rfl (lv_at hl 2 rfl) ?_
  refine lv_iadd hx hb dX7_join_34 ?_
  refine lv_iload_n hx hb dX7_join_35 rfl (lv_at hl 4 rfl) ?_
  refine va_iast hx hb hK hP hD hS 1 0 rfl rfl h2 dX7_join_36 (fun H locs hP hD hS => ?_)
  have hP : va_P (dC, dI) vwCl [((q 10), .inr (7, [.ref (q 100), .ref (q 101)])), ((q 100), .inl ((cq 100), 100, .inl (upd (upd (fun _ => 0) ((a * 10) + b : Int32).toNatClampNeg v) ((b * 10) + a : Int32).toNatClampNeg v)))] H := hP
  have hD : va_D A [((q 10), .inr (7, [.ref (q 100), .ref (q 101)])), ((q 100), .inl ((cq 100), 100, .inl (upd (upd (fun _ => 0) ((a * 10) + b : Int32).toNatClampNeg v) ((b * 10) + a : Int32).toNatClampNeg v)))] := hD
  refine lv_iload hx hb dX7_join_37 (lv_at hl 0 rfl) ?_
  exact W.iret (v := 0) hx hb hr (fun t ht hW => ⟨⟨0, (), rfl, rfl, trivial⟩, hS.F ht⟩) hS.2.2 dX7_join_39
set_option maxHeartbeats 4000000 in
set_option maxRecDepth 100000 in
theorem c_X10_miles (l : Launch) (dC : Nat → ClassId) (dI : Nat → Nat → Nat) (sz : Nat) (h0 : Nat) (q : Nat → Nat) (cq : Nat → ClassId) (a1 : Int32) (a2 : Int32) (a3 : Int32) : Met l yX10_miles wsX10_miles ({ frames := 1, cells := 0, slots := 0, locals := 24 }) (va_Pc [.ref h0, .int a1, .int a2, .int a3] (pcW (dC, dI) [((cq 15), .int), ((cq 100), .int)] [(h0, .inr (10, oF q)), ((q 15), .inl ((cq 15), 7, .inl (fun _ => 0))), ((q 10), .inr (7, [.ref (q 100), .ref (q 101)])), ((q 100), .inl ((cq 100), 100, .inl (fun _ => 0)))] sz)) (va_Qi (fun (r : Int32) (u : Unit) => r = sp_miles a1 a2 a3) (fun _ _ => True) (va_A [(h0, .inr (10, oF q)), ((q 15), .inl ((cq 15), 7, .inl (fun _ => 0))), ((q 10), .inr (7, [.ref (q 100), .ref (q 101)])), ((q 100), .inl ((cq 100), 100, .inl (fun _ => 0)))] sz)) 0 0 (va_A [(h0, .inr (10, oF q)), ((q 15), .inl ((cq 15), 7, .inl (fun _ => 0))), ((q 10), .inr (7, [.ref (q 100), .ref (q 101)])), ((q 100), .inl ((cq 100), 100, .inl (fun _ => 0)))] sz) := by
  refine Met.ofW (cc := cX10_miles) (maxL := 4) (ret := (some .int)) (by decide) rfl ?_
  intro p e s m args below meth c s₁ B hml hv
  obtain ⟨rfl, hsz, hP, hK, hD0⟩ := hv
  have hx := B.exec
  have hb := B.bytes
  have hr := B.returns
  have hts := atoms_spec (ws := wsX10_miles) B.pre
  have hown : s.vm.findClass RX10 = some m.cls := findClass_of_methodNamed B.named
  have hlocks := B.notSynchronized
  subst hsz
  have hD := hD0.self (sz := s.heap.size)
  generalize hAe : va_A [(h0, .inr (10, oF q)), ((q 15), .inl ((cq 15), 7, .inl (fun _ => 0))), ((q 10), .inr (7, [.ref (q 100), .ref (q 101)])), ((q 100), .inl ((cq 100), 100, .inl (fun _ => 0)))] s.heap.size = A at hD ⊢
  have hA : ∀ q : Nat, s.heap.size ≤ q → A q := fun q h => by rw [← hAe]; exact Or.inr h
  have hS : va_S A s.heap s.heap [] := va_S.rf
  have hP : va_P (dC, dI) vwCl [(h0, .inr (10, oF q)), ((q 15), .inl ((cq 15), 7, .inl (fun _ => 0))), ((q 10), .inr (7, [.ref (q 100), .ref (q 101)])), ((q 100), .inl ((cq 100), 100, .inl (fun _ => 0)))] s.heap := hP
  have hl := lv_entry ([.ref h0, .int a1, .int a2, .int a3]) (n := 4) (Nat.le_of_ble_eq_true rfl)
  rw [lg_entry_eq]
  generalize (lg_sl ([.ref h0, .int a1, .int a2, .int a3]) ++ List.replicate (4 - (lg_sl ([.ref h0, .int a1, .int a2, .int a3])).length) Slot.unset).toArray = ls at hl ⊢
  have hl : lv_has ls 4 [(0, .ref h0), (1, .int a1), (2, .int a2), (3, .int a3)] := hl
  refine lv_iload_n hx hb dX10_miles_0 rfl (lv_at hl 1 rfl) ?_
  have hPc := hP.sub (ws' := []) [] rfl
  have hDc := hD.sub (ws' := []) [] (by decide) rfl
  have hKc := hK.sub (tys' := []) [] rfl
  have hFc : ∀ q, va_A [] s.heap.size q → A q := pu_free hS hA
  refine va_calli (va_runS (As := [.int a1]) (rest := []) ⟨hx, hb, hml, hown, hts⟩ (c_X10_isPort l dC dI s.heap.size a1) (va_cwS 1 hts gX10_miles_X10_isPort rfl rfl rfl (by decide +kernel) ⟨(Nat.le_of_ble_eq_true rfl), (Nat.le_of_ble_eq_true rfl)⟩) (pr_S hPc hKc hDc) rfl rfl hl.1 rfl (lv_room (Nat.le_of_ble_eq_true rfl)) dX10_miles_1 ⟨(Nat.le_of_ble_eq_true rfl), (Nat.le_of_ble_eq_true rfl)⟩) hS (fun q _ h => hFc q h) hFc (fun r_2 u t H locs ht hvm w_1 hB hz1 hk1 hS => ?_)
  have hP := pu_keep hP hk1
  clear hk1 hz1 hvm hB hPc hDc hKc hFc ht
  subst w_1
  refine lv_if_eq (tgt := 19) hx hb dX10_miles_4 (by decide) (fun c_3 => ?_) (fun c_3 => ?_)
  · refine lv_aload_n hx hb dX10_miles_19 rfl (lv_at hl 0 rfl) ?_
    refine lv_iconst (v := (-1)) hx hb dX10_miles_20 (by decide) ?_
    have hPc := hP.sub (ws' := [(h0, .inr (10, oF q)), ((q 15), .inl ((cq 15), 7, .inl (fun _ => 0)))]) [0, 1] rfl
    have hDc := hD.sub (ws' := [(h0, .inr (10, oF q)), ((q 15), .inl ((cq 15), 7, .inl (fun _ => 0)))]) [0, 1] (by decide) rfl
    have hKc := hK.sub (tys' := [((cq 15), .int)]) [0] rfl
    have hFc := va_free (wc := [(h0, .inr (10, oF q)), ((q 15), .inl ((cq 15), 7, .inl (fun _ => 0)))]) hD hS hA [0, 1] rfl
    refine va_calli (va_runV (As := [.int (-1)]) (rest := []) ⟨hx, hb, hml, hown, hts⟩ (c_X10_refuse l dC dI H.size h0 q cq (-1) (by unfold vp_in; decide)) (cwV 1 hts gX10_miles_X10_refuse rfl rfl rfl (by decide +kernel) ⟨(Nat.le_of_ble_eq_true rfl), (Nat.le_of_ble_eq_true rfl)⟩) (pr_V (r := (RX10, TX10, 16)) hPc hKc hDc 0 10 rfl rfl) rfl rfl hl.1 rfl (lv_room (Nat.le_of_ble_eq_true rfl)) dX10_miles_21 ⟨(Nat.le_of_ble_eq_true rfl), (Nat.le_of_ble_eq_true rfl)⟩) hS (fun q _ h => hFc q h) hFc (fun r_5 u t H locs ht hvm w_4 hB hz1 hk1 hS => ?_)
    subst w_4
    exact W.iret (v := (-1)) hx hb hr (fun t ht hW => ⟨⟨(-1), (), rfl, (by simp [sp_miles, c_3]), trivial⟩, hS.F ht⟩) hS.2.2 dX10_miles_24
  · refine lv_iload_n hx hb dX10_miles_7 rfl (lv_at hl 2 rfl) ?_
    have hPc := hP.sub (ws' := []) [] rfl
    have hDc := hD.sub (ws' := []) [] (by decide) rfl
    have hKc := hK.sub (tys' := []) [] rfl
    have hFc : ∀ q, va_A [] H.size q → A q := pu_free hS hA
    refine va_calli (va_runS (As := [.int a2]) (rest := []) ⟨hx, hb, hml, hown, hts⟩ (c_X10_isPort l dC dI H.size a2) (va_cwS 1 hts gX10_miles_X10_isPort rfl rfl rfl (by decide +kernel) ⟨(Nat.le_of_ble_eq_true rfl), (Nat.le_of_ble_eq_true rfl)⟩) (pr_S hPc hKc hDc) rfl rfl hl.1 rfl (lv_room (Nat.le_of_ble_eq_true rfl)) dX10_miles_8 ⟨(Nat.le_of_ble_eq_true rfl), (Nat.le_of_ble_eq_true rfl)⟩) hS (fun q _ h => hFc q h) hFc (fun r_7 u t H locs ht hvm w_6 hB hz1 hk1 hS => ?_)
    have hP := pu_keep hP hk1
    clear hk1 hz1 hvm hB hPc hDc hKc hFc ht
    subst w_6
    refine lv_if_eq (tgt := 19) hx hb dX10_miles_11 (by decide) (fun c_8 => ?_) (fun c_8 => ?_)
    · refine lv_aload_n hx hb dX10_miles_19 rfl (lv_at hl 0 rfl) ?_
      refine lv_iconst (v := (-1)) hx hb dX10_miles_20 (by decide) ?_
      have hPc := hP.sub (ws' := [(h0, .inr (10, oF q)), ((q 15), .inl ((cq 15), 7, .inl (fun _ => 0)))]) [0, 1] rfl
      have hDc := hD.sub (ws' := [(h0, .inr (10, oF q)), ((q 15), .inl ((cq 15), 7, .inl (fun _ => 0)))]) [0, 1] (by decide) rfl
      have hKc := hK.sub (tys' := [((cq 15), .int)]) [0] rfl
      have hFc := va_free (wc := [(h0, .inr (10, oF q)), ((q 15), .inl ((cq 15), 7, .inl (fun _ => 0)))]) hD hS hA [0, 1] rfl
      refine va_calli (va_runV (As := [.int (-1)]) (rest := []) ⟨hx, hb, hml, hown, hts⟩ (c_X10_refuse l dC dI H.size h0 q cq (-1) (by unfold vp_in; decide)) (cwV 1 hts gX10_miles_X10_refuse rfl rfl rfl (by decide +kernel) ⟨(Nat.le_of_ble_eq_true rfl), (Nat.le_of_ble_eq_true rfl)⟩) (pr_V (r := (RX10, TX10, 16)) hPc hKc hDc 0 10 rfl rfl) rfl rfl hl.1 rfl (lv_room (Nat.le_of_ble_eq_true rfl)) dX10_miles_21 ⟨(Nat.le_of_ble_eq_true rfl), (Nat.le_of_ble_eq_true rfl)⟩) hS (fun q _ h => hFc q h) hFc (fun r_10 u t H locs ht hvm w_9 hB hz1 hk1 hS => ?_)
      subst w_9
      exact W.iret (v := (-1)) hx hb hr (fun t ht hW => ⟨⟨(-1), (), rfl, (by simp [sp_miles, c_3, c_8]), trivial⟩, hS.F ht⟩) hS.2.2 dX10_miles_24
    · refine lv_iload_n hx hb dX10_miles_14 rfl (lv_at hl 1 rfl) ?_
      refine lv_iload_n hx hb dX10_miles_15 rfl (lv_at hl 2 rfl) ?_
      refine lv_icmp_ne (tgt := 25) hx hb dX10_miles_16 (by decide) (fun c_11 => ?_) (fun c_11 => ?_)
      · refine lv_iload_n hx hb dX10_miles_25 rfl (lv_at hl 3 rfl) ?_
        refine lv_if_ge (tgt := 36) hx hb dX10_miles_26 (by decide) (fun c_12 => ?_) (fun c_12 => ?_)
        · refine lv_iload_n hx hb dX10_miles_36 rfl (lv_at hl 3 rfl) ?_
          refine lv_sipush (v := 9999) hx hb dX10_miles_37 (by decide) ?_
          refine lv_icmp_le (tgt := 50) hx hb dX10_miles_40 (by decide) (fun c_13 => ?_) (fun c_13 => ?_)
          · refine lv_aload_n hx hb dX10_miles_50 rfl (lv_at hl 0 rfl) ?_
            refine va_get (D := (dC, dI)) (ci := 10) (v := .ref (q 10)) (C := RX10) (T := TX10) (N := 16) hx hb hts in_wsX10_miles_X10 hown hK hP 0 rfl rfl 10 (by decide) (hts (.fieldLink RX10 44 "ShipOffice" "sea" "LShipOffice$Sea;") (by decide +kernel)) (fun _ h9 => h9) rfl dX10_miles_51 ?_
            refine lv_iload_n hx hb dX10_miles_54 rfl (lv_at hl 1 rfl) ?_
            refine lv_iload_n hx hb dX10_miles_55 rfl (lv_at hl 2 rfl) ?_
            refine lv_iload_n hx hb dX10_miles_56 rfl (lv_at hl 3 rfl) ?_
            have hPc := hP.sub (ws' := [((q 10), .inr (7, [.ref (q 100), .ref (q 101)])), ((q 100), .inl ((cq 100), 100, .inl (fun _ => 0)))]) [2, 3] rfl
            have hDc := hD.sub (ws' := [((q 10), .inr (7, [.ref (q 100), .ref (q 101)])), ((q 100), .inl ((cq 100), 100, .inl (fun _ => 0)))]) [2, 3] (by decide) rfl
            have hKc := hK.sub (tys' := [((cq 100), .int)]) [1] rfl
            have hFc := va_free (wc := [((q 10), .inr (7, [.ref (q 100), .ref (q 101)])), ((q 100), .inl ((cq 100), 100, .inl (fun _ => 0)))]) hD hS hA [2, 3] rfl
            refine va_calli (va_runV (As := [.int a1, .int a2, .int a3]) (rest := []) ⟨hx, hb, hml, hown, hts⟩ (c_X7_join l dC dI H.size h0 q cq a1 a2 a3 (mi_in c_3 c_8) (mi_in c_8 c_3)) (cwV 3 hts gX10_miles_X7_join rfl rfl rfl (by decide +kernel) ⟨(Nat.le_of_ble_eq_true rfl), (Nat.le_of_ble_eq_true rfl)⟩) (pr_V (r := (RX7, TX7, 2)) hPc hKc hDc 0 7 rfl rfl) rfl rfl hl.1 rfl (lv_room (Nat.le_of_ble_eq_true rfl)) dX10_miles_57 ⟨(Nat.le_of_ble_eq_true rfl), (Nat.le_of_ble_eq_true rfl)⟩) hS (fun q _ h => hFc q h) hFc (fun r_15 u t H locs ht hvm w_14 hB hz1 hk1 hS => ?_)
            subst w_14
            exact W.iret (v := 0) hx hb hr (fun t ht hW => ⟨⟨0, (), rfl, (by simp [sp_miles, c_3, c_8, c_11, c_12, c_13]), trivial⟩, hS.F ht⟩) hS.2.2 dX10_miles_60
          · refine lv_aload_n hx hb dX10_miles_43 rfl (lv_at hl 0 rfl) ?_
            refine lv_bipush (v := (-6)) hx hb dX10_miles_44 (by decide) ?_
            have hPc := hP.sub (ws' := [(h0, .inr (10, oF q)), ((q 15), .inl ((cq 15), 7, .inl (fun _ => 0)))]) [0, 1] rfl
            have hDc := hD.sub (ws' := [(h0, .inr (10, oF q)), ((q 15), .inl ((cq 15), 7, .inl (fun _ => 0)))]) [0, 1] (by decide) rfl
            have hKc := hK.sub (tys' := [((cq 15), .int)]) [0] rfl
            have hFc := va_free (wc := [(h0, .inr (10, oF q)), ((q 15), .inl ((cq 15), 7, .inl (fun _ => 0)))]) hD hS hA [0, 1] rfl
            refine va_calli (va_runV (As := [.int (-6)]) (rest := []) ⟨hx, hb, hml, hown, hts⟩ (c_X10_refuse l dC dI H.size h0 q cq (-6) (by unfold vp_in; decide)) (cwV 1 hts gX10_miles_X10_refuse rfl rfl rfl (by decide +kernel) ⟨(Nat.le_of_ble_eq_true rfl), (Nat.le_of_ble_eq_true rfl)⟩) (pr_V (r := (RX10, TX10, 16)) hPc hKc hDc 0 10 rfl rfl) rfl rfl hl.1 rfl (lv_room (Nat.le_of_ble_eq_true rfl)) dX10_miles_46 ⟨(Nat.le_of_ble_eq_true rfl), (Nat.le_of_ble_eq_true rfl)⟩) hS (fun q _ h => hFc q h) hFc (fun r_17 u t H locs ht hvm w_16 hB hz1 hk1 hS => ?_)
            subst w_16
            exact W.iret (v := (-6)) hx hb hr (fun t ht hW => ⟨⟨(-6), (), rfl, (by simp [sp_miles, c_3, c_8, c_11, c_12, c_13]), trivial⟩, hS.F ht⟩) hS.2.2 dX10_miles_49
        · refine lv_aload_n hx hb dX10_miles_29 rfl (lv_at hl 0 rfl) ?_
          refine lv_bipush (v := (-4)) hx hb dX10_miles_30 (by decide) ?_
          have hPc := hP.sub (ws' := [(h0, .inr (10, oF q)), ((q 15), .inl ((cq 15), 7, .inl (fun _ => 0)))]) [0, 1] rfl
          have hDc := hD.sub (ws' := [(h0, .inr (10, oF q)), ((q 15), .inl ((cq 15), 7, .inl (fun _ => 0)))]) [0, 1] (by decide) rfl
          have hKc := hK.sub (tys' := [((cq 15), .int)]) [0] rfl
          have hFc := va_free (wc := [(h0, .inr (10, oF q)), ((q 15), .inl ((cq 15), 7, .inl (fun _ => 0)))]) hD hS hA [0, 1] rfl
          refine va_calli (va_runV (As := [.int (-4)]) (rest := []) ⟨hx, hb, hml, hown, hts⟩ (c_X10_refuse l dC dI H.size h0 q cq (-4) (by unfold vp_in; decide)) (cwV 1 hts gX10_miles_X10_refuse rfl rfl rfl (by decide +kernel) ⟨(Nat.le_of_ble_eq_true rfl), (Nat.le_of_ble_eq_true rfl)⟩) (pr_V (r := (RX10, TX10, 16)) hPc hKc hDc 0 10 rfl rfl) rfl rfl hl.1 rfl (lv_room (Nat.le_of_ble_eq_true rfl)) dX10_miles_32 ⟨(Nat.le_of_ble_eq_true rfl), (Nat.le_of_ble_eq_true rfl)⟩) hS (fun q _ h => hFc q h) hFc (fun r_19 u t H locs ht hvm w_18 hB hz1 hk1 hS => ?_)
          subst w_18
          exact W.iret (v := (-4)) hx hb hr (fun t ht hW => ⟨⟨(-4), (), rfl, (by simp [sp_miles, c_3, c_8, c_11, c_12]), trivial⟩, hS.F ht⟩) hS.2.2 dX10_miles_35
      · refine lv_aload_n hx hb dX10_miles_19 rfl (lv_at hl 0 rfl) ?_
        refine lv_iconst (v := (-1)) hx hb dX10_miles_20 (by decide) ?_
        have hPc := hP.sub (ws' := [(h0, .inr (10, oF q)), ((q 15), .inl ((cq 15), 7, .inl (fun _ => 0)))]) [0, 1] rfl
        have hDc := hD.sub (ws' := [(h0, .inr (10, oF q)), ((q 15), .inl ((cq 15), 7, .inl (fun _ => 0)))]) [0, 1] (by decide) rfl
        have hKc := hK.sub (tys' := [((cq 15), .int)]) [0] rfl
        have hFc := va_free (wc := [(h0, .inr (10, oF q)), ((q 15), .inl ((cq 15), 7, .inl (fun _ => 0)))]) hD hS hA [0, 1] rfl
        refine va_calli (va_runV (As := [.int (-1)]) (rest := []) ⟨hx, hb, hml, hown, hts⟩ (c_X10_refuse l dC dI H.size h0 q cq (-1) (by unfold vp_in; decide)) (cwV 1 hts gX10_miles_X10_refuse rfl rfl rfl (by decide +kernel) ⟨(Nat.le_of_ble_eq_true rfl), (Nat.le_of_ble_eq_true rfl)⟩) (pr_V (r := (RX10, TX10, 16)) hPc hKc hDc 0 10 rfl rfl) rfl rfl hl.1 rfl (lv_room (Nat.le_of_ble_eq_true rfl)) dX10_miles_21 ⟨(Nat.le_of_ble_eq_true rfl), (Nat.le_of_ble_eq_true rfl)⟩) hS (fun q _ h => hFc q h) hFc (fun r_21 u t H locs ht hvm w_20 hB hz1 hk1 hS => ?_)
        subst w_20
        exact W.iret (v := (-1)) hx hb hr (fun t ht hW => ⟨⟨(-1), (), rfl, (by simp [sp_miles, c_3, c_8, c_11]), trivial⟩, hS.F ht⟩) hS.2.2 dX10_miles_24
set_option maxHeartbeats 4000000 in
set_option maxRecDepth 100000 in
theorem c_X6_init (l : Launch) (dC : Nat → ClassId) (dI : Nat → Nat → Nat) (sz : Nat) (g1 : Nat) (x1 x2 x3 x4 : Int32) : Met l yX6_init wsX6_init ({ frames := 1, cells := 1, slots := 4, locals := 14 }) (va_Pc [.ref g1, .int x1, .int x2, .int x3, .int x4] (pcW (dC, dI) [] [(g1, .inr (6, [.int 0, .int 0, .int 0, .int 0, .null, .int 0]))] sz)) (va_Qv (fun (u : Nat × ClassId) => True) (fun u t => va_P (dC, dI) vwCl [(g1, .inr (6, [.int x1, .int x2, .int x3, .int x4, .ref u.1, .int x1])), (u.1, .inl (u.2, 4, .inl (fun _ => 0)))] t.heap ∧ va_K (dC, dI) vwCl [(u.2, .int)] t ∧ va_D (va_A [(g1, .inr (6, [.int 0, .int 0, .int 0, .int 0, .null, .int 0]))] sz) [(g1, .inr (6, [.int x1, .int x2, .int x3, .int x4, .ref u.1, .int x1])), (u.1, .inl (u.2, 4, .inl (fun _ => 0)))]) (va_A [(g1, .inr (6, [.int 0, .int 0, .int 0, .int 0, .null, .int 0]))] sz)) 1 4 (va_A [(g1, .inr (6, [.int 0, .int 0, .int 0, .int 0, .null, .int 0]))] sz) := by
  refine Met.ofW (cc := cX6_init) (maxL := 5) (ret := none) (by decide) rfl ?_
  intro p e s m args below meth c s₁ B hml hv
  obtain ⟨rfl, hsz, hP, hK, hD0⟩ := hv
  have hx := B.exec
  have hb := B.bytes
  have hr := B.returns
  have hts := atoms_spec (ws := wsX6_init) B.pre
  have hown : s.vm.findClass RX6 = some m.cls := findClass_of_methodNamed B.named
  have hlocks := B.notSynchronized
  have hin : meth.name = "<init>" := (name_of_methodNamed B.named B.method).1
  subst hsz
  have hD := hD0.self (sz := s.heap.size)
  generalize hAe : va_A [(g1, .inr (6, [.int 0, .int 0, .int 0, .int 0, .null, .int 0]))] s.heap.size = A at hD ⊢
  have hA : ∀ q : Nat, s.heap.size ≤ q → A q := fun q h => by rw [← hAe]; exact Or.inr h
  have hS : va_S A s.heap s.heap [] := va_S.rf
  have hP : va_P (dC, dI) vwCl [(g1, .inr (6, [.int 0, .int 0, .int 0, .int 0, .null, .int 0]))] s.heap := hP
  have hl := lv_entry ([.ref g1, .int x1, .int x2, .int x3, .int x4]) (n := 5) (Nat.le_of_ble_eq_true rfl)
  rw [lg_entry_eq]
  generalize (lg_sl ([.ref g1, .int x1, .int x2, .int x3, .int x4]) ++ List.replicate (5 - (lg_sl ([.ref g1, .int x1, .int x2, .int x3, .int x4])).length) Slot.unset).toArray = ls at hl ⊢
  have hl : lv_has ls 5 [(0, .ref g1), (1, .int x1), (2, .int x2), (3, .int x3), (4, .int x4)] := hl
  refine lv_aload_n hx hb dX6_init_0 rfl (lv_at hl 0 rfl) ?_
  refine W.objInit hx hb hown (hts (.methodLink RX6 3 objectInit) (by decide +kernel)) (hts (.instanceMethod objectInit) (by decide +kernel)) (hts (.code objectInit ⟨#[0xb1]⟩ 1 none) (in_obj_wsX6_init)) rfl (by rw [hml]; exact hl.1) rfl dX6_init_1 (Nat.le_of_ble_eq_true rfl) (Nat.le_of_ble_eq_true rfl) ?_
  refine W.eq (g2 := F0 m 4 ls []) rfl ?_
  refine lv_aload_n hx hb dX6_init_4 rfl (lv_at hl 0 rfl) ?_
  refine lv_iconst (v := 4) hx hb dX6_init_5 (by decide) ?_
  refine va_newa (atype := .int) (ty := .int) (a0 := (4, .inl (fun _ => 0))) hx hb (hts (.arrayClass .int) (by decide +kernel)) rfl hK hP hD hS hA (fun _ => rfl) (by decide) (by decide) (by decide) (Nat.le_of_ble_eq_true rfl) (Nat.le_of_ble_eq_true rfl) dX6_init_6 (fun q_1 k_2 H hK hP hD hS => ?_)
  have hP : va_P (dC, dI) vwCl [(g1, .inr (6, [.int 0, .int 0, .int 0, .int 0, .null, .int 0])), (q_1, .inl (k_2, 4, .inl (fun _ => 0)))] H := hP
  have hD : va_D A [(g1, .inr (6, [.int 0, .int 0, .int 0, .int 0, .null, .int 0])), (q_1, .inl (k_2, 4, .inl (fun _ => 0)))] := hD
  have hK : va_K (dC, dI) vwCl [(k_2, .int)] s := hK
  refine W.widen (k := 1) (n := 4) (Nat.le_of_ble_eq_true rfl) (Nat.le_of_ble_eq_true rfl) ?_
  refine va_putF (D := (dC, dI)) (ci := 6) (v := .ref q_1) (ty := .array .int) (C := RX6) (T := TX6) (N := 6) hx hb hts in_wsX6_init_X6 tyX6 tyX6_ok nmX6 hown hK hP hD hS 0 rfl rfl 4 (by decide) (hts (.fieldLink RX6 9 "ShipOffice$Man" "wages" "[I") (by decide +kernel)) (fun _ h9 => h9) rfl hin rfl (by decide +kernel) rfl rfl (Nat.le_of_ble_eq_true rfl) dX6_init_8 (fun H locs hP hD hS => ?_)
  have hP : va_P (dC, dI) vwCl [(g1, .inr (6, [.int 0, .int 0, .int 0, .int 0, .ref q_1, .int 0])), (q_1, .inl (k_2, 4, .inl (fun _ => 0)))] H := hP
  have hD : va_D A [(g1, .inr (6, [.int 0, .int 0, .int 0, .int 0, .ref q_1, .int 0])), (q_1, .inl (k_2, 4, .inl (fun _ => 0)))] := hD
  refine lv_aload_n hx hb dX6_init_11 rfl (lv_at hl 0 rfl) ?_
  refine lv_iload_n hx hb dX6_init_12 rfl (lv_at hl 1 rfl) ?_
  refine va_putF (D := (dC, dI)) (ci := 6) (v := .int x1) (ty := .int) (C := RX6) (T := TX6) (N := 6) hx hb hts in_wsX6_init_X6 tyX6 tyX6_ok nmX6 hown hK hP hD hS 0 rfl rfl 0 (by decide) (hts (.fieldLink RX6 15 "ShipOffice$Man" "number" "I") (by decide +kernel)) (fun _ h9 => h9) rfl hin rfl (by decide +kernel) rfl rfl (Nat.le_of_ble_eq_true rfl) dX6_init_13 (fun H locs hP hD hS => ?_)
  have hP : va_P (dC, dI) vwCl [(g1, .inr (6, [.int x1, .int 0, .int 0, .int 0, .ref q_1, .int 0])), (q_1, .inl (k_2, 4, .inl (fun _ => 0)))] H := hP
  have hD : va_D A [(g1, .inr (6, [.int x1, .int 0, .int 0, .int 0, .ref q_1, .int 0])), (q_1, .inl (k_2, 4, .inl (fun _ => 0)))] := hD
  refine lv_aload_n hx hb dX6_init_16 rfl (lv_at hl 0 rfl) ?_
  refine lv_iload_n hx hb dX6_init_17 rfl (lv_at hl 2 rfl) ?_
  refine va_putF (D := (dC, dI)) (ci := 6) (v := .int x2) (ty := .int) (C := RX6) (T := TX6) (N := 6) hx hb hts in_wsX6_init_X6 tyX6 tyX6_ok nmX6 hown hK hP hD hS 0 rfl rfl 1 (by decide) (hts (.fieldLink RX6 19 "ShipOffice$Man" "name" "I") (by decide +kernel)) (fun _ h9 => h9) rfl hin rfl (by decide +kernel) rfl rfl (Nat.le_of_ble_eq_true rfl) dX6_init_18 (fun H locs hP hD hS => ?_)
  have hP : va_P (dC, dI) vwCl [(g1, .inr (6, [.int x1, .int x2, .int 0, .int 0, .ref q_1, .int 0])), (q_1, .inl (k_2, 4, .inl (fun _ => 0)))] H := hP
  have hD : va_D A [(g1, .inr (6, [.int x1, .int x2, .int 0, .int 0, .ref q_1, .int 0])), (q_1, .inl (k_2, 4, .inl (fun _ => 0)))] := hD
  refine lv_aload_n hx hb dX6_init_21 rfl (lv_at hl 0 rfl) ?_
  refine lv_iload_n hx hb dX6_init_22 rfl (lv_at hl 3 rfl) ?_
  refine va_putF (D := (dC, dI)) (ci := 6) (v := .int x3) (ty := .int) (C := RX6) (T := TX6) (N := 6) hx hb hts in_wsX6_init_X6 tyX6 tyX6_ok nmX6 hown hK hP hD hS 0 rfl rfl 2 (by decide) (hts (.fieldLink RX6 22 "ShipOffice$Man" "marks" "I") (by decide +kernel)) (fun _ h9 => h9) rfl hin rfl (by decide +kernel) rfl rfl (Nat.le_of_ble_eq_true rfl) dX6_init_23 (fun H locs hP hD hS => ?_)
  have hP : va_P (dC, dI) vwCl [(g1, .inr (6, [.int x1, .int x2, .int x3, .int 0, .ref q_1, .int 0])), (q_1, .inl (k_2, 4, .inl (fun _ => 0)))] H := hP
  have hD : va_D A [(g1, .inr (6, [.int x1, .int x2, .int x3, .int 0, .ref q_1, .int 0])), (q_1, .inl (k_2, 4, .inl (fun _ => 0)))] := hD
  refine lv_aload_n hx hb dX6_init_26 rfl (lv_at hl 0 rfl) ?_
  refine lv_iload hx hb dX6_init_27 (lv_at hl 4 rfl) ?_
  refine va_putF (D := (dC, dI)) (ci := 6) (v := .int x4) (ty := .int) (C := RX6) (T := TX6) (N := 6) hx hb hts in_wsX6_init_X6 tyX6 tyX6_ok nmX6 hown hK hP hD hS 0 rfl rfl 3 (by decide) (hts (.fieldLink RX6 25 "ShipOffice$Man" "born" "I") (by decide +kernel)) (fun _ h9 => h9) rfl hin rfl (by decide +kernel) rfl rfl (Nat.le_of_ble_eq_true rfl) dX6_init_29 (fun H locs hP hD hS => ?_)
  have hP : va_P (dC, dI) vwCl [(g1, .inr (6, [.int x1, .int x2, .int x3, .int x4, .ref q_1, .int 0])), (q_1, .inl (k_2, 4, .inl (fun _ => 0)))] H := hP
  have hD : va_D A [(g1, .inr (6, [.int x1, .int x2, .int x3, .int x4, .ref q_1, .int 0])), (q_1, .inl (k_2, 4, .inl (fun _ => 0)))] := hD
  refine lv_aload_n hx hb dX6_init_32 rfl (lv_at hl 0 rfl) ?_
  refine lv_iload_n hx hb dX6_init_33 rfl (lv_at hl 1 rfl) ?_
  refine va_put (D := (dC, dI)) (ci := 6) (v := .int x1) (ty := .int) (C := RX6) (T := TX6) (N := 6) hx hb hts in_wsX6_init_X6 tyX6 tyX6_ok nmX6 hown hK hP hD hS 0 rfl rfl 5 (by decide) (hts (.fieldLink RX6 28 "ShipOffice$Man" "leastAlike" "I") (by decide +kernel)) (fun _ h9 => h9) rfl (by decide +kernel) rfl rfl (Nat.le_of_ble_eq_true rfl) dX6_init_34 (fun H locs hP hD hS => ?_)
  have hP : va_P (dC, dI) vwCl [(g1, .inr (6, [.int x1, .int x2, .int x3, .int x4, .ref q_1, .int x1])), (q_1, .inl (k_2, 4, .inl (fun _ => 0)))] H := hP
  have hD : va_D A [(g1, .inr (6, [.int x1, .int x2, .int x3, .int x4, .ref q_1, .int x1])), (q_1, .inl (k_2, 4, .inl (fun _ => 0)))] := hD
  have hP9 := hP.sub (ws' := [(g1, .inr (6, [.int x1, .int x2, .int x3, .int x4, .ref q_1, .int x1])), (q_1, .inl (k_2, 4, .inl (fun _ => 0)))]) [0, 1] rfl
  have hD9 := hD.sub (ws' := [(g1, .inr (6, [.int x1, .int x2, .int x3, .int x4, .ref q_1, .int x1])), (q_1, .inl (k_2, 4, .inl (fun _ => 0)))]) [0, 1] (by decide) rfl
  have hK9 := hK.sub (tys' := [(k_2, .int)]) [0] rfl
  subst hAe
  exact W.vret hx hb hr (fun t ht hW => ⟨⟨(q_1, k_2), rfl, trivial, ⟨by rw [ht]; exact hP9, va_K.moved hW.alike hK9, hD9⟩⟩, hS.F ht⟩) hS.2.2 dX6_init_37
set_option maxHeartbeats 4000000 in
set_option maxRecDepth 100000 in
theorem c_X6_isAlike (l : Launch) (dC : Nat → ClassId) (dI : Nat → Nat → Nat) (sz : Nat) (g1 g2 : Nat) (x2 x3 x4 : Int32) : Met l yX6_isAlike wsX6_isAlike ({ frames := 0, cells := 0, slots := 0, locals := 0 }) (va_Pc [.ref g1, .ref g1] (pcW (dC, dI) [] [(g1, .inr (6, [.int 0, .int x2, .int x3, .int x4, .ref g2, .int 0]))] sz)) (va_Qi (fun (r : Int32) (u : Unit) => r = 1) (fun _ _ => True) (va_A [] sz)) 0 0 (va_A [] sz) := by
  refine Met.ofW (cc := cX6_isAlike) (maxL := 2) (ret := (some .boolean)) (by decide) rfl ?_
  intro p e s m args below meth c s₁ B hml hv
  obtain ⟨rfl, hsz, hP, hK, hD0⟩ := hv
  have hx := B.exec
  have hb := B.bytes
  have hr := B.returns
  have hts := atoms_spec (ws := wsX6_isAlike) B.pre
  have hown : s.vm.findClass RX6 = some m.cls := findClass_of_methodNamed B.named
  have hlocks := B.notSynchronized
  subst hsz
  have hD := hD0
  generalize hAe : va_A [] s.heap.size = A at ⊢
  have hA : ∀ q : Nat, s.heap.size ≤ q → A q := fun q h => by rw [← hAe]; exact Or.inr h
  have hS : va_S A s.heap s.heap [] := va_S.rf
  have hP : va_P (dC, dI) vwCl [(g1, .inr (6, [.int 0, .int x2, .int x3, .int x4, .ref g2, .int 0]))] s.heap := hP
  have hl := lv_entry ([.ref g1, .ref g1]) (n := 2) (Nat.le_of_ble_eq_true rfl)
  rw [lg_entry_eq]
  generalize (lg_sl ([.ref g1, .ref g1]) ++ List.replicate (2 - (lg_sl ([.ref g1, .ref g1])).length) Slot.unset).toArray = ls at hl ⊢
  have hl : lv_has ls 2 [(0, .ref g1), (1, .ref g1)] := hl
  refine lv_aload_n hx hb dX6_isAlike_0 rfl (lv_at hl 0 rfl) ?_
  refine va_get (D := (dC, dI)) (ci := 6) (v := .int x3) (C := RX6) (T := TX6) (N := 6) hx hb hts in_wsX6_isAlike_X6 hown hK hP 0 rfl rfl 2 (by decide) (hts (.fieldLink RX6 22 "ShipOffice$Man" "marks" "I") (by decide +kernel)) (fun _ h9 => h9) rfl dX6_isAlike_1 ?_
  refine lv_aload_n hx hb dX6_isAlike_4 rfl (lv_at hl 1 rfl) ?_
  refine va_get (D := (dC, dI)) (ci := 6) (v := .int x3) (C := RX6) (T := TX6) (N := 6) hx hb hts in_wsX6_isAlike_X6 hown hK hP 0 rfl rfl 2 (by decide) (hts (.fieldLink RX6 22 "ShipOffice$Man" "marks" "I") (by decide +kernel)) (fun _ h9 => h9) rfl dX6_isAlike_5 ?_
  refine lv_icmp_eq (tgt := 37) hx hb dX6_isAlike_8 (by decide) (fun c_1 => ?_) (fun c_1 => absurd c_1 (fun h => h rfl))
  refine lv_iconst (v := 1) hx hb dX6_isAlike_37 (by decide) ?_
  refine lv_goto (tgt := 42) hx hb dX6_isAlike_38 (by decide) ?_
  exact W.zret (v := 1) hx hb hr rfl (fun t ht hW => ⟨⟨1, (), rfl, rfl, trivial⟩, hS.F ht⟩) hS.2.2 dX6_isAlike_42
set_option maxHeartbeats 4000000 in
set_option maxRecDepth 100000 in
theorem c_X10_mergeGroups (l : Launch) (dC : Nat → ClassId) (dI : Nat → Nat → Nat) (sz : Nat) (h0 : Nat) (q : Nat → Nat) (cq : Nat → ClassId) (g1 g2 : Nat) (x2 x3 x4 : Int32) : Met l yX10_mergeGroups wsX10_mergeGroups ({ frames := 1, cells := 0, slots := 0, locals := 16 }) (va_Pc [.ref h0, .int 0, .int 0] (pcW (dC, dI) [((cq 1), .object RX6)] [(h0, .inr (10, ((oF q).set 2 (.int 1)))), ((q 1), .inl ((cq 1), 40, .inr (.inr (.inr (.inr (va_up (fun _ => none) (0 : Int32).toNatClampNeg (some g1))))))), (g1, .inr (6, [.int 0, .int x2, .int x3, .int x4, .ref g2, .int 0]))] sz)) (va_Qv (fun (u : Unit) => True) (fun u t => va_P (dC, dI) vwCl [(h0, .inr (10, ((oF q).set 2 (.int 1)))), ((q 1), .inl ((cq 1), 40, .inr (.inr (.inr (.inr (va_up (fun _ => none) (0 : Int32).toNatClampNeg (some g1))))))), (g1, .inr (6, [.int 0, .int x2, .int x3, .int x4, .ref g2, .int 0]))] t.heap ∧ va_K (dC, dI) vwCl [((cq 1), .object RX6)] t ∧ va_D (va_A [(h0, .inr (10, ((oF q).set 2 (.int 1)))), ((q 1), .inl ((cq 1), 40, .inr (.inr (.inr (.inr (va_up (fun _ => none) (0 : Int32).toNatClampNeg (some g1))))))), (g1, .inr (6, [.int 0, .int x2, .int x3, .int x4, .ref g2, .int 0]))] sz) [(h0, .inr (10, ((oF q).set 2 (.int 1)))), ((q 1), .inl ((cq 1), 40, .inr (.inr (.inr (.inr (va_up (fun _ => none) (0 : Int32).toNatClampNeg (some g1))))))), (g1, .inr (6, [.int 0, .int x2, .int x3, .int x4, .ref g2, .int 0]))]) (va_A [(h0, .inr (10, ((oF q).set 2 (.int 1)))), ((q 1), .inl ((cq 1), 40, .inr (.inr (.inr (.inr (va_up (fun _ => none) (0 : Int32).toNatClampNeg (some g1))))))), (g1, .inr (6, [.int 0, .int x2, .int x3, .int x4, .ref g2, .int 0]))] sz)) 0 0 (va_A [(h0, .inr (10, ((oF q).set 2 (.int 1)))), ((q 1), .inl ((cq 1), 40, .inr (.inr (.inr (.inr (va_up (fun _ => none) (0 : Int32).toNatClampNeg (some g1))))))), (g1, .inr (6, [.int 0, .int x2, .int x3, .int x4, .ref g2, .int 0]))] sz) := by
  refine Met.ofW (cc := cX10_mergeGroups) (maxL := 6) (ret := none) (by decide) rfl ?_
  intro p e s m args below meth c s₁ B hml hv
  obtain ⟨rfl, hsz, hP, hK, hD0⟩ := hv
  have hx := B.exec
  have hb := B.bytes
  have hr := B.returns
  have hts := atoms_spec (ws := wsX10_mergeGroups) B.pre
  have hown : s.vm.findClass RX10 = some m.cls := findClass_of_methodNamed B.named
  have hlocks := B.notSynchronized
  subst hsz
  have hD := hD0.self (sz := s.heap.size)
  generalize hAe : va_A [(h0, .inr (10, ((oF q).set 2 (.int 1)))), ((q 1), .inl ((cq 1), 40, .inr (.inr (.inr (.inr (va_up (fun _ => none) (0 : Int32).toNatClampNeg (some g1))))))), (g1, .inr (6, [.int 0, .int x2, .int x3, .int x4, .ref g2, .int 0]))] s.heap.size = A at hD ⊢
  have hA : ∀ q : Nat, s.heap.size ≤ q → A q := fun q h => by rw [← hAe]; exact Or.inr h
  have hS : va_S A s.heap s.heap [] := va_S.rf
  have hP : va_P (dC, dI) vwCl [(h0, .inr (10, ((oF q).set 2 (.int 1)))), ((q 1), .inl ((cq 1), 40, .inr (.inr (.inr (.inr (va_up (fun _ => none) (0 : Int32).toNatClampNeg (some g1))))))), (g1, .inr (6, [.int 0, .int x2, .int x3, .int x4, .ref g2, .int 0]))] s.heap := hP
  have hl := lv_entry ([.ref h0, .int 0, .int 0]) (n := 6) (Nat.le_of_ble_eq_true rfl)
  rw [lg_entry_eq]
  generalize (lg_sl ([.ref h0, .int 0, .int 0]) ++ List.replicate (6 - (lg_sl ([.ref h0, .int 0, .int 0])).length) Slot.unset).toArray = ls at hl ⊢
  have hl : lv_has ls 6 [(0, .ref h0), (1, .int 0), (2, .int 0)] := hl
  refine lv_iload_n hx hb dX10_mergeGroups_0 rfl (lv_at hl 1 rfl) ?_
  refine lv_iload_n hx hb dX10_mergeGroups_1 rfl (lv_at hl 2 rfl) ?_
  refine va_mmin hx hb (by rw [hml]; exact hl.1.symm) hown (hts (.methodLink RX10 378 Lib.Math.min.name) (by decide +kernel)) (hts (.static Lib.Math.min.name) (by decide +kernel)) (hts (.initialized "java/lang/Math") (by decide +kernel)) (hts (.code Lib.Math.min.name Lib.Math.min.code 2 (some .int)) (by decide +kernel)) (Nat.le_of_ble_eq_true rfl) (Nat.le_of_ble_eq_true rfl) (Nat.le_of_ble_eq_true rfl) (Nat.le_of_ble_eq_true rfl) dX10_mergeGroups_2 ?_
  refine lv_topi (fun y ey => ?_)
  obtain rfl : y = 0 := ey.trans (by decide)
  refine lv_istore_n (lv' := [(3, .int 0), (0, .ref h0), (1, .int 0), (2, .int 0)]) hx hb dX10_mergeGroups_5 rfl hl (by decide) rfl (fun ls hl => ?_)
  refine lv_iload_n hx hb dX10_mergeGroups_6 rfl (lv_at hl 2 rfl) ?_
  refine lv_iload_n hx hb dX10_mergeGroups_7 rfl (lv_at hl 3 rfl) ?_
  refine va_mmax hx hb (by rw [hml]; exact hl.1.symm) hown (hts (.methodLink RX10 383 Lib.Math.max.name) (by decide +kernel)) (hts (.static Lib.Math.max.name) (by decide +kernel)) (hts (.initialized "java/lang/Math") (by decide +kernel)) (hts (.code Lib.Math.max.name Lib.Math.max.code 2 (some .int)) (by decide +kernel)) (Nat.le_of_ble_eq_true rfl) (Nat.le_of_ble_eq_true rfl) (Nat.le_of_ble_eq_true rfl) (Nat.le_of_ble_eq_true rfl) dX10_mergeGroups_8 ?_
  refine lv_topi (fun y ey => ?_)
  obtain rfl : y = 0 := ey.trans (by decide)
  refine lv_istore (lv' := [(4, .int 0), (3, .int 0), (0, .ref h0), (1, .int 0), (2, .int 0)]) hx hb dX10_mergeGroups_11 hl (by decide) rfl (fun ls hl => ?_)
  refine lv_iconst (v := 0) hx hb dX10_mergeGroups_13 (by decide) ?_
  refine lv_istore (lv' := [(5, .int 0), (4, .int 0), (3, .int 0), (0, .ref h0), (1, .int 0), (2, .int 0)]) hx hb dX10_mergeGroups_14 hl (by decide) rfl (fun ls hl => ?_)
  refine lv_iload hx hb dX10_mergeGroups_16 (lv_at hl 0 rfl) ?_
  refine lv_aload_n hx hb dX10_mergeGroups_18 rfl (lv_at hl 3 rfl) ?_
  refine va_get (D := (dC, dI)) (ci := 10) (v := .int 1) (C := RX10) (T := TX10) (N := 16) hx hb hts in_wsX10_mergeGroups_X10 hown hK hP 0 rfl rfl 2 (by decide) (hts (.fieldLink RX10 86 "ShipOffice" "manCount" "I") (by decide +kernel)) (fun _ h9 => h9) rfl dX10_mergeGroups_19 ?_
  refine lv_icmp_ge (tgt := 57) hx hb dX10_mergeGroups_22 (by decide) (fun c_1 => absurd c_1 (by decide)) (fun _ => ?_)
  refine lv_aload_n hx hb dX10_mergeGroups_25 rfl (lv_at hl 3 rfl) ?_
  refine va_get (D := (dC, dI)) (ci := 10) (v := .ref (q 1)) (C := RX10) (T := TX10) (N := 16) hx hb hts in_wsX10_mergeGroups_X10 hown hK hP 0 rfl rfl 1 (by decide) (hts (.fieldLink RX10 11 "ShipOffice" "men" "[LShipOffice$Man;") (by decide +kernel)) (fun _ h9 => h9) rfl dX10_mergeGroups_26 ?_
  refine lv_iload hx hb dX10_mergeGroups_29 (lv_at hl 0 rfl) ?_
  refine va_aldq hx hb hK hP 1 0 rfl rfl (by unfold vp_in; decide) dX10_mergeGroups_31 ?_
  refine W.eq (g2 := F0 m 32 ls [.ref g1]) rfl ?_
  refine va_get (D := (dC, dI)) (ci := 6) (v := .int 0) (C := RX6) (T := TX6) (N := 6) hx hb hts in_wsX10_mergeGroups_X6 hown hK hP 2 rfl rfl 5 (by decide) (hts (.fieldLink RX10 311 "ShipOffice$Man" "leastAlike" "I") (by decide +kernel)) (fun _ h9 => h9) rfl dX10_mergeGroups_32 ?_
  refine lv_iload hx hb dX10_mergeGroups_35 (lv_at hl 1 rfl) ?_
  refine lv_icmp_ne (tgt := 51) hx hb dX10_mergeGroups_37 (by decide) (fun c_2 => absurd c_2 (by decide)) (fun _ => ?_)
  refine lv_aload_n hx hb dX10_mergeGroups_40 rfl (lv_at hl 3 rfl) ?_
  refine va_get (D := (dC, dI)) (ci := 10) (v := .ref (q 1)) (C := RX10) (T := TX10) (N := 16) hx hb hts in_wsX10_mergeGroups_X10 hown hK hP 0 rfl rfl 1 (by decide) (hts (.fieldLink RX10 11 "ShipOffice" "men" "[LShipOffice$Man;") (by decide +kernel)) (fun _ h9 => h9) rfl dX10_mergeGroups_41 ?_
  refine lv_iload hx hb dX10_mergeGroups_44 (lv_at hl 0 rfl) ?_
  refine va_aldq hx hb hK hP 1 0 rfl rfl (by unfold vp_in; decide) dX10_mergeGroups_46 ?_
  refine W.eq (g2 := F0 m 47 ls [.ref g1]) rfl ?_
  refine lv_iload_n hx hb dX10_mergeGroups_47 rfl (lv_at hl 2 rfl) ?_
  refine va_put (D := (dC, dI)) (ci := 6) (v := .int 0) (ty := .int) (C := RX6) (T := TX6) (N := 6) hx hb hts in_wsX10_mergeGroups_X6 tyX6 tyX6_ok nmX6 hown hK hP hD hS 2 rfl rfl 5 (by decide) (hts (.fieldLink RX10 311 "ShipOffice$Man" "leastAlike" "I") (by decide +kernel)) (fun _ h9 => h9) rfl (by decide +kernel) rfl rfl (Nat.le_of_ble_eq_true rfl) dX10_mergeGroups_48 (fun H locs hP hD hS => ?_)
  have hP : va_P (dC, dI) vwCl [(h0, .inr (10, ((oF q).set 2 (.int 1)))), ((q 1), .inl ((cq 1), 40, .inr (.inr (.inr (.inr (va_up (fun _ => none) (0 : Int32).toNatClampNeg (some g1))))))), (g1, .inr (6, [.int 0, .int x2, .int x3, .int x4, .ref g2, .int 0]))] H := hP
  have hD : va_D A [(h0, .inr (10, ((oF q).set 2 (.int 1)))), ((q 1), .inl ((cq 1), 40, .inr (.inr (.inr (.inr (va_up (fun _ => none) (0 : Int32).toNatClampNeg (some g1))))))), (g1, .inr (6, [.int 0, .int x2, .int x3, .int x4, .ref g2, .int 0]))] := hD
  refine lv_iinc (v := 1) (lv' := [(5, .int 1), (4, .int 0), (3, .int 0), (0, .ref h0), (1, .int 0), (2, .int 0)]) hx hb dX10_mergeGroups_51 hl (k := 0) rfl (by decide) (by decide) rfl (fun ls hl => ?_)
  refine lv_goto (tgt := 16) hx hb dX10_mergeGroups_54 (by decide) ?_
  refine lv_iload hx hb dX10_mergeGroups_16 (lv_at hl 0 rfl) ?_
  refine lv_aload_n hx hb dX10_mergeGroups_18 rfl (lv_at hl 3 rfl) ?_
  refine va_get (D := (dC, dI)) (ci := 10) (v := .int 1) (C := RX10) (T := TX10) (N := 16) hx hb hts in_wsX10_mergeGroups_X10 hown hK hP 0 rfl rfl 2 (by decide) (hts (.fieldLink RX10 86 "ShipOffice" "manCount" "I") (by decide +kernel)) (fun _ h9 => h9) rfl dX10_mergeGroups_19 ?_
  refine lv_icmp_ge (tgt := 57) hx hb dX10_mergeGroups_22 (by decide) (fun _ => ?_) (fun c_3 => absurd c_3 (by decide))
  have hP9 := hP.sub (ws' := [(h0, .inr (10, ((oF q).set 2 (.int 1)))), ((q 1), .inl ((cq 1), 40, .inr (.inr (.inr (.inr (va_up (fun _ => none) (0 : Int32).toNatClampNeg (some g1))))))), (g1, .inr (6, [.int 0, .int x2, .int x3, .int x4, .ref g2, .int 0]))]) [0, 1, 2] rfl
  have hD9 := hD.sub (ws' := [(h0, .inr (10, ((oF q).set 2 (.int 1)))), ((q 1), .inl ((cq 1), 40, .inr (.inr (.inr (.inr (va_up (fun _ => none) (0 : Int32).toNatClampNeg (some g1))))))), (g1, .inr (6, [.int 0, .int x2, .int x3, .int x4, .ref g2, .int 0]))]) [0, 1, 2] (by decide) rfl
  have hK9 := hK.sub (tys' := [((cq 1), .object RX6)]) [0] rfl
  subst hAe
  exact W.vret hx hb hr (fun t ht hW => ⟨⟨(), rfl, trivial, ⟨by rw [ht]; exact hP9, va_K.moved hW.alike hK9, hD9⟩⟩, hS.F ht⟩) hS.2.2 dX10_mergeGroups_57
set_option maxHeartbeats 4000000 in
set_option maxRecDepth 100000 in
theorem c_X10_joinGroups (l : Launch) (dC : Nat → ClassId) (dI : Nat → Nat → Nat) (sz : Nat) (h0 : Nat) (q : Nat → Nat) (cq : Nat → ClassId) (g1 g2 : Nat) (x2 x3 x4 : Int32) : Met l yX10_joinGroups wsX10_joinGroups ({ frames := 2, cells := 0, slots := 0, locals := 41 }) (va_Pc [.ref h0, .ref g1] (pcW (dC, dI) [((cq 1), .object RX6)] [(h0, .inr (10, ((oF q).set 2 (.int 1)))), ((q 1), .inl ((cq 1), 40, .inr (.inr (.inr (.inr (va_up (fun _ => none) (0 : Int32).toNatClampNeg (some g1))))))), (g1, .inr (6, [.int 0, .int x2, .int x3, .int x4, .ref g2, .int 0]))] sz)) (va_Qv (fun (u : Unit) => True) (fun u t => va_P (dC, dI) vwCl [(h0, .inr (10, ((oF q).set 2 (.int 1)))), ((q 1), .inl ((cq 1), 40, .inr (.inr (.inr (.inr (va_up (fun _ => none) (0 : Int32).toNatClampNeg (some g1))))))), (g1, .inr (6, [.int 0, .int x2, .int x3, .int x4, .ref g2, .int 0]))] t.heap ∧ va_K (dC, dI) vwCl [((cq 1), .object RX6)] t ∧ va_D (va_A [(h0, .inr (10, ((oF q).set 2 (.int 1)))), ((q 1), .inl ((cq 1), 40, .inr (.inr (.inr (.inr (va_up (fun _ => none) (0 : Int32).toNatClampNeg (some g1))))))), (g1, .inr (6, [.int 0, .int x2, .int x3, .int x4, .ref g2, .int 0]))] sz) [(h0, .inr (10, ((oF q).set 2 (.int 1)))), ((q 1), .inl ((cq 1), 40, .inr (.inr (.inr (.inr (va_up (fun _ => none) (0 : Int32).toNatClampNeg (some g1))))))), (g1, .inr (6, [.int 0, .int x2, .int x3, .int x4, .ref g2, .int 0]))]) (va_A [(h0, .inr (10, ((oF q).set 2 (.int 1)))), ((q 1), .inl ((cq 1), 40, .inr (.inr (.inr (.inr (va_up (fun _ => none) (0 : Int32).toNatClampNeg (some g1))))))), (g1, .inr (6, [.int 0, .int x2, .int x3, .int x4, .ref g2, .int 0]))] sz)) 0 0 (va_A [(h0, .inr (10, ((oF q).set 2 (.int 1)))), ((q 1), .inl ((cq 1), 40, .inr (.inr (.inr (.inr (va_up (fun _ => none) (0 : Int32).toNatClampNeg (some g1))))))), (g1, .inr (6, [.int 0, .int x2, .int x3, .int x4, .ref g2, .int 0]))] sz) := by
  refine Met.ofW (cc := cX10_joinGroups) (maxL := 3) (ret := none) (by decide) rfl ?_
  intro p e s m args below meth c s₁ B hml hv
  obtain ⟨rfl, hsz, hP, hK, hD0⟩ := hv
  have hx := B.exec
  have hb := B.bytes
  have hr := B.returns
  have hts := atoms_spec (ws := wsX10_joinGroups) B.pre
  have hown : s.vm.findClass RX10 = some m.cls := findClass_of_methodNamed B.named
  have hlocks := B.notSynchronized
  subst hsz
  have hD := hD0.self (sz := s.heap.size)
  generalize hAe : va_A [(h0, .inr (10, ((oF q).set 2 (.int 1)))), ((q 1), .inl ((cq 1), 40, .inr (.inr (.inr (.inr (va_up (fun _ => none) (0 : Int32).toNatClampNeg (some g1))))))), (g1, .inr (6, [.int 0, .int x2, .int x3, .int x4, .ref g2, .int 0]))] s.heap.size = A at hD ⊢
  have hA : ∀ q : Nat, s.heap.size ≤ q → A q := fun q h => by rw [← hAe]; exact Or.inr h
  have hS : va_S A s.heap s.heap [] := va_S.rf
  have hP : va_P (dC, dI) vwCl [(h0, .inr (10, ((oF q).set 2 (.int 1)))), ((q 1), .inl ((cq 1), 40, .inr (.inr (.inr (.inr (va_up (fun _ => none) (0 : Int32).toNatClampNeg (some g1))))))), (g1, .inr (6, [.int 0, .int x2, .int x3, .int x4, .ref g2, .int 0]))] s.heap := hP
  have hl := lv_entry ([.ref h0, .ref g1]) (n := 3) (Nat.le_of_ble_eq_true rfl)
  rw [lg_entry_eq]
  generalize (lg_sl ([.ref h0, .ref g1]) ++ List.replicate (3 - (lg_sl ([.ref h0, .ref g1])).length) Slot.unset).toArray = ls at hl ⊢
  have hl : lv_has ls 3 [(0, .ref h0), (1, .ref g1)] := hl
  refine lv_iconst (v := 0) hx hb dX10_joinGroups_0 (by decide) ?_
  refine lv_istore_n (lv' := [(2, .int 0), (0, .ref h0), (1, .ref g1)]) hx hb dX10_joinGroups_1 rfl hl (by decide) rfl (fun ls hl => ?_)
  refine lv_iload_n hx hb dX10_joinGroups_2 rfl (lv_at hl 0 rfl) ?_
  refine lv_aload_n hx hb dX10_joinGroups_3 rfl (lv_at hl 1 rfl) ?_
  refine va_get (D := (dC, dI)) (ci := 10) (v := .int 1) (C := RX10) (T := TX10) (N := 16) hx hb hts in_wsX10_joinGroups_X10 hown hK hP 0 rfl rfl 2 (by decide) (hts (.fieldLink RX10 86 "ShipOffice" "manCount" "I") (by decide +kernel)) (fun _ h9 => h9) rfl dX10_joinGroups_4 ?_
  refine lv_icmp_ge (tgt := 46) hx hb dX10_joinGroups_7 (by decide) (fun c_1 => absurd c_1 (by decide)) (fun _ => ?_)
  refine lv_aload_n hx hb dX10_joinGroups_10 rfl (lv_at hl 2 rfl) ?_
  refine lv_aload_n hx hb dX10_joinGroups_11 rfl (lv_at hl 1 rfl) ?_
  refine va_get (D := (dC, dI)) (ci := 10) (v := .ref (q 1)) (C := RX10) (T := TX10) (N := 16) hx hb hts in_wsX10_joinGroups_X10 hown hK hP 0 rfl rfl 1 (by decide) (hts (.fieldLink RX10 11 "ShipOffice" "men" "[LShipOffice$Man;") (by decide +kernel)) (fun _ h9 => h9) rfl dX10_joinGroups_12 ?_
  refine lv_iload_n hx hb dX10_joinGroups_15 rfl (lv_at hl 0 rfl) ?_
  refine va_aldq hx hb hK hP 1 0 rfl rfl (by unfold vp_in; decide) dX10_joinGroups_16 ?_
  refine W.eq (g2 := F0 m 17 ls [.ref g1, .ref g1]) rfl ?_
  have hPc := hP.sub (ws' := [(g1, .inr (6, [.int 0, .int x2, .int x3, .int x4, .ref g2, .int 0]))]) [2] rfl
  have hDc := hD.sub (ws' := [(g1, .inr (6, [.int 0, .int x2, .int x3, .int x4, .ref g2, .int 0]))]) [2] (by decide) rfl
  have hKc := hK.sub (tys' := []) [] rfl
  have hFc : ∀ q, va_A [] s.heap.size q → A q := pu_free hS hA
  refine va_calli (va_runV (As := [.ref g1]) (rest := []) ⟨hx, hb, hml, hown, hts⟩ (c_X6_isAlike l dC dI s.heap.size g1 g2 x2 x3 x4) (cwV 1 hts gX10_joinGroups_X6_isAlike rfl rfl rfl (by decide +kernel) ⟨(Nat.le_of_ble_eq_true rfl), (Nat.le_of_ble_eq_true rfl)⟩) (pr_V (r := (RX6, TX6, 6)) hPc hKc hDc 0 6 rfl rfl) rfl rfl hl.1 rfl (lv_room (Nat.le_of_ble_eq_true rfl)) dX10_joinGroups_17 ⟨(Nat.le_of_ble_eq_true rfl), (Nat.le_of_ble_eq_true rfl)⟩) hS (fun q _ h => hFc q h) hFc (fun r_3 u t H locs ht hvm w_2 hB hz1 hk1 hS => ?_)
  have hP := pu_keep hP hk1
  clear hk1 hz1 hvm hB hPc hDc hKc hFc ht
  subst w_2
  refine lv_if_eq (tgt := 40) hx hb dX10_joinGroups_20 (by decide) (fun c_4 => absurd c_4 (by decide)) (fun _ => ?_)
  refine lv_aload_n hx hb dX10_joinGroups_23 rfl (lv_at hl 1 rfl) ?_
  refine lv_aload_n hx hb dX10_joinGroups_24 rfl (lv_at hl 2 rfl) ?_
  refine va_get (D := (dC, dI)) (ci := 6) (v := .int 0) (C := RX6) (T := TX6) (N := 6) hx hb hts in_wsX10_joinGroups_X6 hown hK hP 2 rfl rfl 5 (by decide) (hts (.fieldLink RX10 311 "ShipOffice$Man" "leastAlike" "I") (by decide +kernel)) (fun _ h9 => h9) rfl dX10_joinGroups_25 ?_
  refine lv_aload_n hx hb dX10_joinGroups_28 rfl (lv_at hl 1 rfl) ?_
  refine va_get (D := (dC, dI)) (ci := 10) (v := .ref (q 1)) (C := RX10) (T := TX10) (N := 16) hx hb hts in_wsX10_joinGroups_X10 hown hK hP 0 rfl rfl 1 (by decide) (hts (.fieldLink RX10 11 "ShipOffice" "men" "[LShipOffice$Man;") (by decide +kernel)) (fun _ h9 => h9) rfl dX10_joinGroups_29 ?_
  refine lv_iload_n hx hb dX10_joinGroups_32 rfl (lv_at hl 0 rfl) ?_
  refine va_aldq hx hb hK hP 1 0 rfl rfl (by unfold vp_in; decide) dX10_joinGroups_33 ?_
  refine W.eq (g2 := F0 m 34 ls [.ref g1, .int 0, .ref h0]) rfl ?_
  refine va_get (D := (dC, dI)) (ci := 6) (v := .int 0) (C := RX6) (T := TX6) (N := 6) hx hb hts in_wsX10_joinGroups_X6 hown hK hP 2 rfl rfl 5 (by decide) (hts (.fieldLink RX10 311 "ShipOffice$Man" "leastAlike" "I") (by decide +kernel)) (fun _ h9 => h9) rfl dX10_joinGroups_34 ?_
  have hPc := hP.sub (ws' := [(h0, .inr (10, ((oF q).set 2 (.int 1)))), ((q 1), .inl ((cq 1), 40, .inr (.inr (.inr (.inr (va_up (fun _ => none) (0 : Int32).toNatClampNeg (some g1))))))), (g1, .inr (6, [.int 0, .int x2, .int x3, .int x4, .ref g2, .int 0]))]) [0, 1, 2] rfl
  have hDc := hD.sub (ws' := [(h0, .inr (10, ((oF q).set 2 (.int 1)))), ((q 1), .inl ((cq 1), 40, .inr (.inr (.inr (.inr (va_up (fun _ => none) (0 : Int32).toNatClampNeg (some g1))))))), (g1, .inr (6, [.int 0, .int x2, .int x3, .int x4, .ref g2, .int 0]))]) [0, 1, 2] (by decide) rfl
  have hKc := hK.sub (tys' := [((cq 1), .object RX6)]) [0] rfl
  have hFc := va_free (wc := [(h0, .inr (10, ((oF q).set 2 (.int 1)))), ((q 1), .inl ((cq 1), 40, .inr (.inr (.inr (.inr (va_up (fun _ => none) (0 : Int32).toNatClampNeg (some g1))))))), (g1, .inr (6, [.int 0, .int x2, .int x3, .int x4, .ref g2, .int 0]))]) hD hS hA [0, 1, 2] rfl
  refine va_callv (va_runV (As := [.int 0, .int 0]) (rest := []) ⟨hx, hb, hml, hown, hts⟩ (c_X10_mergeGroups l dC dI H.size h0 q cq g1 g2 x2 x3 x4) (cwV 2 hts gX10_joinGroups_X10_mergeGroups rfl rfl rfl (by decide +kernel) ⟨(Nat.le_of_ble_eq_true rfl), (Nat.le_of_ble_eq_true rfl)⟩) (pr_V (r := (RX10, TX10, 16)) hPc hKc hDc 0 10 rfl rfl) rfl rfl hl.1 rfl (lv_room (Nat.le_of_ble_eq_true rfl)) dX10_joinGroups_37 ⟨(Nat.le_of_ble_eq_true rfl), (Nat.le_of_ble_eq_true rfl)⟩) hS (fun q _ h => hFc q h) hFc (fun u t H locs ht hvm w_5 hB hz1 hk1 hS => ?_)
  obtain ⟨hP1, hK1, hD1⟩ := hB
  rw [ht] at hP1
  have hK1 := va_K.moved hvm.symm hK1
  obtain ⟨hP, hD⟩ := va_join (wr := []) (w1 := [(h0, .inr (10, ((oF q).set 2 (.int 1)))), ((q 1), .inl ((cq 1), 40, .inr (.inr (.inr (.inr (va_up (fun _ => none) (0 : Int32).toNatClampNeg (some g1))))))), (g1, .inr (6, [.int 0, .int x2, .int x3, .int x4, .ref g2, .int 0]))]) hP hD [0, 1, 2] [] rfl rfl (by decide) (by decide) hk1 hFc hP1 hD1
  have hK := hK.app hK1
  have hP : va_P (dC, dI) vwCl [(h0, .inr (10, ((oF q).set 2 (.int 1)))), ((q 1), .inl ((cq 1), 40, .inr (.inr (.inr (.inr (va_up (fun _ => none) (0 : Int32).toNatClampNeg (some g1))))))), (g1, .inr (6, [.int 0, .int x2, .int x3, .int x4, .ref g2, .int 0]))] H := hP
  have hD : va_D A [(h0, .inr (10, ((oF q).set 2 (.int 1)))), ((q 1), .inl ((cq 1), 40, .inr (.inr (.inr (.inr (va_up (fun _ => none) (0 : Int32).toNatClampNeg (some g1))))))), (g1, .inr (6, [.int 0, .int x2, .int x3, .int x4, .ref g2, .int 0]))] := hD
  have hK : va_K (dC, dI) vwCl [((cq 1), .object RX6), ((cq 1), .object RX6)] s := hK
  clear hP1 hK1 hD1 hk1 hz1 hvm ht hPc hDc hKc hFc
  refine lv_iinc (v := 1) (lv' := [(2, .int 1), (0, .ref h0), (1, .ref g1)]) hx hb dX10_joinGroups_40 hl (k := 0) rfl (by decide) (by decide) rfl (fun ls hl => ?_)
  refine lv_goto (tgt := 2) hx hb dX10_joinGroups_43 (by decide) ?_
  refine lv_iload_n hx hb dX10_joinGroups_2 rfl (lv_at hl 0 rfl) ?_
  refine lv_aload_n hx hb dX10_joinGroups_3 rfl (lv_at hl 1 rfl) ?_
  refine va_get (D := (dC, dI)) (ci := 10) (v := .int 1) (C := RX10) (T := TX10) (N := 16) hx hb hts in_wsX10_joinGroups_X10 hown hK hP 0 rfl rfl 2 (by decide) (hts (.fieldLink RX10 86 "ShipOffice" "manCount" "I") (by decide +kernel)) (fun _ h9 => h9) rfl dX10_joinGroups_4 ?_
  refine lv_icmp_ge (tgt := 46) hx hb dX10_joinGroups_7 (by decide) (fun _ => ?_) (fun c_7 => absurd c_7 (by decide))
  have hP9 := hP.sub (ws' := [(h0, .inr (10, ((oF q).set 2 (.int 1)))), ((q 1), .inl ((cq 1), 40, .inr (.inr (.inr (.inr (va_up (fun _ => none) (0 : Int32).toNatClampNeg (some g1))))))), (g1, .inr (6, [.int 0, .int x2, .int x3, .int x4, .ref g2, .int 0]))]) [0, 1, 2] rfl
  have hD9 := hD.sub (ws' := [(h0, .inr (10, ((oF q).set 2 (.int 1)))), ((q 1), .inl ((cq 1), 40, .inr (.inr (.inr (.inr (va_up (fun _ => none) (0 : Int32).toNatClampNeg (some g1))))))), (g1, .inr (6, [.int 0, .int x2, .int x3, .int x4, .ref g2, .int 0]))]) [0, 1, 2] (by decide) rfl
  have hK9 := hK.sub (tys' := [((cq 1), .object RX6)]) [0] rfl
  subst hAe
  exact W.vret hx hb hr (fun t ht hW => ⟨⟨(), rfl, trivial, ⟨by rw [ht]; exact hP9, va_K.moved hW.alike hK9, hD9⟩⟩, hS.F ht⟩) hS.2.2 dX10_joinGroups_46
set_option maxHeartbeats 4000000 in
set_option maxRecDepth 100000 in
theorem c_X10_man (l : Launch) (dC : Nat → ClassId) (dI : Nat → Nat → Nat) (sz : Nat) (h0 : Nat) (q : Nat → Nat) (cq : Nat → ClassId) (a1 : Int32) (a2 : Int32) (a3 : Int32) : Met l yX10_man wsX10_man ({ frames := 3, cells := 2, slots := 10, locals := 63 }) (va_Pc [.ref h0, .int a1, .int a2, .int a3] (pcW (dC, dI) [((cq 15), .int), ((cq 1), .object RX6)] [(h0, .inr (10, oF q)), ((q 15), .inl ((cq 15), 7, .inl (fun _ => 0))), ((q 1), .inl ((cq 1), 40, .inr (.inr (.inr (.inr (fun _ => none))))))] sz)) (va_Qi (fun (r : Int32) (u : Unit) => r = sp_man a1 a2 a3) (fun _ _ => True) (va_A [(h0, .inr (10, oF q)), ((q 15), .inl ((cq 15), 7, .inl (fun _ => 0))), ((q 1), .inl ((cq 1), 40, .inr (.inr (.inr (.inr (fun _ => none))))))] sz)) 2 10 (va_A [(h0, .inr (10, oF q)), ((q 15), .inl ((cq 15), 7, .inl (fun _ => 0))), ((q 1), .inl ((cq 1), 40, .inr (.inr (.inr (.inr (fun _ => none))))))] sz) := by
  refine Met.ofW (cc := cX10_man) (maxL := 4) (ret := (some .int)) (by decide) rfl ?_
  intro p e s m args below meth c s₁ B hml hv
  obtain ⟨rfl, hsz, hP, hK, hD0⟩ := hv
  have hx := B.exec
  have hb := B.bytes
  have hr := B.returns
  have hts := atoms_spec (ws := wsX10_man) B.pre
  have hown : s.vm.findClass RX10 = some m.cls := findClass_of_methodNamed B.named
  have hlocks := B.notSynchronized
  subst hsz
  have hD := hD0.self (sz := s.heap.size)
  generalize hAe : va_A [(h0, .inr (10, oF q)), ((q 15), .inl ((cq 15), 7, .inl (fun _ => 0))), ((q 1), .inl ((cq 1), 40, .inr (.inr (.inr (.inr (fun _ => none))))))] s.heap.size = A at hD ⊢
  have hA : ∀ q : Nat, s.heap.size ≤ q → A q := fun q h => by rw [← hAe]; exact Or.inr h
  have hS : va_S A s.heap s.heap [] := va_S.rf
  have hP : va_P (dC, dI) vwCl [(h0, .inr (10, oF q)), ((q 15), .inl ((cq 15), 7, .inl (fun _ => 0))), ((q 1), .inl ((cq 1), 40, .inr (.inr (.inr (.inr (fun _ => none))))))] s.heap := hP
  have hl := lv_entry ([.ref h0, .int a1, .int a2, .int a3]) (n := 4) (Nat.le_of_ble_eq_true rfl)
  rw [lg_entry_eq]
  generalize (lg_sl ([.ref h0, .int a1, .int a2, .int a3]) ++ List.replicate (4 - (lg_sl ([.ref h0, .int a1, .int a2, .int a3])).length) Slot.unset).toArray = ls at hl ⊢
  have hl : lv_has ls 4 [(0, .ref h0), (1, .int a1), (2, .int a2), (3, .int a3)] := hl
  refine lv_iload_n hx hb dX10_man_0 rfl (lv_at hl 1 rfl) ?_
  refine lv_if_lt (tgt := 15) hx hb dX10_man_1 (by decide) (fun c_1 => ?_) (fun c_1 => ?_)
  · refine lv_aload_n hx hb dX10_man_15 rfl (lv_at hl 0 rfl) ?_
    refine lv_bipush (v := (-4)) hx hb dX10_man_16 (by decide) ?_
    have hPc := hP.sub (ws' := [(h0, .inr (10, oF q)), ((q 15), .inl ((cq 15), 7, .inl (fun _ => 0)))]) [0, 1] rfl
    have hDc := hD.sub (ws' := [(h0, .inr (10, oF q)), ((q 15), .inl ((cq 15), 7, .inl (fun _ => 0)))]) [0, 1] (by decide) rfl
    have hKc := hK.sub (tys' := [((cq 15), .int)]) [0] rfl
    have hFc := va_free (wc := [(h0, .inr (10, oF q)), ((q 15), .inl ((cq 15), 7, .inl (fun _ => 0)))]) hD hS hA [0, 1] rfl
    refine va_calli (va_runV (As := [.int (-4)]) (rest := []) ⟨hx, hb, hml, hown, hts⟩ (c_X10_refuse l dC dI s.heap.size h0 q cq (-4) (by unfold vp_in; decide)) (cwV 1 hts gX10_man_X10_refuse rfl rfl rfl (by decide +kernel) ⟨(Nat.le_of_ble_eq_true rfl), (Nat.le_of_ble_eq_true rfl)⟩) (pr_V (r := (RX10, TX10, 16)) hPc hKc hDc 0 10 rfl rfl) rfl rfl hl.1 rfl (lv_room (Nat.le_of_ble_eq_true rfl)) dX10_man_18 ⟨(Nat.le_of_ble_eq_true rfl), (Nat.le_of_ble_eq_true rfl)⟩) hS (fun q _ h => hFc q h) hFc (fun r_3 u t H locs ht hvm w_2 hB hz1 hk1 hS => ?_)
    subst w_2
    refine W.widen (k := 2) (n := 10) (Nat.le_of_ble_eq_true rfl) (Nat.le_of_ble_eq_true rfl) ?_
    exact W.iret (v := (-4)) hx hb hr (fun t ht hW => ⟨⟨(-4), (), rfl, (by simp [sp_man, c_1]), trivial⟩, hS.F ht⟩) hS.2.2 dX10_man_21
  · refine lv_iload_n hx hb dX10_man_4 rfl (lv_at hl 2 rfl) ?_
    refine lv_if_lt (tgt := 15) hx hb dX10_man_5 (by decide) (fun c_4 => ?_) (fun c_4 => ?_)
    · refine lv_aload_n hx hb dX10_man_15 rfl (lv_at hl 0 rfl) ?_
      refine lv_bipush (v := (-4)) hx hb dX10_man_16 (by decide) ?_
      have hPc := hP.sub (ws' := [(h0, .inr (10, oF q)), ((q 15), .inl ((cq 15), 7, .inl (fun _ => 0)))]) [0, 1] rfl
      have hDc := hD.sub (ws' := [(h0, .inr (10, oF q)), ((q 15), .inl ((cq 15), 7, .inl (fun _ => 0)))]) [0, 1] (by decide) rfl
      have hKc := hK.sub (tys' := [((cq 15), .int)]) [0] rfl
      have hFc := va_free (wc := [(h0, .inr (10, oF q)), ((q 15), .inl ((cq 15), 7, .inl (fun _ => 0)))]) hD hS hA [0, 1] rfl
      refine va_calli (va_runV (As := [.int (-4)]) (rest := []) ⟨hx, hb, hml, hown, hts⟩ (c_X10_refuse l dC dI s.heap.size h0 q cq (-4) (by unfold vp_in; decide)) (cwV 1 hts gX10_man_X10_refuse rfl rfl rfl (by decide +kernel) ⟨(Nat.le_of_ble_eq_true rfl), (Nat.le_of_ble_eq_true rfl)⟩) (pr_V (r := (RX10, TX10, 16)) hPc hKc hDc 0 10 rfl rfl) rfl rfl hl.1 rfl (lv_room (Nat.le_of_ble_eq_true rfl)) dX10_man_18 ⟨(Nat.le_of_ble_eq_true rfl), (Nat.le_of_ble_eq_true rfl)⟩) hS (fun q _ h => hFc q h) hFc (fun r_6 u t H locs ht hvm w_5 hB hz1 hk1 hS => ?_)
      subst w_5
      refine W.widen (k := 2) (n := 10) (Nat.le_of_ble_eq_true rfl) (Nat.le_of_ble_eq_true rfl) ?_
      exact W.iret (v := (-4)) hx hb hr (fun t ht hW => ⟨⟨(-4), (), rfl, (by simp [sp_man, c_1, c_4]), trivial⟩, hS.F ht⟩) hS.2.2 dX10_man_21
    · refine lv_iload_n hx hb dX10_man_8 rfl (lv_at hl 3 rfl) ?_
      refine lv_sipush (v := (-30000)) hx hb dX10_man_9 (by decide) ?_
      refine lv_icmp_ge (tgt := 22) hx hb dX10_man_12 (by decide) (fun c_7 => ?_) (fun c_7 => ?_)
      · refine lv_iload_n hx hb dX10_man_22 rfl (lv_at hl 1 rfl) ?_
        refine lv_sipush (v := 9999) hx hb dX10_man_23 (by decide) ?_
        refine lv_icmp_gt (tgt := 52) hx hb dX10_man_26 (by decide) (fun c_8 => ?_) (fun c_8 => ?_)
        · refine lv_aload_n hx hb dX10_man_52 rfl (lv_at hl 0 rfl) ?_
          refine lv_bipush (v := (-6)) hx hb dX10_man_53 (by decide) ?_
          have hPc := hP.sub (ws' := [(h0, .inr (10, oF q)), ((q 15), .inl ((cq 15), 7, .inl (fun _ => 0)))]) [0, 1] rfl
          have hDc := hD.sub (ws' := [(h0, .inr (10, oF q)), ((q 15), .inl ((cq 15), 7, .inl (fun _ => 0)))]) [0, 1] (by decide) rfl
          have hKc := hK.sub (tys' := [((cq 15), .int)]) [0] rfl
          have hFc := va_free (wc := [(h0, .inr (10, oF q)), ((q 15), .inl ((cq 15), 7, .inl (fun _ => 0)))]) hD hS hA [0, 1] rfl
          refine va_calli (va_runV (As := [.int (-6)]) (rest := []) ⟨hx, hb, hml, hown, hts⟩ (c_X10_refuse l dC dI s.heap.size h0 q cq (-6) (by unfold vp_in; decide)) (cwV 1 hts gX10_man_X10_refuse rfl rfl rfl (by decide +kernel) ⟨(Nat.le_of_ble_eq_true rfl), (Nat.le_of_ble_eq_true rfl)⟩) (pr_V (r := (RX10, TX10, 16)) hPc hKc hDc 0 10 rfl rfl) rfl rfl hl.1 rfl (lv_room (Nat.le_of_ble_eq_true rfl)) dX10_man_55 ⟨(Nat.le_of_ble_eq_true rfl), (Nat.le_of_ble_eq_true rfl)⟩) hS (fun q _ h => hFc q h) hFc (fun r_10 u t H locs ht hvm w_9 hB hz1 hk1 hS => ?_)
          subst w_9
          refine W.widen (k := 2) (n := 10) (Nat.le_of_ble_eq_true rfl) (Nat.le_of_ble_eq_true rfl) ?_
          exact W.iret (v := (-6)) hx hb hr (fun t ht hW => ⟨⟨(-6), (), rfl, (by simp [sp_man, c_1, c_4, c_7, c_8]), trivial⟩, hS.F ht⟩) hS.2.2 dX10_man_58
        · refine lv_iload_n hx hb dX10_man_29 rfl (lv_at hl 2 rfl) ?_
          refine lv_ldc (v := 99999) hx hb hown (hts (.constant RX10 85 (99999)) (by decide +kernel)) dX10_man_30 ?_
          refine lv_icmp_gt (tgt := 52) hx hb dX10_man_32 (by decide) (fun c_11 => ?_) (fun c_11 => ?_)
          · refine lv_aload_n hx hb dX10_man_52 rfl (lv_at hl 0 rfl) ?_
            refine lv_bipush (v := (-6)) hx hb dX10_man_53 (by decide) ?_
            have hPc := hP.sub (ws' := [(h0, .inr (10, oF q)), ((q 15), .inl ((cq 15), 7, .inl (fun _ => 0)))]) [0, 1] rfl
            have hDc := hD.sub (ws' := [(h0, .inr (10, oF q)), ((q 15), .inl ((cq 15), 7, .inl (fun _ => 0)))]) [0, 1] (by decide) rfl
            have hKc := hK.sub (tys' := [((cq 15), .int)]) [0] rfl
            have hFc := va_free (wc := [(h0, .inr (10, oF q)), ((q 15), .inl ((cq 15), 7, .inl (fun _ => 0)))]) hD hS hA [0, 1] rfl
            refine va_calli (va_runV (As := [.int (-6)]) (rest := []) ⟨hx, hb, hml, hown, hts⟩ (c_X10_refuse l dC dI s.heap.size h0 q cq (-6) (by unfold vp_in; decide)) (cwV 1 hts gX10_man_X10_refuse rfl rfl rfl (by decide +kernel) ⟨(Nat.le_of_ble_eq_true rfl), (Nat.le_of_ble_eq_true rfl)⟩) (pr_V (r := (RX10, TX10, 16)) hPc hKc hDc 0 10 rfl rfl) rfl rfl hl.1 rfl (lv_room (Nat.le_of_ble_eq_true rfl)) dX10_man_55 ⟨(Nat.le_of_ble_eq_true rfl), (Nat.le_of_ble_eq_true rfl)⟩) hS (fun q _ h => hFc q h) hFc (fun r_13 u t H locs ht hvm w_12 hB hz1 hk1 hS => ?_)
            subst w_12
            refine W.widen (k := 2) (n := 10) (Nat.le_of_ble_eq_true rfl) (Nat.le_of_ble_eq_true rfl) ?_
            exact W.iret (v := (-6)) hx hb hr (fun t ht hW => ⟨⟨(-6), (), rfl, (by simp [sp_man, c_1, c_4, c_7, c_8, c_11]), trivial⟩, hS.F ht⟩) hS.2.2 dX10_man_58
          · refine lv_iload_n hx hb dX10_man_35 rfl (lv_at hl 3 rfl) ?_
            refine lv_aload_n hx hb dX10_man_36 rfl (lv_at hl 0 rfl) ?_
            refine va_get (D := (dC, dI)) (ci := 10) (v := .int 0) (C := RX10) (T := TX10) (N := 16) hx hb hts in_wsX10_man_X10 hown hK hP 0 rfl rfl 0 (by decide) (hts (.fieldLink RX10 73 "ShipOffice" "now" "I") (by decide +kernel)) (fun _ h9 => h9) rfl dX10_man_37 ?_
            refine lv_icmp_gt (tgt := 52) hx hb dX10_man_40 (by decide) (fun c_14 => ?_) (fun c_14 => ?_)
            · refine lv_aload_n hx hb dX10_man_52 rfl (lv_at hl 0 rfl) ?_
              refine lv_bipush (v := (-6)) hx hb dX10_man_53 (by decide) ?_
              have hPc := hP.sub (ws' := [(h0, .inr (10, oF q)), ((q 15), .inl ((cq 15), 7, .inl (fun _ => 0)))]) [0, 1] rfl
              have hDc := hD.sub (ws' := [(h0, .inr (10, oF q)), ((q 15), .inl ((cq 15), 7, .inl (fun _ => 0)))]) [0, 1] (by decide) rfl
              have hKc := hK.sub (tys' := [((cq 15), .int)]) [0] rfl
              have hFc := va_free (wc := [(h0, .inr (10, oF q)), ((q 15), .inl ((cq 15), 7, .inl (fun _ => 0)))]) hD hS hA [0, 1] rfl
              refine va_calli (va_runV (As := [.int (-6)]) (rest := []) ⟨hx, hb, hml, hown, hts⟩ (c_X10_refuse l dC dI s.heap.size h0 q cq (-6) (by unfold vp_in; decide)) (cwV 1 hts gX10_man_X10_refuse rfl rfl rfl (by decide +kernel) ⟨(Nat.le_of_ble_eq_true rfl), (Nat.le_of_ble_eq_true rfl)⟩) (pr_V (r := (RX10, TX10, 16)) hPc hKc hDc 0 10 rfl rfl) rfl rfl hl.1 rfl (lv_room (Nat.le_of_ble_eq_true rfl)) dX10_man_55 ⟨(Nat.le_of_ble_eq_true rfl), (Nat.le_of_ble_eq_true rfl)⟩) hS (fun q _ h => hFc q h) hFc (fun r_16 u t H locs ht hvm w_15 hB hz1 hk1 hS => ?_)
              subst w_15
              refine W.widen (k := 2) (n := 10) (Nat.le_of_ble_eq_true rfl) (Nat.le_of_ble_eq_true rfl) ?_
              exact W.iret (v := (-6)) hx hb hr (fun t ht hW => ⟨⟨(-6), (), rfl, (by simp [sp_man, c_1, c_4, c_7, c_8, c_11, c_14]), trivial⟩, hS.F ht⟩) hS.2.2 dX10_man_58
            · refine lv_aload_n hx hb dX10_man_43 rfl (lv_at hl 0 rfl) ?_
              refine va_get (D := (dC, dI)) (ci := 10) (v := .int 0) (C := RX10) (T := TX10) (N := 16) hx hb hts in_wsX10_man_X10 hown hK hP 0 rfl rfl 2 (by decide) (hts (.fieldLink RX10 86 "ShipOffice" "manCount" "I") (by decide +kernel)) (fun _ h9 => h9) rfl dX10_man_44 ?_
              refine lv_bipush (v := 40) hx hb dX10_man_47 (by decide) ?_
              refine lv_icmp_lt (tgt := 59) hx hb dX10_man_49 (by decide) (fun _ => ?_) (fun c_17 => absurd c_17 (by decide))
              refine lv_aload_n hx hb dX10_man_59 rfl (lv_at hl 0 rfl) ?_
              refine va_get (D := (dC, dI)) (ci := 10) (v := .ref (q 1)) (C := RX10) (T := TX10) (N := 16) hx hb hts in_wsX10_man_X10 hown hK hP 0 rfl rfl 1 (by decide) (hts (.fieldLink RX10 11 "ShipOffice" "men" "[LShipOffice$Man;") (by decide +kernel)) (fun _ h9 => h9) rfl dX10_man_60 ?_
              refine lv_aload_n hx hb dX10_man_63 rfl (lv_at hl 0 rfl) ?_
              refine va_get (D := (dC, dI)) (ci := 10) (v := .int 0) (C := RX10) (T := TX10) (N := 16) hx hb hts in_wsX10_man_X10 hown hK hP 0 rfl rfl 2 (by decide) (hts (.fieldLink RX10 86 "ShipOffice" "manCount" "I") (by decide +kernel)) (fun _ h9 => h9) rfl dX10_man_64 ?_
              refine va_new (ci := 6) (fs := [.int 0, .int 0, .int 0, .int 0, .null, .int 0]) (C := RX6) (T := TX6) (N := 6) hx hb hts in_wsX10_man_X6 tyX6 tyX6_ok hown (hts (.classLink RX10 9 RX6) (by decide +kernel)) (hts (.instantiable RX6 6) (by decide +kernel)) (hts (.initialized RX6) (by decide +kernel)) hK hP hD hS hA rfl (fun j hj => by rcases (show j = 0 ∨ j = 1 ∨ j = 2 ∨ j = 3 ∨ j = 4 ∨ j = 5 by omega) with rfl | rfl | rfl | rfl | rfl | rfl <;> rfl) (Nat.le_of_ble_eq_true rfl) (Nat.le_of_ble_eq_true rfl) dX10_man_67 (fun q_18 H hP hD hS => ?_)
              have hP : va_P (dC, dI) vwCl [(h0, .inr (10, oF q)), ((q 15), .inl ((cq 15), 7, .inl (fun _ => 0))), ((q 1), .inl ((cq 1), 40, .inr (.inr (.inr (.inr (fun _ => none)))))), (q_18, .inr (6, [.int 0, .int 0, .int 0, .int 0, .null, .int 0]))] H := hP
              have hD : va_D A [(h0, .inr (10, oF q)), ((q 15), .inl ((cq 15), 7, .inl (fun _ => 0))), ((q 1), .inl ((cq 1), 40, .inr (.inr (.inr (.inr (fun _ => none)))))), (q_18, .inr (6, [.int 0, .int 0, .int 0, .int 0, .null, .int 0]))] := hD
              refine W.widen (k := 1) (n := 6) (Nat.le_of_ble_eq_true rfl) (Nat.le_of_ble_eq_true rfl) ?_
              refine lv_dup hx hb dX10_man_70 rfl ?_
              refine lv_aload_n hx hb dX10_man_71 rfl (lv_at hl 0 rfl) ?_
              refine va_get (D := (dC, dI)) (ci := 10) (v := .int 0) (C := RX10) (T := TX10) (N := 16) hx hb hts in_wsX10_man_X10 hown hK hP 0 rfl rfl 2 (by decide) (hts (.fieldLink RX10 86 "ShipOffice" "manCount" "I") (by decide +kernel)) (fun _ h9 => h9) rfl dX10_man_72 ?_
              refine lv_iload_n hx hb dX10_man_75 rfl (lv_at hl 1 rfl) ?_
              refine lv_iload_n hx hb dX10_man_76 rfl (lv_at hl 2 rfl) ?_
              refine lv_iload_n hx hb dX10_man_77 rfl (lv_at hl 3 rfl) ?_
              have hPc := hP.sub (ws' := [(q_18, .inr (6, [.int 0, .int 0, .int 0, .int 0, .null, .int 0]))]) [3] rfl
              have hDc := hD.sub (ws' := [(q_18, .inr (6, [.int 0, .int 0, .int 0, .int 0, .null, .int 0]))]) [3] (by decide) rfl
              have hKc := hK.sub (tys' := []) [] rfl
              have hFc := va_free (wc := [(q_18, .inr (6, [.int 0, .int 0, .int 0, .int 0, .null, .int 0]))]) hD hS hA [3] rfl
              refine va_callv (va_runI (As := [.int 0, .int a1, .int a2, .int a3]) (rest := [.ref q_18, .int 0, .ref (q 1)]) ⟨hx, hb, hml, hown, hts⟩ (c_X6_init l dC dI H.size q_18 0 a1 a2 a3) (cwI 4 hts gX10_man_X6_init rfl rfl rfl (hts (.initialized RX6) (by decide +kernel)) (hts (.methodLink RX10 89 yX6_init) (by decide +kernel)) (hts (.instanceMethod yX6_init) (by decide +kernel)) rfl (by decide +kernel) ⟨(Nat.le_of_ble_eq_true rfl), (Nat.le_of_ble_eq_true rfl)⟩) (pr_S hPc hKc hDc) rfl rfl hl.1 rfl (lv_room (Nat.le_of_ble_eq_true rfl)) dX10_man_78 ⟨(Nat.le_of_ble_eq_true rfl), (Nat.le_of_ble_eq_true rfl)⟩) hS (fun q _ h => hFc q h) hFc (fun u t H locs ht hvm w_19 hB hz1 hk1 hS => ?_)
              obtain ⟨q_21, k_22⟩ := u
              obtain ⟨hP1, hK1, hD1⟩ := hB
              rw [ht] at hP1
              have hK1 := va_K.moved hvm.symm hK1
              obtain ⟨hP, hD⟩ := va_join (wr := [(h0, .inr (10, oF q)), ((q 15), .inl ((cq 15), 7, .inl (fun _ => 0))), ((q 1), .inl ((cq 1), 40, .inr (.inr (.inr (.inr (fun _ => none))))))]) (w1 := [(q_18, .inr (6, [.int 0, .int a1, .int a2, .int a3, .ref q_21, .int 0])), (q_21, .inl (k_22, 4, .inl (fun _ => 0)))]) hP hD [3] [0, 1, 2] rfl rfl (by decide) (by decide) hk1 hFc hP1 hD1
              have hK := hK.app hK1
              have hP : va_P (dC, dI) vwCl [(h0, .inr (10, oF q)), ((q 15), .inl ((cq 15), 7, .inl (fun _ => 0))), ((q 1), .inl ((cq 1), 40, .inr (.inr (.inr (.inr (fun _ => none)))))), (q_18, .inr (6, [.int 0, .int a1, .int a2, .int a3, .ref q_21, .int 0])), (q_21, .inl (k_22, 4, .inl (fun _ => 0)))] H := hP
              have hD : va_D A [(h0, .inr (10, oF q)), ((q 15), .inl ((cq 15), 7, .inl (fun _ => 0))), ((q 1), .inl ((cq 1), 40, .inr (.inr (.inr (.inr (fun _ => none)))))), (q_18, .inr (6, [.int 0, .int a1, .int a2, .int a3, .ref q_21, .int 0])), (q_21, .inl (k_22, 4, .inl (fun _ => 0)))] := hD
              have hK : va_K (dC, dI) vwCl [((cq 15), .int), ((cq 1), .object RX6), (k_22, .int)] s := hK
              clear hP1 hK1 hD1 hk1 hz1 hvm ht hPc hDc hKc hFc
              refine W.widen (k := 2) (n := 10) (Nat.le_of_ble_eq_true rfl) (Nat.le_of_ble_eq_true rfl) ?_
              refine va_astq (r := (RX6, TX6, 6)) hx hb hK hP hD hS 2 1 3 6 rfl rfl rfl rfl (by unfold vp_in; decide) dX10_man_81 (fun H locs hP hD hS => ?_)
              have hP : va_P (dC, dI) vwCl [(h0, .inr (10, oF q)), ((q 15), .inl ((cq 15), 7, .inl (fun _ => 0))), ((q 1), .inl ((cq 1), 40, .inr (.inr (.inr (.inr (va_up (fun _ => none) (0 : Int32).toNatClampNeg (some q_18))))))), (q_18, .inr (6, [.int 0, .int a1, .int a2, .int a3, .ref q_21, .int 0])), (q_21, .inl (k_22, 4, .inl (fun _ => 0)))] H := hP
              have hD : va_D A [(h0, .inr (10, oF q)), ((q 15), .inl ((cq 15), 7, .inl (fun _ => 0))), ((q 1), .inl ((cq 1), 40, .inr (.inr (.inr (.inr (va_up (fun _ => none) (0 : Int32).toNatClampNeg (some q_18))))))), (q_18, .inr (6, [.int 0, .int a1, .int a2, .int a3, .ref q_21, .int 0])), (q_21, .inl (k_22, 4, .inl (fun _ => 0)))] := hD
              refine lv_aload_n hx hb dX10_man_82 rfl (lv_at hl 0 rfl) ?_
              refine lv_dup hx hb dX10_man_83 rfl ?_
              refine va_get (D := (dC, dI)) (ci := 10) (v := .int 0) (C := RX10) (T := TX10) (N := 16) hx hb hts in_wsX10_man_X10 hown hK hP 0 rfl rfl 2 (by decide) (hts (.fieldLink RX10 86 "ShipOffice" "manCount" "I") (by decide +kernel)) (fun _ h9 => h9) rfl dX10_man_84 ?_
              refine lv_iconst (v := 1) hx hb dX10_man_87 (by decide) ?_
              refine lv_iadd hx hb dX10_man_88 ?_
              refine lv_topi (fun y ey => ?_)
              obtain rfl : y = 1 := ey.trans (by decide)
              refine va_put (D := (dC, dI)) (ci := 10) (v := .int 1) (ty := .int) (C := RX10) (T := TX10) (N := 16) hx hb hts in_wsX10_man_X10 tyX10 tyX10_ok nmX10 hown hK hP hD hS 0 rfl rfl 2 (by decide) (hts (.fieldLink RX10 86 "ShipOffice" "manCount" "I") (by decide +kernel)) (fun _ h9 => h9) rfl (by decide +kernel) rfl rfl (Nat.le_of_ble_eq_true rfl) dX10_man_89 (fun H locs hP hD hS => ?_)
              have hP : va_P (dC, dI) vwCl [(h0, .inr (10, ((oF q).set 2 (.int 1)))), ((q 15), .inl ((cq 15), 7, .inl (fun _ => 0))), ((q 1), .inl ((cq 1), 40, .inr (.inr (.inr (.inr (va_up (fun _ => none) (0 : Int32).toNatClampNeg (some q_18))))))), (q_18, .inr (6, [.int 0, .int a1, .int a2, .int a3, .ref q_21, .int 0])), (q_21, .inl (k_22, 4, .inl (fun _ => 0)))] H := hP
              have hD : va_D A [(h0, .inr (10, ((oF q).set 2 (.int 1)))), ((q 15), .inl ((cq 15), 7, .inl (fun _ => 0))), ((q 1), .inl ((cq 1), 40, .inr (.inr (.inr (.inr (va_up (fun _ => none) (0 : Int32).toNatClampNeg (some q_18))))))), (q_18, .inr (6, [.int 0, .int a1, .int a2, .int a3, .ref q_21, .int 0])), (q_21, .inl (k_22, 4, .inl (fun _ => 0)))] := hD
              refine lv_aload_n hx hb dX10_man_92 rfl (lv_at hl 0 rfl) ?_
              refine lv_aload_n hx hb dX10_man_93 rfl (lv_at hl 0 rfl) ?_
              refine va_get (D := (dC, dI)) (ci := 10) (v := .ref (q 1)) (C := RX10) (T := TX10) (N := 16) hx hb hts in_wsX10_man_X10 hown hK hP 0 rfl rfl 1 (by decide) (hts (.fieldLink RX10 11 "ShipOffice" "men" "[LShipOffice$Man;") (by decide +kernel)) (fun _ h9 => h9) rfl dX10_man_94 ?_
              refine lv_aload_n hx hb dX10_man_97 rfl (lv_at hl 0 rfl) ?_
              refine va_get (D := (dC, dI)) (ci := 10) (v := .int 1) (C := RX10) (T := TX10) (N := 16) hx hb hts in_wsX10_man_X10 hown hK hP 0 rfl rfl 2 (by decide) (hts (.fieldLink RX10 86 "ShipOffice" "manCount" "I") (by decide +kernel)) (fun _ h9 => h9) rfl dX10_man_98 ?_
              refine lv_iconst (v := 1) hx hb dX10_man_101 (by decide) ?_
              refine lv_isub hx hb dX10_man_102 ?_
              refine lv_topi (fun y ey => ?_)
              obtain rfl : y = 0 := ey.trans (by decide)
              refine va_aldq hx hb hK hP 2 1 rfl rfl (by unfold vp_in; decide) dX10_man_103 ?_
              refine W.eq (g2 := F0 m 104 ls [.ref q_18, .ref h0]) rfl ?_
              have hPc := hP.sub (ws' := [(h0, .inr (10, ((oF q).set 2 (.int 1)))), ((q 1), .inl ((cq 1), 40, .inr (.inr (.inr (.inr (va_up (fun _ => none) (0 : Int32).toNatClampNeg (some q_18))))))), (q_18, .inr (6, [.int 0, .int a1, .int a2, .int a3, .ref q_21, .int 0]))]) [0, 2, 3] rfl
              have hDc := hD.sub (ws' := [(h0, .inr (10, ((oF q).set 2 (.int 1)))), ((q 1), .inl ((cq 1), 40, .inr (.inr (.inr (.inr (va_up (fun _ => none) (0 : Int32).toNatClampNeg (some q_18))))))), (q_18, .inr (6, [.int 0, .int a1, .int a2, .int a3, .ref q_21, .int 0]))]) [0, 2, 3] (by decide) rfl
              have hKc := hK.sub (tys' := [((cq 1), .object RX6)]) [1] rfl
              have hFc := va_free (wc := [(h0, .inr (10, ((oF q).set 2 (.int 1)))), ((q 1), .inl ((cq 1), 40, .inr (.inr (.inr (.inr (va_up (fun _ => none) (0 : Int32).toNatClampNeg (some q_18))))))), (q_18, .inr (6, [.int 0, .int a1, .int a2, .int a3, .ref q_21, .int 0]))]) hD hS hA [0, 2, 3] rfl
              refine va_callv (va_runV (As := [.ref q_18]) (rest := []) ⟨hx, hb, hml, hown, hts⟩ (c_X10_joinGroups l dC dI H.size h0 q cq q_18 q_21 a1 a2 a3) (cwV 1 hts gX10_man_X10_joinGroups rfl rfl rfl (by decide +kernel) ⟨(Nat.le_of_ble_eq_true rfl), (Nat.le_of_ble_eq_true rfl)⟩) (pr_V (r := (RX10, TX10, 16)) hPc hKc hDc 0 10 rfl rfl) rfl rfl hl.1 rfl (lv_room (Nat.le_of_ble_eq_true rfl)) dX10_man_104 ⟨(Nat.le_of_ble_eq_true rfl), (Nat.le_of_ble_eq_true rfl)⟩) hS (fun q _ h => hFc q h) hFc (fun u t H locs ht hvm w_23 hB hz1 hk1 hS => ?_)
              obtain ⟨hP1, hK1, hD1⟩ := hB
              rw [ht] at hP1
              have hK1 := va_K.moved hvm.symm hK1
              obtain ⟨hP, hD⟩ := va_join (wr := [((q 15), .inl ((cq 15), 7, .inl (fun _ => 0))), (q_21, .inl (k_22, 4, .inl (fun _ => 0)))]) (w1 := [(h0, .inr (10, ((oF q).set 2 (.int 1)))), ((q 1), .inl ((cq 1), 40, .inr (.inr (.inr (.inr (va_up (fun _ => none) (0 : Int32).toNatClampNeg (some q_18))))))), (q_18, .inr (6, [.int 0, .int a1, .int a2, .int a3, .ref q_21, .int 0]))]) hP hD [0, 2, 3] [1, 4] rfl rfl (by decide) (by decide) hk1 hFc hP1 hD1
              have hK := hK.app hK1
              have hP : va_P (dC, dI) vwCl [((q 15), .inl ((cq 15), 7, .inl (fun _ => 0))), (q_21, .inl (k_22, 4, .inl (fun _ => 0))), (h0, .inr (10, ((oF q).set 2 (.int 1)))), ((q 1), .inl ((cq 1), 40, .inr (.inr (.inr (.inr (va_up (fun _ => none) (0 : Int32).toNatClampNeg (some q_18))))))), (q_18, .inr (6, [.int 0, .int a1, .int a2, .int a3, .ref q_21, .int 0]))] H := hP
              have hD : va_D A [((q 15), .inl ((cq 15), 7, .inl (fun _ => 0))), (q_21, .inl (k_22, 4, .inl (fun _ => 0))), (h0, .inr (10, ((oF q).set 2 (.int 1)))), ((q 1), .inl ((cq 1), 40, .inr (.inr (.inr (.inr (va_up (fun _ => none) (0 : Int32).toNatClampNeg (some q_18))))))), (q_18, .inr (6, [.int 0, .int a1, .int a2, .int a3, .ref q_21, .int 0]))] := hD
              have hK : va_K (dC, dI) vwCl [((cq 15), .int), ((cq 1), .object RX6), (k_22, .int), ((cq 1), .object RX6)] s := hK
              clear hP1 hK1 hD1 hk1 hz1 hvm ht hPc hDc hKc hFc
              refine lv_aload_n hx hb dX10_man_107 rfl (lv_at hl 0 rfl) ?_
              refine va_get (D := (dC, dI)) (ci := 10) (v := .int 1) (C := RX10) (T := TX10) (N := 16) hx hb hts in_wsX10_man_X10 hown hK hP 2 rfl rfl 2 (by decide) (hts (.fieldLink RX10 86 "ShipOffice" "manCount" "I") (by decide +kernel)) (fun _ h9 => h9) rfl dX10_man_108 ?_
              refine lv_iconst (v := 1) hx hb dX10_man_111 (by decide) ?_
              refine lv_isub hx hb dX10_man_112 ?_
              refine lv_topi (fun y ey => ?_)
              obtain rfl : y = 0 := ey.trans (by decide)
              exact W.iret (v := 0) hx hb hr (fun t ht hW => ⟨⟨0, (), rfl, (by simp [sp_man, c_1, c_4, c_7, c_8, c_11, c_14]), trivial⟩, hS.F ht⟩) hS.2.2 dX10_man_113
      · refine lv_aload_n hx hb dX10_man_15 rfl (lv_at hl 0 rfl) ?_
        refine lv_bipush (v := (-4)) hx hb dX10_man_16 (by decide) ?_
        have hPc := hP.sub (ws' := [(h0, .inr (10, oF q)), ((q 15), .inl ((cq 15), 7, .inl (fun _ => 0)))]) [0, 1] rfl
        have hDc := hD.sub (ws' := [(h0, .inr (10, oF q)), ((q 15), .inl ((cq 15), 7, .inl (fun _ => 0)))]) [0, 1] (by decide) rfl
        have hKc := hK.sub (tys' := [((cq 15), .int)]) [0] rfl
        have hFc := va_free (wc := [(h0, .inr (10, oF q)), ((q 15), .inl ((cq 15), 7, .inl (fun _ => 0)))]) hD hS hA [0, 1] rfl
        refine va_calli (va_runV (As := [.int (-4)]) (rest := []) ⟨hx, hb, hml, hown, hts⟩ (c_X10_refuse l dC dI s.heap.size h0 q cq (-4) (by unfold vp_in; decide)) (cwV 1 hts gX10_man_X10_refuse rfl rfl rfl (by decide +kernel) ⟨(Nat.le_of_ble_eq_true rfl), (Nat.le_of_ble_eq_true rfl)⟩) (pr_V (r := (RX10, TX10, 16)) hPc hKc hDc 0 10 rfl rfl) rfl rfl hl.1 rfl (lv_room (Nat.le_of_ble_eq_true rfl)) dX10_man_18 ⟨(Nat.le_of_ble_eq_true rfl), (Nat.le_of_ble_eq_true rfl)⟩) hS (fun q _ h => hFc q h) hFc (fun r_26 u t H locs ht hvm w_25 hB hz1 hk1 hS => ?_)
        subst w_25
        refine W.widen (k := 2) (n := 10) (Nat.le_of_ble_eq_true rfl) (Nat.le_of_ble_eq_true rfl) ?_
        exact W.iret (v := (-4)) hx hb hr (fun t ht hW => ⟨⟨(-4), (), rfl, (by simp [sp_man, c_1, c_4, c_7]), trivial⟩, hS.F ht⟩) hS.2.2 dX10_man_21
set_option maxHeartbeats 4000000 in
set_option maxRecDepth 100000 in
theorem c_X10_hasVoyage (l : Launch) (dC : Nat → ClassId) (dI : Nat → Nat → Nat) (sz : Nat) (h0 : Nat) (q : Nat → Nat) (cq : Nat → ClassId) (n : Int32) : Met l yX10_hasVoyage wsX10_hasVoyage ({ frames := 0, cells := 0, slots := 0, locals := 0 }) (va_Pc [.ref h0, .int n] (pcW (dC, dI) [] [(h0, .inr (10, oF q))] sz)) (va_Qi (fun (r : Int32) (u : Unit) => r = 0) (fun _ _ => True) (va_A [] sz)) 0 0 (va_A [] sz) := by
  refine Met.ofW (cc := cX10_hasVoyage) (maxL := 3) (ret := (some .boolean)) (by decide) rfl ?_
  intro p e s m args below meth c s₁ B hml hv
  obtain ⟨rfl, hsz, hP, hK, hD0⟩ := hv
  have hx := B.exec
  have hb := B.bytes
  have hr := B.returns
  have hts := atoms_spec (ws := wsX10_hasVoyage) B.pre
  have hown : s.vm.findClass RX10 = some m.cls := findClass_of_methodNamed B.named
  have hlocks := B.notSynchronized
  subst hsz
  have hD := hD0
  generalize hAe : va_A [] s.heap.size = A at ⊢
  have hA : ∀ q : Nat, s.heap.size ≤ q → A q := fun q h => by rw [← hAe]; exact Or.inr h
  have hS : va_S A s.heap s.heap [] := va_S.rf
  have hP : va_P (dC, dI) vwCl [(h0, .inr (10, oF q))] s.heap := hP
  have hl := lv_entry ([.ref h0, .int n]) (n := 3) (Nat.le_of_ble_eq_true rfl)
  rw [lg_entry_eq]
  generalize (lg_sl ([.ref h0, .int n]) ++ List.replicate (3 - (lg_sl ([.ref h0, .int n])).length) Slot.unset).toArray = ls at hl ⊢
  have hl : lv_has ls 3 [(0, .ref h0), (1, .int n)] := hl
  refine lv_iconst (v := 0) hx hb dX10_hasVoyage_0 (by decide) ?_
  refine lv_istore_n (lv' := [(2, .int 0), (0, .ref h0), (1, .int n)]) hx hb dX10_hasVoyage_1 rfl hl (by decide) rfl (fun ls hl => ?_)
  refine lv_iload_n hx hb dX10_hasVoyage_2 rfl (lv_at hl 0 rfl) ?_
  refine lv_aload_n hx hb dX10_hasVoyage_3 rfl (lv_at hl 1 rfl) ?_
  refine va_get (D := (dC, dI)) (ci := 10) (v := .int 0) (C := RX10) (T := TX10) (N := 16) hx hb hts in_wsX10_hasVoyage_X10 hown hK hP 0 rfl rfl 4 (by decide) (hts (.fieldLink RX10 99 "ShipOffice" "voyageCount" "I") (by decide +kernel)) (fun _ h9 => h9) rfl dX10_hasVoyage_4 ?_
  refine lv_icmp_ge (tgt := 43) hx hb dX10_hasVoyage_7 (by decide) (fun _ => ?_) (fun c_1 => absurd c_1 (by decide))
  refine lv_iconst (v := 0) hx hb dX10_hasVoyage_43 (by decide) ?_
  exact W.zret (v := 0) hx hb hr rfl (fun t ht hW => ⟨⟨0, (), rfl, rfl, trivial⟩, hS.F ht⟩) hS.2.2 dX10_hasVoyage_44
set_option maxHeartbeats 4000000 in
set_option maxRecDepth 100000 in
theorem c_X9_init (l : Launch) (dC : Nat → ClassId) (dI : Nat → Nat → Nat) (sz : Nat) (g1 : Nat) (x1 x2 x3 x4 : Int32) : Met l yX9_init wsX9_init ({ frames := 1, cells := 0, slots := 0, locals := 14 }) (va_Pc [.ref g1, .int x1, .int x2, .int x3, .int x4] (pcW (dC, dI) [] [(g1, .inr (9, [.int 0, .int 0, .int 0, .int 0, .int 0, .int 0, .int 0, .int 0, .int 0, .null]))] sz)) (va_Qv (fun (u : Unit) => True) (fun u t => va_P (dC, dI) vwCl [(g1, .inr (9, [.int x1, .int x2, .int x3, .int x4, .int 0, .int 1000000, .int 1000000, .int 1000000, .int 1000000, .null]))] t.heap ∧ va_K (dC, dI) vwCl [] t ∧ va_D (va_A [(g1, .inr (9, [.int 0, .int 0, .int 0, .int 0, .int 0, .int 0, .int 0, .int 0, .int 0, .null]))] sz) [(g1, .inr (9, [.int x1, .int x2, .int x3, .int x4, .int 0, .int 1000000, .int 1000000, .int 1000000, .int 1000000, .null]))]) (va_A [(g1, .inr (9, [.int 0, .int 0, .int 0, .int 0, .int 0, .int 0, .int 0, .int 0, .int 0, .null]))] sz)) 0 0 (va_A [(g1, .inr (9, [.int 0, .int 0, .int 0, .int 0, .int 0, .int 0, .int 0, .int 0, .int 0, .null]))] sz) := by
  refine Met.ofW (cc := cX9_init) (maxL := 5) (ret := none) (by decide) rfl ?_
  intro p e s m args below meth c s₁ B hml hv
  obtain ⟨rfl, hsz, hP, hK, hD0⟩ := hv
  have hx := B.exec
  have hb := B.bytes
  have hr := B.returns
  have hts := atoms_spec (ws := wsX9_init) B.pre
  have hown : s.vm.findClass RX9 = some m.cls := findClass_of_methodNamed B.named
  have hlocks := B.notSynchronized
  have hin : meth.name = "<init>" := (name_of_methodNamed B.named B.method).1
  subst hsz
  have hD := hD0.self (sz := s.heap.size)
  generalize hAe : va_A [(g1, .inr (9, [.int 0, .int 0, .int 0, .int 0, .int 0, .int 0, .int 0, .int 0, .int 0, .null]))] s.heap.size = A at hD ⊢
  have hA : ∀ q : Nat, s.heap.size ≤ q → A q := fun q h => by rw [← hAe]; exact Or.inr h
  have hS : va_S A s.heap s.heap [] := va_S.rf
  have hP : va_P (dC, dI) vwCl [(g1, .inr (9, [.int 0, .int 0, .int 0, .int 0, .int 0, .int 0, .int 0, .int 0, .int 0, .null]))] s.heap := hP
  have hl := lv_entry ([.ref g1, .int x1, .int x2, .int x3, .int x4]) (n := 5) (Nat.le_of_ble_eq_true rfl)
  rw [lg_entry_eq]
  generalize (lg_sl ([.ref g1, .int x1, .int x2, .int x3, .int x4]) ++ List.replicate (5 - (lg_sl ([.ref g1, .int x1, .int x2, .int x3, .int x4])).length) Slot.unset).toArray = ls at hl ⊢
  have hl : lv_has ls 5 [(0, .ref g1), (1, .int x1), (2, .int x2), (3, .int x3), (4, .int x4)] := hl
  refine lv_aload_n hx hb dX9_init_0 rfl (lv_at hl 0 rfl) ?_
  refine W.objInit hx hb hown (hts (.methodLink RX9 3 objectInit) (by decide +kernel)) (hts (.instanceMethod objectInit) (by decide +kernel)) (hts (.code objectInit ⟨#[0xb1]⟩ 1 none) (in_obj_wsX9_init)) rfl (by rw [hml]; exact hl.1) rfl dX9_init_1 (Nat.le_of_ble_eq_true rfl) (Nat.le_of_ble_eq_true rfl) ?_
  refine W.eq (g2 := F0 m 4 ls []) rfl ?_
  refine lv_aload_n hx hb dX9_init_4 rfl (lv_at hl 0 rfl) ?_
  refine lv_ldc (v := 1000000) hx hb hown (hts (.constant RX9 9 (1000000)) (by decide +kernel)) dX9_init_5 ?_
  refine va_put (D := (dC, dI)) (ci := 9) (v := .int 1000000) (ty := .int) (C := RX9) (T := TX9) (N := 10) hx hb hts in_wsX9_init_X9 tyX9 tyX9_ok nmX9 hown hK hP hD hS 0 rfl rfl 5 (by decide) (hts (.fieldLink RX9 10 "ShipOffice$Voyage" "sailedDay" "I") (by decide +kernel)) (fun _ h9 => h9) rfl (by decide +kernel) rfl rfl (Nat.le_of_ble_eq_true rfl) dX9_init_7 (fun H locs hP hD hS => ?_)
  have hP : va_P (dC, dI) vwCl [(g1, .inr (9, [.int 0, .int 0, .int 0, .int 0, .int 0, .int 1000000, .int 0, .int 0, .int 0, .null]))] H := hP
  have hD : va_D A [(g1, .inr (9, [.int 0, .int 0, .int 0, .int 0, .int 0, .int 1000000, .int 0, .int 0, .int 0, .null]))] := hD
  refine lv_aload_n hx hb dX9_init_10 rfl (lv_at hl 0 rfl) ?_
  refine lv_ldc (v := 1000000) hx hb hown (hts (.constant RX9 9 (1000000)) (by decide +kernel)) dX9_init_11 ?_
  refine va_put (D := (dC, dI)) (ci := 9) (v := .int 1000000) (ty := .int) (C := RX9) (T := TX9) (N := 10) hx hb hts in_wsX9_init_X9 tyX9 tyX9_ok nmX9 hown hK hP hD hS 0 rfl rfl 6 (by decide) (hts (.fieldLink RX9 16 "ShipOffice$Voyage" "sailedTold" "I") (by decide +kernel)) (fun _ h9 => h9) rfl (by decide +kernel) rfl rfl (Nat.le_of_ble_eq_true rfl) dX9_init_13 (fun H locs hP hD hS => ?_)
  have hP : va_P (dC, dI) vwCl [(g1, .inr (9, [.int 0, .int 0, .int 0, .int 0, .int 0, .int 1000000, .int 1000000, .int 0, .int 0, .null]))] H := hP
  have hD : va_D A [(g1, .inr (9, [.int 0, .int 0, .int 0, .int 0, .int 0, .int 1000000, .int 1000000, .int 0, .int 0, .null]))] := hD
  refine lv_aload_n hx hb dX9_init_16 rfl (lv_at hl 0 rfl) ?_
  refine lv_ldc (v := 1000000) hx hb hown (hts (.constant RX9 9 (1000000)) (by decide +kernel)) dX9_init_17 ?_
  refine va_put (D := (dC, dI)) (ci := 9) (v := .int 1000000) (ty := .int) (C := RX9) (T := TX9) (N := 10) hx hb hts in_wsX9_init_X9 tyX9 tyX9_ok nmX9 hown hK hP hD hS 0 rfl rfl 7 (by decide) (hts (.fieldLink RX9 19 "ShipOffice$Voyage" "lostDay" "I") (by decide +kernel)) (fun _ h9 => h9) rfl (by decide +kernel) rfl rfl (Nat.le_of_ble_eq_true rfl) dX9_init_19 (fun H locs hP hD hS => ?_)
  have hP : va_P (dC, dI) vwCl [(g1, .inr (9, [.int 0, .int 0, .int 0, .int 0, .int 0, .int 1000000, .int 1000000, .int 1000000, .int 0, .null]))] H := hP
  have hD : va_D A [(g1, .inr (9, [.int 0, .int 0, .int 0, .int 0, .int 0, .int 1000000, .int 1000000, .int 1000000, .int 0, .null]))] := hD
  refine lv_aload_n hx hb dX9_init_22 rfl (lv_at hl 0 rfl) ?_
  refine lv_ldc (v := 1000000) hx hb hown (hts (.constant RX9 9 (1000000)) (by decide +kernel)) dX9_init_23 ?_
  refine va_put (D := (dC, dI)) (ci := 9) (v := .int 1000000) (ty := .int) (C := RX9) (T := TX9) (N := 10) hx hb hts in_wsX9_init_X9 tyX9 tyX9_ok nmX9 hown hK hP hD hS 0 rfl rfl 8 (by decide) (hts (.fieldLink RX9 22 "ShipOffice$Voyage" "lostTold" "I") (by decide +kernel)) (fun _ h9 => h9) rfl (by decide +kernel) rfl rfl (Nat.le_of_ble_eq_true rfl) dX9_init_25 (fun H locs hP hD hS => ?_)
  have hP : va_P (dC, dI) vwCl [(g1, .inr (9, [.int 0, .int 0, .int 0, .int 0, .int 0, .int 1000000, .int 1000000, .int 1000000, .int 1000000, .null]))] H := hP
  have hD : va_D A [(g1, .inr (9, [.int 0, .int 0, .int 0, .int 0, .int 0, .int 1000000, .int 1000000, .int 1000000, .int 1000000, .null]))] := hD
  refine lv_aload_n hx hb dX9_init_28 rfl (lv_at hl 0 rfl) ?_
  refine lv_iload_n hx hb dX9_init_29 rfl (lv_at hl 1 rfl) ?_
  refine va_putF (D := (dC, dI)) (ci := 9) (v := .int x1) (ty := .int) (C := RX9) (T := TX9) (N := 10) hx hb hts in_wsX9_init_X9 tyX9 tyX9_ok nmX9 hown hK hP hD hS 0 rfl rfl 0 (by decide) (hts (.fieldLink RX9 25 "ShipOffice$Voyage" "number" "I") (by decide +kernel)) (fun _ h9 => h9) rfl hin rfl (by decide +kernel) rfl rfl (Nat.le_of_ble_eq_true rfl) dX9_init_30 (fun H locs hP hD hS => ?_)
  have hP : va_P (dC, dI) vwCl [(g1, .inr (9, [.int x1, .int 0, .int 0, .int 0, .int 0, .int 1000000, .int 1000000, .int 1000000, .int 1000000, .null]))] H := hP
  have hD : va_D A [(g1, .inr (9, [.int x1, .int 0, .int 0, .int 0, .int 0, .int 1000000, .int 1000000, .int 1000000, .int 1000000, .null]))] := hD
  refine lv_aload_n hx hb dX9_init_33 rfl (lv_at hl 0 rfl) ?_
  refine lv_iload_n hx hb dX9_init_34 rfl (lv_at hl 2 rfl) ?_
  refine va_putF (D := (dC, dI)) (ci := 9) (v := .int x2) (ty := .int) (C := RX9) (T := TX9) (N := 10) hx hb hts in_wsX9_init_X9 tyX9 tyX9_ok nmX9 hown hK hP hD hS 0 rfl rfl 1 (by decide) (hts (.fieldLink RX9 28 "ShipOffice$Voyage" "ship" "I") (by decide +kernel)) (fun _ h9 => h9) rfl hin rfl (by decide +kernel) rfl rfl (Nat.le_of_ble_eq_true rfl) dX9_init_35 (fun H locs hP hD hS => ?_)
  have hP : va_P (dC, dI) vwCl [(g1, .inr (9, [.int x1, .int x2, .int 0, .int 0, .int 0, .int 1000000, .int 1000000, .int 1000000, .int 1000000, .null]))] H := hP
  have hD : va_D A [(g1, .inr (9, [.int x1, .int x2, .int 0, .int 0, .int 0, .int 1000000, .int 1000000, .int 1000000, .int 1000000, .null]))] := hD
  refine lv_aload_n hx hb dX9_init_38 rfl (lv_at hl 0 rfl) ?_
  refine lv_iload_n hx hb dX9_init_39 rfl (lv_at hl 3 rfl) ?_
  refine va_putF (D := (dC, dI)) (ci := 9) (v := .int x3) (ty := .int) (C := RX9) (T := TX9) (N := 10) hx hb hts in_wsX9_init_X9 tyX9 tyX9_ok nmX9 hown hK hP hD hS 0 rfl rfl 2 (by decide) (hts (.fieldLink RX9 31 "ShipOffice$Voyage" "port" "I") (by decide +kernel)) (fun _ h9 => h9) rfl hin rfl (by decide +kernel) rfl rfl (Nat.le_of_ble_eq_true rfl) dX9_init_40 (fun H locs hP hD hS => ?_)
  have hP : va_P (dC, dI) vwCl [(g1, .inr (9, [.int x1, .int x2, .int x3, .int 0, .int 0, .int 1000000, .int 1000000, .int 1000000, .int 1000000, .null]))] H := hP
  have hD : va_D A [(g1, .inr (9, [.int x1, .int x2, .int x3, .int 0, .int 0, .int 1000000, .int 1000000, .int 1000000, .int 1000000, .null]))] := hD
  refine lv_aload_n hx hb dX9_init_43 rfl (lv_at hl 0 rfl) ?_
  refine lv_iload hx hb dX9_init_44 (lv_at hl 4 rfl) ?_
  refine va_putF (D := (dC, dI)) (ci := 9) (v := .int x4) (ty := .int) (C := RX9) (T := TX9) (N := 10) hx hb hts in_wsX9_init_X9 tyX9 tyX9_ok nmX9 hown hK hP hD hS 0 rfl rfl 3 (by decide) (hts (.fieldLink RX9 34 "ShipOffice$Voyage" "openedOn" "I") (by decide +kernel)) (fun _ h9 => h9) rfl hin rfl (by decide +kernel) rfl rfl (Nat.le_of_ble_eq_true rfl) dX9_init_46 (fun H locs hP hD hS => ?_)
  have hP : va_P (dC, dI) vwCl [(g1, .inr (9, [.int x1, .int x2, .int x3, .int x4, .int 0, .int 1000000, .int 1000000, .int 1000000, .int 1000000, .null]))] H := hP
  have hD : va_D A [(g1, .inr (9, [.int x1, .int x2, .int x3, .int x4, .int 0, .int 1000000, .int 1000000, .int 1000000, .int 1000000, .null]))] := hD
  have hP9 := hP.sub (ws' := [(g1, .inr (9, [.int x1, .int x2, .int x3, .int x4, .int 0, .int 1000000, .int 1000000, .int 1000000, .int 1000000, .null]))]) [0] rfl
  have hD9 := hD.sub (ws' := [(g1, .inr (9, [.int x1, .int x2, .int x3, .int x4, .int 0, .int 1000000, .int 1000000, .int 1000000, .int 1000000, .null]))]) [0] (by decide) rfl
  have hK9 := hK.sub (tys' := []) [] rfl
  subst hAe
  exact W.vret hx hb hr (fun t ht hW => ⟨⟨(), rfl, trivial, ⟨by rw [ht]; exact hP9, va_K.moved hW.alike hK9, hD9⟩⟩, hS.F ht⟩) hS.2.2 dX9_init_49
set_option maxHeartbeats 4000000 in
set_option maxRecDepth 100000 in
theorem c_X10_voyage (l : Launch) (dC : Nat → ClassId) (dI : Nat → Nat → Nat) (sz : Nat) (h0 : Nat) (q : Nat → Nat) (cq : Nat → ClassId) (a1 : Int32) (a2 : Int32) : Met l yX10_voyage wsX10_voyage ({ frames := 2, cells := 1, slots := 10, locals := 38 }) (va_Pc [.ref h0, .int a1, .int a2] (pcW (dC, dI) [((cq 15), .int), ((cq 3), .object RX9)] [(h0, .inr (10, oF q)), ((q 15), .inl ((cq 15), 7, .inl (fun _ => 0))), ((q 3), .inl ((cq 3), 20, .inr (.inr (.inr (.inr (fun _ => none))))))] sz)) (va_Qi (fun (r : Int32) (u : Unit) => r = sp_voyage a1 a2) (fun _ _ => True) (va_A [(h0, .inr (10, oF q)), ((q 15), .inl ((cq 15), 7, .inl (fun _ => 0))), ((q 3), .inl ((cq 3), 20, .inr (.inr (.inr (.inr (fun _ => none))))))] sz)) 1 10 (va_A [(h0, .inr (10, oF q)), ((q 15), .inl ((cq 15), 7, .inl (fun _ => 0))), ((q 3), .inl ((cq 3), 20, .inr (.inr (.inr (.inr (fun _ => none))))))] sz) := by
  refine Met.ofW (cc := cX10_voyage) (maxL := 3) (ret := (some .int)) (by decide) rfl ?_
  intro p e s m args below meth c s₁ B hml hv
  obtain ⟨rfl, hsz, hP, hK, hD0⟩ := hv
  have hx := B.exec
  have hb := B.bytes
  have hr := B.returns
  have hts := atoms_spec (ws := wsX10_voyage) B.pre
  have hown : s.vm.findClass RX10 = some m.cls := findClass_of_methodNamed B.named
  have hlocks := B.notSynchronized
  subst hsz
  have hD := hD0.self (sz := s.heap.size)
  generalize hAe : va_A [(h0, .inr (10, oF q)), ((q 15), .inl ((cq 15), 7, .inl (fun _ => 0))), ((q 3), .inl ((cq 3), 20, .inr (.inr (.inr (.inr (fun _ => none))))))] s.heap.size = A at hD ⊢
  have hA : ∀ q : Nat, s.heap.size ≤ q → A q := fun q h => by rw [← hAe]; exact Or.inr h
  have hS : va_S A s.heap s.heap [] := va_S.rf
  have hP : va_P (dC, dI) vwCl [(h0, .inr (10, oF q)), ((q 15), .inl ((cq 15), 7, .inl (fun _ => 0))), ((q 3), .inl ((cq 3), 20, .inr (.inr (.inr (.inr (fun _ => none))))))] s.heap := hP
  have hl := lv_entry ([.ref h0, .int a1, .int a2]) (n := 3) (Nat.le_of_ble_eq_true rfl)
  rw [lg_entry_eq]
  generalize (lg_sl ([.ref h0, .int a1, .int a2]) ++ List.replicate (3 - (lg_sl ([.ref h0, .int a1, .int a2])).length) Slot.unset).toArray = ls at hl ⊢
  have hl : lv_has ls 3 [(0, .ref h0), (1, .int a1), (2, .int a2)] := hl
  refine lv_iload_n hx hb dX10_voyage_0 rfl (lv_at hl 1 rfl) ?_
  refine lv_if_lt (tgt := 17) hx hb dX10_voyage_1 (by decide) (fun c_1 => ?_) (fun c_1 => ?_)
  · refine lv_aload_n hx hb dX10_voyage_17 rfl (lv_at hl 0 rfl) ?_
    refine lv_iconst (v := (-1)) hx hb dX10_voyage_18 (by decide) ?_
    have hPc := hP.sub (ws' := [(h0, .inr (10, oF q)), ((q 15), .inl ((cq 15), 7, .inl (fun _ => 0)))]) [0, 1] rfl
    have hDc := hD.sub (ws' := [(h0, .inr (10, oF q)), ((q 15), .inl ((cq 15), 7, .inl (fun _ => 0)))]) [0, 1] (by decide) rfl
    have hKc := hK.sub (tys' := [((cq 15), .int)]) [0] rfl
    have hFc := va_free (wc := [(h0, .inr (10, oF q)), ((q 15), .inl ((cq 15), 7, .inl (fun _ => 0)))]) hD hS hA [0, 1] rfl
    refine va_calli (va_runV (As := [.int (-1)]) (rest := []) ⟨hx, hb, hml, hown, hts⟩ (c_X10_refuse l dC dI s.heap.size h0 q cq (-1) (by unfold vp_in; decide)) (cwV 1 hts gX10_voyage_X10_refuse rfl rfl rfl (by decide +kernel) ⟨(Nat.le_of_ble_eq_true rfl), (Nat.le_of_ble_eq_true rfl)⟩) (pr_V (r := (RX10, TX10, 16)) hPc hKc hDc 0 10 rfl rfl) rfl rfl hl.1 rfl (lv_room (Nat.le_of_ble_eq_true rfl)) dX10_voyage_19 ⟨(Nat.le_of_ble_eq_true rfl), (Nat.le_of_ble_eq_true rfl)⟩) hS (fun q _ h => hFc q h) hFc (fun r_3 u t H locs ht hvm w_2 hB hz1 hk1 hS => ?_)
    subst w_2
    refine W.widen (k := 1) (n := 10) (Nat.le_of_ble_eq_true rfl) (Nat.le_of_ble_eq_true rfl) ?_
    exact W.iret (v := (-1)) hx hb hr (fun t ht hW => ⟨⟨(-1), (), rfl, (by simp [sp_voyage, isI_lt 10 c_1]), trivial⟩, hS.F ht⟩) hS.2.2 dX10_voyage_22
  · refine lv_iload_n hx hb dX10_voyage_4 rfl (lv_at hl 1 rfl) ?_
    refine lv_bipush (v := 10) hx hb dX10_voyage_5 (by decide) ?_
    refine lv_icmp_ge (tgt := 17) hx hb dX10_voyage_7 (by decide) (fun c_4 => ?_) (fun c_4 => ?_)
    · refine lv_aload_n hx hb dX10_voyage_17 rfl (lv_at hl 0 rfl) ?_
      refine lv_iconst (v := (-1)) hx hb dX10_voyage_18 (by decide) ?_
      have hPc := hP.sub (ws' := [(h0, .inr (10, oF q)), ((q 15), .inl ((cq 15), 7, .inl (fun _ => 0)))]) [0, 1] rfl
      have hDc := hD.sub (ws' := [(h0, .inr (10, oF q)), ((q 15), .inl ((cq 15), 7, .inl (fun _ => 0)))]) [0, 1] (by decide) rfl
      have hKc := hK.sub (tys' := [((cq 15), .int)]) [0] rfl
      have hFc := va_free (wc := [(h0, .inr (10, oF q)), ((q 15), .inl ((cq 15), 7, .inl (fun _ => 0)))]) hD hS hA [0, 1] rfl
      refine va_calli (va_runV (As := [.int (-1)]) (rest := []) ⟨hx, hb, hml, hown, hts⟩ (c_X10_refuse l dC dI s.heap.size h0 q cq (-1) (by unfold vp_in; decide)) (cwV 1 hts gX10_voyage_X10_refuse rfl rfl rfl (by decide +kernel) ⟨(Nat.le_of_ble_eq_true rfl), (Nat.le_of_ble_eq_true rfl)⟩) (pr_V (r := (RX10, TX10, 16)) hPc hKc hDc 0 10 rfl rfl) rfl rfl hl.1 rfl (lv_room (Nat.le_of_ble_eq_true rfl)) dX10_voyage_19 ⟨(Nat.le_of_ble_eq_true rfl), (Nat.le_of_ble_eq_true rfl)⟩) hS (fun q _ h => hFc q h) hFc (fun r_6 u t H locs ht hvm w_5 hB hz1 hk1 hS => ?_)
      subst w_5
      refine W.widen (k := 1) (n := 10) (Nat.le_of_ble_eq_true rfl) (Nat.le_of_ble_eq_true rfl) ?_
      exact W.iret (v := (-1)) hx hb hr (fun t ht hW => ⟨⟨(-1), (), rfl, (by simp [sp_voyage, isI_ge c_4]), trivial⟩, hS.F ht⟩) hS.2.2 dX10_voyage_22
    · refine lv_iload_n hx hb dX10_voyage_10 rfl (lv_at hl 2 rfl) ?_
      have hPc := hP.sub (ws' := []) [] rfl
      have hDc := hD.sub (ws' := []) [] (by decide) rfl
      have hKc := hK.sub (tys' := []) [] rfl
      have hFc : ∀ q, va_A [] s.heap.size q → A q := pu_free hS hA
      refine va_calli (va_runS (As := [.int a2]) (rest := []) ⟨hx, hb, hml, hown, hts⟩ (c_X10_isPort l dC dI s.heap.size a2) (va_cwS 1 hts gX10_voyage_X10_isPort rfl rfl rfl (by decide +kernel) ⟨(Nat.le_of_ble_eq_true rfl), (Nat.le_of_ble_eq_true rfl)⟩) (pr_S hPc hKc hDc) rfl rfl hl.1 rfl (lv_room (Nat.le_of_ble_eq_true rfl)) dX10_voyage_11 ⟨(Nat.le_of_ble_eq_true rfl), (Nat.le_of_ble_eq_true rfl)⟩) hS (fun q _ h => hFc q h) hFc (fun r_8 u t H locs ht hvm w_7 hB hz1 hk1 hS => ?_)
      have hP := pu_keep hP hk1
      clear hk1 hz1 hvm hB hPc hDc hKc hFc ht
      subst w_7
      refine lv_if_ne (tgt := 23) hx hb dX10_voyage_14 (by decide) (fun c_9 => ?_) (fun c_9 => ?_)
      · refine lv_aload_n hx hb dX10_voyage_23 rfl (lv_at hl 0 rfl) ?_
        refine lv_iload_n hx hb dX10_voyage_24 rfl (lv_at hl 1 rfl) ?_
        have hPc := hP.sub (ws' := [(h0, .inr (10, oF q))]) [0] rfl
        have hDc := hD.sub (ws' := [(h0, .inr (10, oF q))]) [0] (by decide) rfl
        have hKc := hK.sub (tys' := []) [] rfl
        have hFc : ∀ q, va_A [] H.size q → A q := pu_free hS hA
        refine va_calli (va_runV (As := [.int a1]) (rest := []) ⟨hx, hb, hml, hown, hts⟩ (c_X10_hasVoyage l dC dI H.size h0 q cq a1) (cwV 1 hts gX10_voyage_X10_hasVoyage rfl rfl rfl (by decide +kernel) ⟨(Nat.le_of_ble_eq_true rfl), (Nat.le_of_ble_eq_true rfl)⟩) (pr_V (r := (RX10, TX10, 16)) hPc hKc hDc 0 10 rfl rfl) rfl rfl hl.1 rfl (lv_room (Nat.le_of_ble_eq_true rfl)) dX10_voyage_25 ⟨(Nat.le_of_ble_eq_true rfl), (Nat.le_of_ble_eq_true rfl)⟩) hS (fun q _ h => hFc q h) hFc (fun r_11 u t H locs ht hvm w_10 hB hz1 hk1 hS => ?_)
        have hP := pu_keep hP hk1
        clear hk1 hz1 hvm hB hPc hDc hKc hFc ht
        subst w_10
        refine lv_if_eq (tgt := 38) hx hb dX10_voyage_28 (by decide) (fun _ => ?_) (fun c_12 => absurd c_12 (by decide))
        refine lv_aload_n hx hb dX10_voyage_38 rfl (lv_at hl 0 rfl) ?_
        refine va_get (D := (dC, dI)) (ci := 10) (v := .int 0) (C := RX10) (T := TX10) (N := 16) hx hb hts in_wsX10_voyage_X10 hown hK hP 0 rfl rfl 4 (by decide) (hts (.fieldLink RX10 99 "ShipOffice" "voyageCount" "I") (by decide +kernel)) (fun _ h9 => h9) rfl dX10_voyage_39 ?_
        refine lv_bipush (v := 20) hx hb dX10_voyage_42 (by decide) ?_
        refine lv_icmp_lt (tgt := 54) hx hb dX10_voyage_44 (by decide) (fun _ => ?_) (fun c_13 => absurd c_13 (by decide))
        refine lv_aload_n hx hb dX10_voyage_54 rfl (lv_at hl 0 rfl) ?_
        refine va_get (D := (dC, dI)) (ci := 10) (v := .ref (q 3)) (C := RX10) (T := TX10) (N := 16) hx hb hts in_wsX10_voyage_X10 hown hK hP 0 rfl rfl 3 (by decide) (hts (.fieldLink RX10 17 "ShipOffice" "voyages" "[LShipOffice$Voyage;") (by decide +kernel)) (fun _ h9 => h9) rfl dX10_voyage_55 ?_
        refine lv_aload_n hx hb dX10_voyage_58 rfl (lv_at hl 0 rfl) ?_
        refine va_get (D := (dC, dI)) (ci := 10) (v := .int 0) (C := RX10) (T := TX10) (N := 16) hx hb hts in_wsX10_voyage_X10 hown hK hP 0 rfl rfl 4 (by decide) (hts (.fieldLink RX10 99 "ShipOffice" "voyageCount" "I") (by decide +kernel)) (fun _ h9 => h9) rfl dX10_voyage_59 ?_
        refine va_new (ci := 9) (fs := [.int 0, .int 0, .int 0, .int 0, .int 0, .int 0, .int 0, .int 0, .int 0, .null]) (C := RX9) (T := TX9) (N := 10) hx hb hts in_wsX10_voyage_X9 tyX9 tyX9_ok hown (hts (.classLink RX10 15 RX9) (by decide +kernel)) (hts (.instantiable RX9 10) (by decide +kernel)) (hts (.initialized RX9) (by decide +kernel)) hK hP hD hS hA rfl (fun j hj => by rcases (show j = 0 ∨ j = 1 ∨ j = 2 ∨ j = 3 ∨ j = 4 ∨ j = 5 ∨ j = 6 ∨ j = 7 ∨ j = 8 ∨ j = 9 by omega) with rfl | rfl | rfl | rfl | rfl | rfl | rfl | rfl | rfl | rfl <;> rfl) (Nat.le_of_ble_eq_true rfl) (Nat.le_of_ble_eq_true rfl) dX10_voyage_62 (fun q_14 H hP hD hS => ?_)
        have hP : va_P (dC, dI) vwCl [(h0, .inr (10, oF q)), ((q 15), .inl ((cq 15), 7, .inl (fun _ => 0))), ((q 3), .inl ((cq 3), 20, .inr (.inr (.inr (.inr (fun _ => none)))))), (q_14, .inr (9, [.int 0, .int 0, .int 0, .int 0, .int 0, .int 0, .int 0, .int 0, .int 0, .null]))] H := hP
        have hD : va_D A [(h0, .inr (10, oF q)), ((q 15), .inl ((cq 15), 7, .inl (fun _ => 0))), ((q 3), .inl ((cq 3), 20, .inr (.inr (.inr (.inr (fun _ => none)))))), (q_14, .inr (9, [.int 0, .int 0, .int 0, .int 0, .int 0, .int 0, .int 0, .int 0, .int 0, .null]))] := hD
        refine W.widen (k := 1) (n := 10) (Nat.le_of_ble_eq_true rfl) (Nat.le_of_ble_eq_true rfl) ?_
        refine lv_dup hx hb dX10_voyage_65 rfl ?_
        refine lv_aload_n hx hb dX10_voyage_66 rfl (lv_at hl 0 rfl) ?_
        refine va_get (D := (dC, dI)) (ci := 10) (v := .int 0) (C := RX10) (T := TX10) (N := 16) hx hb hts in_wsX10_voyage_X10 hown hK hP 0 rfl rfl 4 (by decide) (hts (.fieldLink RX10 99 "ShipOffice" "voyageCount" "I") (by decide +kernel)) (fun _ h9 => h9) rfl dX10_voyage_67 ?_
        refine lv_iload_n hx hb dX10_voyage_70 rfl (lv_at hl 1 rfl) ?_
        refine lv_iload_n hx hb dX10_voyage_71 rfl (lv_at hl 2 rfl) ?_
        refine lv_aload_n hx hb dX10_voyage_72 rfl (lv_at hl 0 rfl) ?_
        refine va_get (D := (dC, dI)) (ci := 10) (v := .int 0) (C := RX10) (T := TX10) (N := 16) hx hb hts in_wsX10_voyage_X10 hown hK hP 0 rfl rfl 0 (by decide) (hts (.fieldLink RX10 73 "ShipOffice" "now" "I") (by decide +kernel)) (fun _ h9 => h9) rfl dX10_voyage_73 ?_
        have hPc := hP.sub (ws' := [(q_14, .inr (9, [.int 0, .int 0, .int 0, .int 0, .int 0, .int 0, .int 0, .int 0, .int 0, .null]))]) [3] rfl
        have hDc := hD.sub (ws' := [(q_14, .inr (9, [.int 0, .int 0, .int 0, .int 0, .int 0, .int 0, .int 0, .int 0, .int 0, .null]))]) [3] (by decide) rfl
        have hKc := hK.sub (tys' := []) [] rfl
        have hFc := va_free (wc := [(q_14, .inr (9, [.int 0, .int 0, .int 0, .int 0, .int 0, .int 0, .int 0, .int 0, .int 0, .null]))]) hD hS hA [3] rfl
        refine va_callv (va_runI (As := [.int 0, .int a1, .int a2, .int 0]) (rest := [.ref q_14, .int 0, .ref (q 3)]) ⟨hx, hb, hml, hown, hts⟩ (c_X9_init l dC dI H.size q_14 0 a1 a2 0) (cwI 4 hts gX10_voyage_X9_init rfl rfl rfl (hts (.initialized RX9) (by decide +kernel)) (hts (.methodLink RX10 102 yX9_init) (by decide +kernel)) (hts (.instanceMethod yX9_init) (by decide +kernel)) rfl (by decide +kernel) ⟨(Nat.le_of_ble_eq_true rfl), (Nat.le_of_ble_eq_true rfl)⟩) (pr_S hPc hKc hDc) rfl rfl hl.1 rfl (lv_room (Nat.le_of_ble_eq_true rfl)) dX10_voyage_76 ⟨(Nat.le_of_ble_eq_true rfl), (Nat.le_of_ble_eq_true rfl)⟩) hS (fun q _ h => hFc q h) hFc (fun u t H locs ht hvm w_15 hB hz1 hk1 hS => ?_)
        obtain ⟨hP1, hK1, hD1⟩ := hB
        rw [ht] at hP1
        have hK1 := va_K.moved hvm.symm hK1
        obtain ⟨hP, hD⟩ := va_join (wr := [(h0, .inr (10, oF q)), ((q 15), .inl ((cq 15), 7, .inl (fun _ => 0))), ((q 3), .inl ((cq 3), 20, .inr (.inr (.inr (.inr (fun _ => none))))))]) (w1 := [(q_14, .inr (9, [.int 0, .int a1, .int a2, .int 0, .int 0, .int 1000000, .int 1000000, .int 1000000, .int 1000000, .null]))]) hP hD [3] [0, 1, 2] rfl rfl (by decide) (by decide) hk1 hFc hP1 hD1
        have hK := hK.app hK1
        have hP : va_P (dC, dI) vwCl [(h0, .inr (10, oF q)), ((q 15), .inl ((cq 15), 7, .inl (fun _ => 0))), ((q 3), .inl ((cq 3), 20, .inr (.inr (.inr (.inr (fun _ => none)))))), (q_14, .inr (9, [.int 0, .int a1, .int a2, .int 0, .int 0, .int 1000000, .int 1000000, .int 1000000, .int 1000000, .null]))] H := hP
        have hD : va_D A [(h0, .inr (10, oF q)), ((q 15), .inl ((cq 15), 7, .inl (fun _ => 0))), ((q 3), .inl ((cq 3), 20, .inr (.inr (.inr (.inr (fun _ => none)))))), (q_14, .inr (9, [.int 0, .int a1, .int a2, .int 0, .int 0, .int 1000000, .int 1000000, .int 1000000, .int 1000000, .null]))] := hD
        have hK : va_K (dC, dI) vwCl [((cq 15), .int), ((cq 3), .object RX9)] s := hK
        clear hP1 hK1 hD1 hk1 hz1 hvm ht hPc hDc hKc hFc
        refine va_astq (r := (RX9, TX9, 10)) hx hb hK hP hD hS 2 1 3 9 rfl rfl rfl rfl (by unfold vp_in; decide) dX10_voyage_79 (fun H locs hP hD hS => ?_)
        have hP : va_P (dC, dI) vwCl [(h0, .inr (10, oF q)), ((q 15), .inl ((cq 15), 7, .inl (fun _ => 0))), ((q 3), .inl ((cq 3), 20, .inr (.inr (.inr (.inr (va_up (fun _ => none) (0 : Int32).toNatClampNeg (some q_14))))))), (q_14, .inr (9, [.int 0, .int a1, .int a2, .int 0, .int 0, .int 1000000, .int 1000000, .int 1000000, .int 1000000, .null]))] H := hP
        have hD : va_D A [(h0, .inr (10, oF q)), ((q 15), .inl ((cq 15), 7, .inl (fun _ => 0))), ((q 3), .inl ((cq 3), 20, .inr (.inr (.inr (.inr (va_up (fun _ => none) (0 : Int32).toNatClampNeg (some q_14))))))), (q_14, .inr (9, [.int 0, .int a1, .int a2, .int 0, .int 0, .int 1000000, .int 1000000, .int 1000000, .int 1000000, .null]))] := hD
        refine lv_aload_n hx hb dX10_voyage_80 rfl (lv_at hl 0 rfl) ?_
        refine lv_dup hx hb dX10_voyage_81 rfl ?_
        refine va_get (D := (dC, dI)) (ci := 10) (v := .int 0) (C := RX10) (T := TX10) (N := 16) hx hb hts in_wsX10_voyage_X10 hown hK hP 0 rfl rfl 4 (by decide) (hts (.fieldLink RX10 99 "ShipOffice" "voyageCount" "I") (by decide +kernel)) (fun _ h9 => h9) rfl dX10_voyage_82 ?_
        refine lv_iconst (v := 1) hx hb dX10_voyage_85 (by decide) ?_
        refine lv_iadd hx hb dX10_voyage_86 ?_
        refine lv_topi (fun y ey => ?_)
        obtain rfl : y = 1 := ey.trans (by decide)
        refine va_put (D := (dC, dI)) (ci := 10) (v := .int 1) (ty := .int) (C := RX10) (T := TX10) (N := 16) hx hb hts in_wsX10_voyage_X10 tyX10 tyX10_ok nmX10 hown hK hP hD hS 0 rfl rfl 4 (by decide) (hts (.fieldLink RX10 99 "ShipOffice" "voyageCount" "I") (by decide +kernel)) (fun _ h9 => h9) rfl (by decide +kernel) rfl rfl (Nat.le_of_ble_eq_true rfl) dX10_voyage_87 (fun H locs hP hD hS => ?_)
        have hP : va_P (dC, dI) vwCl [(h0, .inr (10, ((oF q).set 4 (.int 1)))), ((q 15), .inl ((cq 15), 7, .inl (fun _ => 0))), ((q 3), .inl ((cq 3), 20, .inr (.inr (.inr (.inr (va_up (fun _ => none) (0 : Int32).toNatClampNeg (some q_14))))))), (q_14, .inr (9, [.int 0, .int a1, .int a2, .int 0, .int 0, .int 1000000, .int 1000000, .int 1000000, .int 1000000, .null]))] H := hP
        have hD : va_D A [(h0, .inr (10, ((oF q).set 4 (.int 1)))), ((q 15), .inl ((cq 15), 7, .inl (fun _ => 0))), ((q 3), .inl ((cq 3), 20, .inr (.inr (.inr (.inr (va_up (fun _ => none) (0 : Int32).toNatClampNeg (some q_14))))))), (q_14, .inr (9, [.int 0, .int a1, .int a2, .int 0, .int 0, .int 1000000, .int 1000000, .int 1000000, .int 1000000, .null]))] := hD
        refine lv_aload_n hx hb dX10_voyage_90 rfl (lv_at hl 0 rfl) ?_
        refine va_get (D := (dC, dI)) (ci := 10) (v := .int 1) (C := RX10) (T := TX10) (N := 16) hx hb hts in_wsX10_voyage_X10 hown hK hP 0 rfl rfl 4 (by decide) (hts (.fieldLink RX10 99 "ShipOffice" "voyageCount" "I") (by decide +kernel)) (fun _ h9 => h9) rfl dX10_voyage_91 ?_
        refine lv_iconst (v := 1) hx hb dX10_voyage_94 (by decide) ?_
        refine lv_isub hx hb dX10_voyage_95 ?_
        refine lv_topi (fun y ey => ?_)
        obtain rfl : y = 0 := ey.trans (by decide)
        exact W.iret (v := 0) hx hb hr (fun t ht hW => ⟨⟨0, (), rfl, (by simp [sp_voyage, isI_in c_1 c_4, c_9]), trivial⟩, hS.F ht⟩) hS.2.2 dX10_voyage_96
      · refine lv_aload_n hx hb dX10_voyage_17 rfl (lv_at hl 0 rfl) ?_
        refine lv_iconst (v := (-1)) hx hb dX10_voyage_18 (by decide) ?_
        have hPc := hP.sub (ws' := [(h0, .inr (10, oF q)), ((q 15), .inl ((cq 15), 7, .inl (fun _ => 0)))]) [0, 1] rfl
        have hDc := hD.sub (ws' := [(h0, .inr (10, oF q)), ((q 15), .inl ((cq 15), 7, .inl (fun _ => 0)))]) [0, 1] (by decide) rfl
        have hKc := hK.sub (tys' := [((cq 15), .int)]) [0] rfl
        have hFc := va_free (wc := [(h0, .inr (10, oF q)), ((q 15), .inl ((cq 15), 7, .inl (fun _ => 0)))]) hD hS hA [0, 1] rfl
        refine va_calli (va_runV (As := [.int (-1)]) (rest := []) ⟨hx, hb, hml, hown, hts⟩ (c_X10_refuse l dC dI H.size h0 q cq (-1) (by unfold vp_in; decide)) (cwV 1 hts gX10_voyage_X10_refuse rfl rfl rfl (by decide +kernel) ⟨(Nat.le_of_ble_eq_true rfl), (Nat.le_of_ble_eq_true rfl)⟩) (pr_V (r := (RX10, TX10, 16)) hPc hKc hDc 0 10 rfl rfl) rfl rfl hl.1 rfl (lv_room (Nat.le_of_ble_eq_true rfl)) dX10_voyage_19 ⟨(Nat.le_of_ble_eq_true rfl), (Nat.le_of_ble_eq_true rfl)⟩) hS (fun q _ h => hFc q h) hFc (fun r_18 u t H locs ht hvm w_17 hB hz1 hk1 hS => ?_)
        subst w_17
        refine W.widen (k := 1) (n := 10) (Nat.le_of_ble_eq_true rfl) (Nat.le_of_ble_eq_true rfl) ?_
        exact W.iret (v := (-1)) hx hb hr (fun t ht hW => ⟨⟨(-1), (), rfl, (by simp [sp_voyage, isI_in c_1 c_4, c_9]), trivial⟩, hS.F ht⟩) hS.2.2 dX10_voyage_22
set_option maxHeartbeats 4000000 in
set_option maxRecDepth 100000 in
theorem c_X10_put (l : Launch) (dC : Nat → ClassId) (dI : Nat → Nat → Nat) (sz : Nat) (h0 : Nat) (q : Nat → Nat) (cq : Nat → ClassId) (a1 : Int32) : Met l yX10_put wsX10_put ({ frames := 0, cells := 0, slots := 0, locals := 0 }) (va_Pc [.ref h0, .int a1] (pcW (dC, dI) [((cq 13), .int)] [(h0, .inr (10, oF q)), ((q 13), .inl ((cq 13), 12, .inl (fun _ => 0)))] sz)) (va_Qi (fun (r : Int32) (u : Unit) => r = 1) (fun _ _ => True) (va_A [(h0, .inr (10, oF q)), ((q 13), .inl ((cq 13), 12, .inl (fun _ => 0)))] sz)) 0 0 (va_A [(h0, .inr (10, oF q)), ((q 13), .inl ((cq 13), 12, .inl (fun _ => 0)))] sz) := by
  refine Met.ofW (cc := cX10_put) (maxL := 2) (ret := (some .int)) (by decide) rfl ?_
  intro p e s m args below meth c s₁ B hml hv
  obtain ⟨rfl, hsz, hP, hK, hD0⟩ := hv
  have hx := B.exec
  have hb := B.bytes
  have hr := B.returns
  have hts := atoms_spec (ws := wsX10_put) B.pre
  have hown : s.vm.findClass RX10 = some m.cls := findClass_of_methodNamed B.named
  have hlocks := B.notSynchronized
  subst hsz
  have hD := hD0.self (sz := s.heap.size)
  generalize hAe : va_A [(h0, .inr (10, oF q)), ((q 13), .inl ((cq 13), 12, .inl (fun _ => 0)))] s.heap.size = A at hD ⊢
  have hA : ∀ q : Nat, s.heap.size ≤ q → A q := fun q h => by rw [← hAe]; exact Or.inr h
  have hS : va_S A s.heap s.heap [] := va_S.rf
  have hP : va_P (dC, dI) vwCl [(h0, .inr (10, oF q)), ((q 13), .inl ((cq 13), 12, .inl (fun _ => 0)))] s.heap := hP
  have hl := lv_entry ([.ref h0, .int a1]) (n := 2) (Nat.le_of_ble_eq_true rfl)
  rw [lg_entry_eq]
  generalize (lg_sl ([.ref h0, .int a1]) ++ List.replicate (2 - (lg_sl ([.ref h0, .int a1])).length) Slot.unset).toArray = ls at hl ⊢
  have hl : lv_has ls 2 [(0, .ref h0), (1, .int a1)] := hl
  refine lv_aload_n hx hb dX10_put_0 rfl (lv_at hl 0 rfl) ?_
  refine va_get (D := (dC, dI)) (ci := 10) (v := .int 0) (C := RX10) (T := TX10) (N := 16) hx hb hts in_wsX10_put_X10 hown hK hP 0 rfl rfl 14 (by decide) (hts (.fieldLink RX10 353 "ShipOffice" "rowCount" "I") (by decide +kernel)) (fun _ h9 => h9) rfl dX10_put_1 ?_
  refine lv_bipush (v := 12) hx hb dX10_put_4 (by decide) ?_
  refine lv_icmp_lt (tgt := 16) hx hb dX10_put_6 (by decide) (fun _ => ?_) (fun c_1 => absurd c_1 (by decide))
  refine lv_aload_n hx hb dX10_put_16 rfl (lv_at hl 0 rfl) ?_
  refine va_get (D := (dC, dI)) (ci := 10) (v := .ref (q 13)) (C := RX10) (T := TX10) (N := 16) hx hb hts in_wsX10_put_X10 hown hK hP 0 rfl rfl 13 (by decide) (hts (.fieldLink RX10 63 "ShipOffice" "row" "[I") (by decide +kernel)) (fun _ h9 => h9) rfl dX10_put_17 ?_
  refine lv_aload_n hx hb dX10_put_20 rfl (lv_at hl 0 rfl) ?_
  refine va_get (D := (dC, dI)) (ci := 10) (v := .int 0) (C := RX10) (T := TX10) (N := 16) hx hb hts in_wsX10_put_X10 hown hK hP 0 rfl rfl 14 (by decide) (hts (.fieldLink RX10 353 "ShipOffice" "rowCount" "I") (by decide +kernel)) (fun _ h9 => h9) rfl dX10_put_21 ?_
  refine lv_iload_n hx hb dX10_put_24 rfl (lv_at hl 1 rfl) ?_
  refine va_iast hx hb hK hP hD hS 1 0 rfl rfl (by unfold vp_in; decide) dX10_put_25 (fun H locs hP hD hS => ?_)
  have hP : va_P (dC, dI) vwCl [(h0, .inr (10, oF q)), ((q 13), .inl ((cq 13), 12, .inl (upd (fun _ => 0) (0 : Int32).toNatClampNeg a1)))] H := hP
  have hD : va_D A [(h0, .inr (10, oF q)), ((q 13), .inl ((cq 13), 12, .inl (upd (fun _ => 0) (0 : Int32).toNatClampNeg a1)))] := hD
  refine lv_aload_n hx hb dX10_put_26 rfl (lv_at hl 0 rfl) ?_
  refine lv_dup hx hb dX10_put_27 rfl ?_
  refine va_get (D := (dC, dI)) (ci := 10) (v := .int 0) (C := RX10) (T := TX10) (N := 16) hx hb hts in_wsX10_put_X10 hown hK hP 0 rfl rfl 14 (by decide) (hts (.fieldLink RX10 353 "ShipOffice" "rowCount" "I") (by decide +kernel)) (fun _ h9 => h9) rfl dX10_put_28 ?_
  refine lv_iconst (v := 1) hx hb dX10_put_31 (by decide) ?_
  refine lv_iadd hx hb dX10_put_32 ?_
  refine lv_topi (fun y ey => ?_)
  obtain rfl : y = 1 := ey.trans (by decide)
  refine va_put (D := (dC, dI)) (ci := 10) (v := .int 1) (ty := .int) (C := RX10) (T := TX10) (N := 16) hx hb hts in_wsX10_put_X10 tyX10 tyX10_ok nmX10 hown hK hP hD hS 0 rfl rfl 14 (by decide) (hts (.fieldLink RX10 353 "ShipOffice" "rowCount" "I") (by decide +kernel)) (fun _ h9 => h9) rfl (by decide +kernel) rfl rfl (Nat.le_of_ble_eq_true rfl) dX10_put_33 (fun H locs hP hD hS => ?_)
  have hP : va_P (dC, dI) vwCl [(h0, .inr (10, ((oF q).set 14 (.int 1)))), ((q 13), .inl ((cq 13), 12, .inl (upd (fun _ => 0) (0 : Int32).toNatClampNeg a1)))] H := hP
  have hD : va_D A [(h0, .inr (10, ((oF q).set 14 (.int 1)))), ((q 13), .inl ((cq 13), 12, .inl (upd (fun _ => 0) (0 : Int32).toNatClampNeg a1)))] := hD
  refine lv_aload_n hx hb dX10_put_36 rfl (lv_at hl 0 rfl) ?_
  refine va_get (D := (dC, dI)) (ci := 10) (v := .int 1) (C := RX10) (T := TX10) (N := 16) hx hb hts in_wsX10_put_X10 hown hK hP 0 rfl rfl 14 (by decide) (hts (.fieldLink RX10 353 "ShipOffice" "rowCount" "I") (by decide +kernel)) (fun _ h9 => h9) rfl dX10_put_37 ?_
  exact W.iret (v := 1) hx hb hr (fun t ht hW => ⟨⟨1, (), rfl, rfl, trivial⟩, hS.F ht⟩) hS.2.2 dX10_put_40
end
