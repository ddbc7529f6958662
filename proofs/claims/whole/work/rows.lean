section
-- ===== PART A: goes FIRST, ahead of the names: the tables' words, and 'selects' of the private methods out of them =====
/-- a private method of a class that the tables say can be made, by its rows of tables_1 -/
def lw_okq (q : MethodName × Nat) : Prop := (q.1.cls ≠ "java/lang/invoke/MethodHandle" ∧ q.1.cls ≠ "java/lang/invoke/VarHandle") ∧ Cond.instantiable q.1.cls q.2 ∈ tables_1 ∧ Cond.privateMethod q.1 ∈ tables_1 ∧ Cond.instanceMethod q.1 ∈ tables_1
theorem lw_p0 : lw_okq (⟨"TunnelControlDesk$Tunnel", "moveCars", "()Z"⟩, 14) := ⟨⟨by decide +kernel, by decide +kernel⟩, List.mem_of_getElem? (i := 127) (by decide +kernel), List.mem_of_getElem? (i := 376) (by decide +kernel), List.mem_of_getElem? (i := 377) (by decide +kernel)⟩
theorem lw_p1 : lw_okq (⟨"TunnelControlDesk$Tunnel", "driveLanes", "(I)I"⟩, 14) := ⟨⟨by decide +kernel, by decide +kernel⟩, List.mem_of_getElem? (i := 127) (by decide +kernel), List.mem_of_getElem? (i := 380) (by decide +kernel), List.mem_of_getElem? (i := 381) (by decide +kernel)⟩
theorem lw_p2 : lw_okq (⟨"TunnelControlDesk$Tunnel", "driveCar", "(III)Z"⟩, 14) := ⟨⟨by decide +kernel, by decide +kernel⟩, List.mem_of_getElem? (i := 127) (by decide +kernel), List.mem_of_getElem? (i := 387) (by decide +kernel), List.mem_of_getElem? (i := 388) (by decide +kernel)⟩
theorem lw_p3 : lw_okq (⟨"TunnelControlDesk$Tunnel", "turnCars", "(I)Z"⟩, 14) := ⟨⟨by decide +kernel, by decide +kernel⟩, List.mem_of_getElem? (i := 127) (by decide +kernel), List.mem_of_getElem? (i := 391) (by decide +kernel), List.mem_of_getElem? (i := 392) (by decide +kernel)⟩
theorem lw_p4 : lw_okq (⟨"TunnelControlDesk$Tunnel", "isFireAhead", "(II)Z"⟩, 14) := ⟨⟨by decide +kernel, by decide +kernel⟩, List.mem_of_getElem? (i := 127) (by decide +kernel), List.mem_of_getElem? (i := 395) (by decide +kernel), List.mem_of_getElem? (i := 396) (by decide +kernel)⟩
theorem lw_p5 : lw_okq (⟨"java/lang/Throwable", "fillInStackTrace", "(I)Ljava/lang/Throwable;"⟩, 6) := ⟨⟨by decide +kernel, by decide +kernel⟩, List.mem_of_getElem? (i := 474) (by decide +kernel), List.mem_of_getElem? (i := 472) (by decide +kernel), List.mem_of_getElem? (i := 473) (by decide +kernel)⟩
theorem lw_p6 : lw_okq (⟨"TunnelControlDesk$SetupReader", "readTunnel", "()Z"⟩, 13) := ⟨⟨by decide +kernel, by decide +kernel⟩, List.mem_of_getElem? (i := 88) (by decide +kernel), List.mem_of_getElem? (i := 522) (by decide +kernel), List.mem_of_getElem? (i := 523) (by decide +kernel)⟩
theorem lw_p7 : lw_okq (⟨"TunnelControlDesk$SetupReader", "fail", "(II)Z"⟩, 13) := ⟨⟨by decide +kernel, by decide +kernel⟩, List.mem_of_getElem? (i := 88) (by decide +kernel), List.mem_of_getElem? (i := 579) (by decide +kernel), List.mem_of_getElem? (i := 580) (by decide +kernel)⟩
theorem lw_p8 : lw_okq (⟨"TunnelControlDesk$SetupReader", "readNumber", "(II)Z"⟩, 13) := ⟨⟨by decide +kernel, by decide +kernel⟩, List.mem_of_getElem? (i := 88) (by decide +kernel), List.mem_of_getElem? (i := 584) (by decide +kernel), List.mem_of_getElem? (i := 585) (by decide +kernel)⟩
theorem lw_p9 : lw_okq (⟨"TunnelControlDesk$SetupReader", "readSign", "(I)Z"⟩, 13) := ⟨⟨by decide +kernel, by decide +kernel⟩, List.mem_of_getElem? (i := 88) (by decide +kernel), List.mem_of_getElem? (i := 588) (by decide +kernel), List.mem_of_getElem? (i := 589) (by decide +kernel)⟩
theorem lw_p10 : lw_okq (⟨"TunnelControlDesk$SetupReader", "readStatement", "()Z"⟩, 13) := ⟨⟨by decide +kernel, by decide +kernel⟩, List.mem_of_getElem? (i := 88) (by decide +kernel), List.mem_of_getElem? (i := 592) (by decide +kernel), List.mem_of_getElem? (i := 593) (by decide +kernel)⟩
theorem lw_p11 : lw_okq (⟨"TunnelControlDesk$SetupReader", "readBay", "()Z"⟩, 13) := ⟨⟨by decide +kernel, by decide +kernel⟩, List.mem_of_getElem? (i := 88) (by decide +kernel), List.mem_of_getElem? (i := 597) (by decide +kernel), List.mem_of_getElem? (i := 598) (by decide +kernel)⟩
theorem lw_p12 : lw_okq (⟨"TunnelControlDesk$SetupReader", "readSection", "()Z"⟩, 13) := ⟨⟨by decide +kernel, by decide +kernel⟩, List.mem_of_getElem? (i := 88) (by decide +kernel), List.mem_of_getElem? (i := 601) (by decide +kernel), List.mem_of_getElem? (i := 602) (by decide +kernel)⟩
theorem lw_p13 : lw_okq (⟨"TunnelControlDesk$SetupReader", "readVent", "()Z"⟩, 13) := ⟨⟨by decide +kernel, by decide +kernel⟩, List.mem_of_getElem? (i := 88) (by decide +kernel), List.mem_of_getElem? (i := 606) (by decide +kernel), List.mem_of_getElem? (i := 607) (by decide +kernel)⟩
theorem lw_p14 : lw_okq (⟨"TunnelControlDesk$SetupReader", "readFan", "()Z"⟩, 13) := ⟨⟨by decide +kernel, by decide +kernel⟩, List.mem_of_getElem? (i := 88) (by decide +kernel), List.mem_of_getElem? (i := 611) (by decide +kernel), List.mem_of_getElem? (i := 612) (by decide +kernel)⟩
theorem lw_p15 : lw_okq (⟨"TunnelControlDesk$SetupReader", "readSetting", "(I)Z"⟩, 13) := ⟨⟨by decide +kernel, by decide +kernel⟩, List.mem_of_getElem? (i := 88) (by decide +kernel), List.mem_of_getElem? (i := 615) (by decide +kernel), List.mem_of_getElem? (i := 616) (by decide +kernel)⟩
def lw_privs_1 : List (MethodName × Nat) := [(⟨"TunnelControlDesk$Tunnel", "moveCars", "()Z"⟩, 14), (⟨"TunnelControlDesk$Tunnel", "driveLanes", "(I)I"⟩, 14), (⟨"TunnelControlDesk$Tunnel", "driveCar", "(III)Z"⟩, 14), (⟨"TunnelControlDesk$Tunnel", "turnCars", "(I)Z"⟩, 14), (⟨"TunnelControlDesk$Tunnel", "isFireAhead", "(II)Z"⟩, 14), (⟨"java/lang/Throwable", "fillInStackTrace", "(I)Ljava/lang/Throwable;"⟩, 6), (⟨"TunnelControlDesk$SetupReader", "readTunnel", "()Z"⟩, 13), (⟨"TunnelControlDesk$SetupReader", "fail", "(II)Z"⟩, 13), (⟨"TunnelControlDesk$SetupReader", "readNumber", "(II)Z"⟩, 13), (⟨"TunnelControlDesk$SetupReader", "readSign", "(I)Z"⟩, 13), (⟨"TunnelControlDesk$SetupReader", "readStatement", "()Z"⟩, 13), (⟨"TunnelControlDesk$SetupReader", "readBay", "()Z"⟩, 13), (⟨"TunnelControlDesk$SetupReader", "readSection", "()Z"⟩, 13), (⟨"TunnelControlDesk$SetupReader", "readVent", "()Z"⟩, 13), (⟨"TunnelControlDesk$SetupReader", "readFan", "()Z"⟩, 13), (⟨"TunnelControlDesk$SetupReader", "readSetting", "(I)Z"⟩, 13)]
theorem lw_r1 : ∀ q ∈ lw_privs_1, lw_okq q := List.forall_mem_cons.mpr ⟨lw_p0, List.forall_mem_cons.mpr ⟨lw_p1, List.forall_mem_cons.mpr ⟨lw_p2, List.forall_mem_cons.mpr ⟨lw_p3, List.forall_mem_cons.mpr ⟨lw_p4, List.forall_mem_cons.mpr ⟨lw_p5, List.forall_mem_cons.mpr ⟨lw_p6, List.forall_mem_cons.mpr ⟨lw_p7, List.forall_mem_cons.mpr ⟨lw_p8, List.forall_mem_cons.mpr ⟨lw_p9, List.forall_mem_cons.mpr ⟨lw_p10, List.forall_mem_cons.mpr ⟨lw_p11, List.forall_mem_cons.mpr ⟨lw_p12, List.forall_mem_cons.mpr ⟨lw_p13, List.forall_mem_cons.mpr ⟨lw_p14, List.forall_mem_cons.mpr ⟨lw_p15, fun _ h => absurd h List.not_mem_nil⟩⟩⟩⟩⟩⟩⟩⟩⟩⟩⟩⟩⟩⟩⟩⟩
theorem lw_p16 : lw_okq (⟨"TunnelControlDesk$SetupReader", "readCar", "()Z"⟩, 13) := ⟨⟨by decide +kernel, by decide +kernel⟩, List.mem_of_getElem? (i := 88) (by decide +kernel), List.mem_of_getElem? (i := 620) (by decide +kernel), List.mem_of_getElem? (i := 621) (by decide +kernel)⟩
theorem lw_p17 : lw_okq (⟨"TunnelControlDesk$SetupReader", "readWay", "()Z"⟩, 13) := ⟨⟨by decide +kernel, by decide +kernel⟩, List.mem_of_getElem? (i := 88) (by decide +kernel), List.mem_of_getElem? (i := 624) (by decide +kernel), List.mem_of_getElem? (i := 625) (by decide +kernel)⟩
theorem lw_p18 : lw_okq (⟨"TunnelControlDesk$SetupReader", "readFire", "()Z"⟩, 13) := ⟨⟨by decide +kernel, by decide +kernel⟩, List.mem_of_getElem? (i := 88) (by decide +kernel), List.mem_of_getElem? (i := 636) (by decide +kernel), List.mem_of_getElem? (i := 637) (by decide +kernel)⟩
theorem lw_p19 : lw_okq (⟨"TunnelControlDesk$SetupReader", "readDraft", "()Z"⟩, 13) := ⟨⟨by decide +kernel, by decide +kernel⟩, List.mem_of_getElem? (i := 88) (by decide +kernel), List.mem_of_getElem? (i := 641) (by decide +kernel), List.mem_of_getElem? (i := 642) (by decide +kernel)⟩
theorem lw_p20 : lw_okq (⟨"TunnelControlDesk$SetupReader", "readRed", "()Z"⟩, 13) := ⟨⟨by decide +kernel, by decide +kernel⟩, List.mem_of_getElem? (i := 88) (by decide +kernel), List.mem_of_getElem? (i := 646) (by decide +kernel), List.mem_of_getElem? (i := 647) (by decide +kernel)⟩
theorem lw_p21 : lw_okq (⟨"TunnelControlDesk$SetupReader", "beginRate", "()Z"⟩, 13) := ⟨⟨by decide +kernel, by decide +kernel⟩, List.mem_of_getElem? (i := 88) (by decide +kernel), List.mem_of_getElem? (i := 652) (by decide +kernel), List.mem_of_getElem? (i := 653) (by decide +kernel)⟩
theorem lw_p22 : lw_okq (⟨"TunnelControlDesk$SetupReader", "readSum", "(I)Z"⟩, 13) := ⟨⟨by decide +kernel, by decide +kernel⟩, List.mem_of_getElem? (i := 88) (by decide +kernel), List.mem_of_getElem? (i := 656) (by decide +kernel), List.mem_of_getElem? (i := 657) (by decide +kernel)⟩
theorem lw_p23 : lw_okq (⟨"TunnelControlDesk$SetupReader", "readTerm", "(I)Z"⟩, 13) := ⟨⟨by decide +kernel, by decide +kernel⟩, List.mem_of_getElem? (i := 88) (by decide +kernel), List.mem_of_getElem? (i := 660) (by decide +kernel), List.mem_of_getElem? (i := 661) (by decide +kernel)⟩
theorem lw_p24 : lw_okq (⟨"TunnelControlDesk$SetupReader", "readFactor", "(I)Z"⟩, 13) := ⟨⟨by decide +kernel, by decide +kernel⟩, List.mem_of_getElem? (i := 88) (by decide +kernel), List.mem_of_getElem? (i := 664) (by decide +kernel), List.mem_of_getElem? (i := 665) (by decide +kernel)⟩
theorem lw_p25 : lw_okq (⟨"TunnelControlDesk$SetupReader", "putCode", "(I)V"⟩, 13) := ⟨⟨by decide +kernel, by decide +kernel⟩, List.mem_of_getElem? (i := 88) (by decide +kernel), List.mem_of_getElem? (i := 668) (by decide +kernel), List.mem_of_getElem? (i := 669) (by decide +kernel)⟩
theorem lw_p26 : lw_okq (⟨"TunnelControlDesk$SetupReader", "endRate", "()Z"⟩, 13) := ⟨⟨by decide +kernel, by decide +kernel⟩, List.mem_of_getElem? (i := 88) (by decide +kernel), List.mem_of_getElem? (i := 675) (by decide +kernel), List.mem_of_getElem? (i := 676) (by decide +kernel)⟩
theorem lw_p27 : lw_okq (⟨"TunnelControlDesk", "requireSection", "(I)V"⟩, 5) := ⟨⟨by decide +kernel, by decide +kernel⟩, List.mem_of_getElem? (i := 23) (by decide +kernel), List.mem_of_getElem? (i := 695) (by decide +kernel), List.mem_of_getElem? (i := 696) (by decide +kernel)⟩
theorem lw_p28 : lw_okq (⟨"TunnelControlDesk", "requireFan", "(I)V"⟩, 5) := ⟨⟨by decide +kernel, by decide +kernel⟩, List.mem_of_getElem? (i := 23) (by decide +kernel), List.mem_of_getElem? (i := 735) (by decide +kernel), List.mem_of_getElem? (i := 736) (by decide +kernel)⟩
theorem lw_p29 : lw_okq (⟨"TunnelControlDesk", "requireCar", "(I)V"⟩, 5) := ⟨⟨by decide +kernel, by decide +kernel⟩, List.mem_of_getElem? (i := 23) (by decide +kernel), List.mem_of_getElem? (i := 781) (by decide +kernel), List.mem_of_getElem? (i := 782) (by decide +kernel)⟩
theorem lw_p30 : lw_okq (⟨"TunnelControlDesk$Tunnel", "exposureSum", "()J"⟩, 14) := ⟨⟨by decide +kernel, by decide +kernel⟩, List.mem_of_getElem? (i := 127) (by decide +kernel), List.mem_of_getElem? (i := 832) (by decide +kernel), List.mem_of_getElem? (i := 833) (by decide +kernel)⟩
theorem lw_p31 : lw_okq (⟨"TunnelControlDesk$Tunnel", "moveSmoke", "(I)V"⟩, 14) := ⟨⟨by decide +kernel, by decide +kernel⟩, List.mem_of_getElem? (i := 127) (by decide +kernel), List.mem_of_getElem? (i := 841) (by decide +kernel), List.mem_of_getElem? (i := 842) (by decide +kernel)⟩
def lw_privs_2 : List (MethodName × Nat) := [(⟨"TunnelControlDesk$SetupReader", "readCar", "()Z"⟩, 13), (⟨"TunnelControlDesk$SetupReader", "readWay", "()Z"⟩, 13), (⟨"TunnelControlDesk$SetupReader", "readFire", "()Z"⟩, 13), (⟨"TunnelControlDesk$SetupReader", "readDraft", "()Z"⟩, 13), (⟨"TunnelControlDesk$SetupReader", "readRed", "()Z"⟩, 13), (⟨"TunnelControlDesk$SetupReader", "beginRate", "()Z"⟩, 13), (⟨"TunnelControlDesk$SetupReader", "readSum", "(I)Z"⟩, 13), (⟨"TunnelControlDesk$SetupReader", "readTerm", "(I)Z"⟩, 13), (⟨"TunnelControlDesk$SetupReader", "readFactor", "(I)Z"⟩, 13), (⟨"TunnelControlDesk$SetupReader", "putCode", "(I)V"⟩, 13), (⟨"TunnelControlDesk$SetupReader", "endRate", "()Z"⟩, 13), (⟨"TunnelControlDesk", "requireSection", "(I)V"⟩, 5), (⟨"TunnelControlDesk", "requireFan", "(I)V"⟩, 5), (⟨"TunnelControlDesk", "requireCar", "(I)V"⟩, 5), (⟨"TunnelControlDesk$Tunnel", "exposureSum", "()J"⟩, 14), (⟨"TunnelControlDesk$Tunnel", "moveSmoke", "(I)V"⟩, 14)]
theorem lw_r2 : ∀ q ∈ lw_privs_2, lw_okq q := List.forall_mem_cons.mpr ⟨lw_p16, List.forall_mem_cons.mpr ⟨lw_p17, List.forall_mem_cons.mpr ⟨lw_p18, List.forall_mem_cons.mpr ⟨lw_p19, List.forall_mem_cons.mpr ⟨lw_p20, List.forall_mem_cons.mpr ⟨lw_p21, List.forall_mem_cons.mpr ⟨lw_p22, List.forall_mem_cons.mpr ⟨lw_p23, List.forall_mem_cons.mpr ⟨lw_p24, List.forall_mem_cons.mpr ⟨lw_p25, List.forall_mem_cons.mpr ⟨lw_p26, List.forall_mem_cons.mpr ⟨lw_p27, List.forall_mem_cons.mpr ⟨lw_p28, List.forall_mem_cons.mpr ⟨lw_p29, List.forall_mem_cons.mpr ⟨lw_p30, List.forall_mem_cons.mpr ⟨lw_p31, fun _ h => absurd h List.not_mem_nil⟩⟩⟩⟩⟩⟩⟩⟩⟩⟩⟩⟩⟩⟩⟩⟩
theorem lw_p32 : lw_okq (⟨"TunnelControlDesk$Tunnel", "exposeCars", "()V"⟩, 14) := ⟨⟨by decide +kernel, by decide +kernel⟩, List.mem_of_getElem? (i := 127) (by decide +kernel), List.mem_of_getElem? (i := 849) (by decide +kernel), List.mem_of_getElem? (i := 850) (by decide +kernel)⟩
theorem lw_p33 : lw_okq (⟨"TunnelControlDeskModel", "fails", "(ZI)Z"⟩, 23) := ⟨⟨by decide +kernel, by decide +kernel⟩, List.mem_of_getElem? (i := 901) (by decide +kernel), List.mem_of_getElem? (i := 994) (by decide +kernel), List.mem_of_getElem? (i := 995) (by decide +kernel)⟩
theorem lw_p34 : lw_okq (⟨"TunnelControlDeskModel", "takeWord", "(Ljava/lang/String;)Z"⟩, 23) := ⟨⟨by decide +kernel, by decide +kernel⟩, List.mem_of_getElem? (i := 901) (by decide +kernel), List.mem_of_getElem? (i := 1002) (by decide +kernel), List.mem_of_getElem? (i := 1003) (by decide +kernel)⟩
theorem lw_p35 : lw_okq (⟨"TunnelControlDeskModel", "isGood", "()Z"⟩, 23) := ⟨⟨by decide +kernel, by decide +kernel⟩, List.mem_of_getElem? (i := 901) (by decide +kernel), List.mem_of_getElem? (i := 1006) (by decide +kernel), List.mem_of_getElem? (i := 1007) (by decide +kernel)⟩
theorem lw_p36 : lw_okq (⟨"TunnelControlDeskModel", "next", "()I"⟩, 23) := ⟨⟨by decide +kernel, by decide +kernel⟩, List.mem_of_getElem? (i := 901) (by decide +kernel), List.mem_of_getElem? (i := 1010) (by decide +kernel), List.mem_of_getElem? (i := 1011) (by decide +kernel)⟩
theorem lw_p37 : lw_okq (⟨"TunnelControlDeskModel", "byteAt", "(I)I"⟩, 23) := ⟨⟨by decide +kernel, by decide +kernel⟩, List.mem_of_getElem? (i := 901) (by decide +kernel), List.mem_of_getElem? (i := 1014) (by decide +kernel), List.mem_of_getElem? (i := 1015) (by decide +kernel)⟩
theorem lw_p38 : lw_okq (⟨"TunnelControlDeskModel", "report", "(II)V"⟩, 23) := ⟨⟨by decide +kernel, by decide +kernel⟩, List.mem_of_getElem? (i := 901) (by decide +kernel), List.mem_of_getElem? (i := 1020) (by decide +kernel), List.mem_of_getElem? (i := 1021) (by decide +kernel)⟩
theorem lw_p39 : lw_okq (⟨"TunnelControlDeskModel", "number", "(II)I"⟩, 23) := ⟨⟨by decide +kernel, by decide +kernel⟩, List.mem_of_getElem? (i := 901) (by decide +kernel), List.mem_of_getElem? (i := 1024) (by decide +kernel), List.mem_of_getElem? (i := 1025) (by decide +kernel)⟩
theorem lw_p40 : lw_okq (⟨"TunnelControlDeskModel", "expect", "(I)V"⟩, 23) := ⟨⟨by decide +kernel, by decide +kernel⟩, List.mem_of_getElem? (i := 901) (by decide +kernel), List.mem_of_getElem? (i := 1035) (by decide +kernel), List.mem_of_getElem? (i := 1036) (by decide +kernel)⟩
theorem lw_p41 : lw_okq (⟨"TunnelControlDeskModel", "statement", "()V"⟩, 23) := ⟨⟨by decide +kernel, by decide +kernel⟩, List.mem_of_getElem? (i := 901) (by decide +kernel), List.mem_of_getElem? (i := 1039) (by decide +kernel), List.mem_of_getElem? (i := 1040) (by decide +kernel)⟩
theorem lw_p42 : lw_okq (⟨"TunnelControlDeskModel", "readBay", "(I)V"⟩, 23) := ⟨⟨by decide +kernel, by decide +kernel⟩, List.mem_of_getElem? (i := 901) (by decide +kernel), List.mem_of_getElem? (i := 1044) (by decide +kernel), List.mem_of_getElem? (i := 1045) (by decide +kernel)⟩
theorem lw_p43 : lw_okq (⟨"TunnelControlDeskModel", "freshSection", "(II)I"⟩, 23) := ⟨⟨by decide +kernel, by decide +kernel⟩, List.mem_of_getElem? (i := 901) (by decide +kernel), List.mem_of_getElem? (i := 1048) (by decide +kernel), List.mem_of_getElem? (i := 1049) (by decide +kernel)⟩
theorem lw_p44 : lw_okq (⟨"TunnelControlDeskModel", "readSection", "()I"⟩, 23) := ⟨⟨by decide +kernel, by decide +kernel⟩, List.mem_of_getElem? (i := 901) (by decide +kernel), List.mem_of_getElem? (i := 1052) (by decide +kernel), List.mem_of_getElem? (i := 1053) (by decide +kernel)⟩
theorem lw_p45 : lw_okq (⟨"TunnelControlDeskModel", "readFan", "()V"⟩, 23) := ⟨⟨by decide +kernel, by decide +kernel⟩, List.mem_of_getElem? (i := 901) (by decide +kernel), List.mem_of_getElem? (i := 1058) (by decide +kernel), List.mem_of_getElem? (i := 1059) (by decide +kernel)⟩
theorem lw_p46 : lw_okq (⟨"TunnelControlDeskModel", "setting", "(I)I"⟩, 23) := ⟨⟨by decide +kernel, by decide +kernel⟩, List.mem_of_getElem? (i := 901) (by decide +kernel), List.mem_of_getElem? (i := 1062) (by decide +kernel), List.mem_of_getElem? (i := 1063) (by decide +kernel)⟩
theorem lw_p47 : lw_okq (⟨"TunnelControlDeskModel", "readCar", "(I)V"⟩, 23) := ⟨⟨by decide +kernel, by decide +kernel⟩, List.mem_of_getElem? (i := 901) (by decide +kernel), List.mem_of_getElem? (i := 1067) (by decide +kernel), List.mem_of_getElem? (i := 1068) (by decide +kernel)⟩
def lw_privs_3 : List (MethodName × Nat) := [(⟨"TunnelControlDesk$Tunnel", "exposeCars", "()V"⟩, 14), (⟨"TunnelControlDeskModel", "fails", "(ZI)Z"⟩, 23), (⟨"TunnelControlDeskModel", "takeWord", "(Ljava/lang/String;)Z"⟩, 23), (⟨"TunnelControlDeskModel", "isGood", "()Z"⟩, 23), (⟨"TunnelControlDeskModel", "next", "()I"⟩, 23), (⟨"TunnelControlDeskModel", "byteAt", "(I)I"⟩, 23), (⟨"TunnelControlDeskModel", "report", "(II)V"⟩, 23), (⟨"TunnelControlDeskModel", "number", "(II)I"⟩, 23), (⟨"TunnelControlDeskModel", "expect", "(I)V"⟩, 23), (⟨"TunnelControlDeskModel", "statement", "()V"⟩, 23), (⟨"TunnelControlDeskModel", "readBay", "(I)V"⟩, 23), (⟨"TunnelControlDeskModel", "freshSection", "(II)I"⟩, 23), (⟨"TunnelControlDeskModel", "readSection", "()I"⟩, 23), (⟨"TunnelControlDeskModel", "readFan", "()V"⟩, 23), (⟨"TunnelControlDeskModel", "setting", "(I)I"⟩, 23), (⟨"TunnelControlDeskModel", "readCar", "(I)V"⟩, 23)]
theorem lw_r3 : ∀ q ∈ lw_privs_3, lw_okq q := List.forall_mem_cons.mpr ⟨lw_p32, List.forall_mem_cons.mpr ⟨lw_p33, List.forall_mem_cons.mpr ⟨lw_p34, List.forall_mem_cons.mpr ⟨lw_p35, List.forall_mem_cons.mpr ⟨lw_p36, List.forall_mem_cons.mpr ⟨lw_p37, List.forall_mem_cons.mpr ⟨lw_p38, List.forall_mem_cons.mpr ⟨lw_p39, List.forall_mem_cons.mpr ⟨lw_p40, List.forall_mem_cons.mpr ⟨lw_p41, List.forall_mem_cons.mpr ⟨lw_p42, List.forall_mem_cons.mpr ⟨lw_p43, List.forall_mem_cons.mpr ⟨lw_p44, List.forall_mem_cons.mpr ⟨lw_p45, List.forall_mem_cons.mpr ⟨lw_p46, List.forall_mem_cons.mpr ⟨lw_p47, fun _ h => absurd h List.not_mem_nil⟩⟩⟩⟩⟩⟩⟩⟩⟩⟩⟩⟩⟩⟩⟩⟩
theorem lw_p48 : lw_okq (⟨"TunnelControlDeskModel", "way", "()I"⟩, 23) := ⟨⟨by decide +kernel, by decide +kernel⟩, List.mem_of_getElem? (i := 901) (by decide +kernel), List.mem_of_getElem? (i := 1071) (by decide +kernel), List.mem_of_getElem? (i := 1072) (by decide +kernel)⟩
theorem lw_p49 : lw_okq (⟨"TunnelControlDeskModel", "once", "(II)V"⟩, 23) := ⟨⟨by decide +kernel, by decide +kernel⟩, List.mem_of_getElem? (i := 901) (by decide +kernel), List.mem_of_getElem? (i := 1084) (by decide +kernel), List.mem_of_getElem? (i := 1085) (by decide +kernel)⟩
theorem lw_p50 : lw_okq (⟨"TunnelControlDeskModel", "sum", "()V"⟩, 23) := ⟨⟨by decide +kernel, by decide +kernel⟩, List.mem_of_getElem? (i := 901) (by decide +kernel), List.mem_of_getElem? (i := 1091) (by decide +kernel), List.mem_of_getElem? (i := 1092) (by decide +kernel)⟩
theorem lw_p51 : lw_okq (⟨"TunnelControlDeskModel", "term", "()V"⟩, 23) := ⟨⟨by decide +kernel, by decide +kernel⟩, List.mem_of_getElem? (i := 901) (by decide +kernel), List.mem_of_getElem? (i := 1095) (by decide +kernel), List.mem_of_getElem? (i := 1096) (by decide +kernel)⟩
theorem lw_p52 : lw_okq (⟨"TunnelControlDeskModel", "factor", "()V"⟩, 23) := ⟨⟨by decide +kernel, by decide +kernel⟩, List.mem_of_getElem? (i := 901) (by decide +kernel), List.mem_of_getElem? (i := 1099) (by decide +kernel), List.mem_of_getElem? (i := 1100) (by decide +kernel)⟩
theorem lw_p53 : lw_okq (⟨"TunnelControlDeskModel", "emit", "(I)V"⟩, 23) := ⟨⟨by decide +kernel, by decide +kernel⟩, List.mem_of_getElem? (i := 901) (by decide +kernel), List.mem_of_getElem? (i := 1106) (by decide +kernel), List.mem_of_getElem? (i := 1107) (by decide +kernel)⟩
theorem lw_p54 : lw_okq (⟨"TunnelControlDeskModel", "remember", "()V"⟩, 23) := ⟨⟨by decide +kernel, by decide +kernel⟩, List.mem_of_getElem? (i := 901) (by decide +kernel), List.mem_of_getElem? (i := 1110) (by decide +kernel), List.mem_of_getElem? (i := 1111) (by decide +kernel)⟩
theorem lw_p55 : lw_okq (⟨"TunnelControlDeskModel", "rateOf", "([I)I"⟩, 23) := ⟨⟨by decide +kernel, by decide +kernel⟩, List.mem_of_getElem? (i := 901) (by decide +kernel), List.mem_of_getElem? (i := 1144) (by decide +kernel), List.mem_of_getElem? (i := 1145) (by decide +kernel)⟩
theorem lw_p56 : lw_okq (⟨"TunnelControlDeskModel", "noSection", "(I)Z"⟩, 23) := ⟨⟨by decide +kernel, by decide +kernel⟩, List.mem_of_getElem? (i := 901) (by decide +kernel), List.mem_of_getElem? (i := 1172) (by decide +kernel), List.mem_of_getElem? (i := 1173) (by decide +kernel)⟩
theorem lw_p57 : lw_okq (⟨"TunnelControlDeskModel", "noWay", "(I)Z"⟩, 23) := ⟨⟨by decide +kernel, by decide +kernel⟩, List.mem_of_getElem? (i := 901) (by decide +kernel), List.mem_of_getElem? (i := 1192) (by decide +kernel), List.mem_of_getElem? (i := 1193) (by decide +kernel)⟩
theorem lw_p58 : lw_okq (⟨"TunnelControlDeskModel", "noCar", "(I)Z"⟩, 23) := ⟨⟨by decide +kernel, by decide +kernel⟩, List.mem_of_getElem? (i := 901) (by decide +kernel), List.mem_of_getElem? (i := 1203) (by decide +kernel), List.mem_of_getElem? (i := 1204) (by decide +kernel)⟩
theorem lw_p59 : lw_okq (⟨"TunnelControlDeskModel", "clears", "(I)I"⟩, 23) := ⟨⟨by decide +kernel, by decide +kernel⟩, List.mem_of_getElem? (i := 901) (by decide +kernel), List.mem_of_getElem? (i := 1227) (by decide +kernel), List.mem_of_getElem? (i := 1228) (by decide +kernel)⟩
theorem lw_p60 : lw_okq (⟨"TunnelControlDeskModel", "tick", "([I)V"⟩, 23) := ⟨⟨by decide +kernel, by decide +kernel⟩, List.mem_of_getElem? (i := 901) (by decide +kernel), List.mem_of_getElem? (i := 1231) (by decide +kernel), List.mem_of_getElem? (i := 1232) (by decide +kernel)⟩
theorem lw_p61 : lw_okq (⟨"TunnelControlDeskModel", "smoulder", "([II)V"⟩, 23) := ⟨⟨by decide +kernel, by decide +kernel⟩, List.mem_of_getElem? (i := 901) (by decide +kernel), List.mem_of_getElem? (i := 1235) (by decide +kernel), List.mem_of_getElem? (i := 1236) (by decide +kernel)⟩
theorem lw_p62 : lw_okq (⟨"TunnelControlDeskModel", "driveFrom", "([III)V"⟩, 23) := ⟨⟨by decide +kernel, by decide +kernel⟩, List.mem_of_getElem? (i := 901) (by decide +kernel), List.mem_of_getElem? (i := 1240) (by decide +kernel), List.mem_of_getElem? (i := 1241) (by decide +kernel)⟩
theorem lw_p63 : lw_okq (⟨"TunnelControlDeskModel", "drive", "([II)V"⟩, 23) := ⟨⟨by decide +kernel, by decide +kernel⟩, List.mem_of_getElem? (i := 901) (by decide +kernel), List.mem_of_getElem? (i := 1244) (by decide +kernel), List.mem_of_getElem? (i := 1245) (by decide +kernel)⟩
def lw_privs_4 : List (MethodName × Nat) := [(⟨"TunnelControlDeskModel", "way", "()I"⟩, 23), (⟨"TunnelControlDeskModel", "once", "(II)V"⟩, 23), (⟨"TunnelControlDeskModel", "sum", "()V"⟩, 23), (⟨"TunnelControlDeskModel", "term", "()V"⟩, 23), (⟨"TunnelControlDeskModel", "factor", "()V"⟩, 23), (⟨"TunnelControlDeskModel", "emit", "(I)V"⟩, 23), (⟨"TunnelControlDeskModel", "remember", "()V"⟩, 23), (⟨"TunnelControlDeskModel", "rateOf", "([I)I"⟩, 23), (⟨"TunnelControlDeskModel", "noSection", "(I)Z"⟩, 23), (⟨"TunnelControlDeskModel", "noWay", "(I)Z"⟩, 23), (⟨"TunnelControlDeskModel", "noCar", "(I)Z"⟩, 23), (⟨"TunnelControlDeskModel", "clears", "(I)I"⟩, 23), (⟨"TunnelControlDeskModel", "tick", "([I)V"⟩, 23), (⟨"TunnelControlDeskModel", "smoulder", "([II)V"⟩, 23), (⟨"TunnelControlDeskModel", "driveFrom", "([III)V"⟩, 23), (⟨"TunnelControlDeskModel", "drive", "([II)V"⟩, 23)]
theorem lw_r4 : ∀ q ∈ lw_privs_4, lw_okq q := List.forall_mem_cons.mpr ⟨lw_p48, List.forall_mem_cons.mpr ⟨lw_p49, List.forall_mem_cons.mpr ⟨lw_p50, List.forall_mem_cons.mpr ⟨lw_p51, List.forall_mem_cons.mpr ⟨lw_p52, List.forall_mem_cons.mpr ⟨lw_p53, List.forall_mem_cons.mpr ⟨lw_p54, List.forall_mem_cons.mpr ⟨lw_p55, List.forall_mem_cons.mpr ⟨lw_p56, List.forall_mem_cons.mpr ⟨lw_p57, List.forall_mem_cons.mpr ⟨lw_p58, List.forall_mem_cons.mpr ⟨lw_p59, List.forall_mem_cons.mpr ⟨lw_p60, List.forall_mem_cons.mpr ⟨lw_p61, List.forall_mem_cons.mpr ⟨lw_p62, List.forall_mem_cons.mpr ⟨lw_p63, fun _ h => absurd h List.not_mem_nil⟩⟩⟩⟩⟩⟩⟩⟩⟩⟩⟩⟩⟩⟩⟩⟩
theorem lw_p64 : lw_okq (⟨"TunnelControlDeskModel", "turn", "([II)V"⟩, 23) := ⟨⟨by decide +kernel, by decide +kernel⟩, List.mem_of_getElem? (i := 901) (by decide +kernel), List.mem_of_getElem? (i := 1248) (by decide +kernel), List.mem_of_getElem? (i := 1249) (by decide +kernel)⟩
theorem lw_p65 : lw_okq (⟨"TunnelControlDeskModel", "findBays", "()V"⟩, 23) := ⟨⟨by decide +kernel, by decide +kernel⟩, List.mem_of_getElem? (i := 901) (by decide +kernel), List.mem_of_getElem? (i := 1259) (by decide +kernel), List.mem_of_getElem? (i := 1260) (by decide +kernel)⟩
theorem lw_p66 : lw_okq (⟨"TunnelControlDeskModel", "exposes", "(II)J"⟩, 23) := ⟨⟨by decide +kernel, by decide +kernel⟩, List.mem_of_getElem? (i := 901) (by decide +kernel), List.mem_of_getElem? (i := 1274) (by decide +kernel), List.mem_of_getElem? (i := 1275) (by decide +kernel)⟩
def lw_privs_5 : List (MethodName × Nat) := [(⟨"TunnelControlDeskModel", "turn", "([II)V"⟩, 23), (⟨"TunnelControlDeskModel", "findBays", "()V"⟩, 23), (⟨"TunnelControlDeskModel", "exposes", "(II)J"⟩, 23)]
theorem lw_r5 : ∀ q ∈ lw_privs_5, lw_okq q := List.forall_mem_cons.mpr ⟨lw_p64, List.forall_mem_cons.mpr ⟨lw_p65, List.forall_mem_cons.mpr ⟨lw_p66, fun _ h => absurd h List.not_mem_nil⟩⟩⟩
def lw_privs : List (MethodName × Nat) := lw_privs_1 ++ (lw_privs_2 ++ (lw_privs_3 ++ (lw_privs_4 ++ (lw_privs_5))))
def lw_tbl : List Cond := k2_sels lw_privs ++ tables_1
theorem lw_privs_ok : ∀ q ∈ lw_privs, lw_okq q := by
  show ∀ q ∈ lw_privs_1 ++ (lw_privs_2 ++ (lw_privs_3 ++ (lw_privs_4 ++ (lw_privs_5)))), lw_okq q
  exact List.forall_mem_append.mpr ⟨lw_r1, List.forall_mem_append.mpr ⟨lw_r2, List.forall_mem_append.mpr ⟨lw_r3, List.forall_mem_append.mpr ⟨lw_r4, lw_r5⟩⟩⟩⟩

/-! ===== BEGIN words of one list among another's, by their places ===== -/
theorem goodIn_r {big : List Cond} (ws : List Cond) (ps : List Nat) (hp : ws = ps.filterMap (fun i => big[i]?)) (h : ws.all goodWord = true) : GoodIn big ws := by
  intro w hw
  have h1 := List.all_eq_true.mp h w hw
  rw [hp] at hw
  obtain ⟨i, -, hi⟩ := List.mem_filterMap.mp hw
  have hm : w ∈ big := by first | exact List.mem_of_getElem? hi | exact List.getElem?_mem hi
  exact ⟨hm, good_of_word h1⟩
theorem goodIn_app {big a b : List Cond} (ha : GoodIn big a) (hb : GoodIn big b) : GoodIn big (a ++ b) := fun w h => (List.mem_append.mp h).elim (ha w) (hb w)
theorem goodIn_ca {big a b : List Cond} {c : Cond} (ha : GoodIn big (c :: a)) (hb : GoodIn big b) : GoodIn big (c :: (a ++ b)) := fun w h => (List.mem_cons.mp h).elim (fun e => ha w (List.mem_cons.mpr (Or.inl e))) (fun h => (List.mem_append.mp h).elim (fun h => ha w (List.mem_cons.mpr (Or.inr h))) (hb w))
theorem goodIn_sub {big ws : List Cond} (hm : ∀ w ∈ ws, w ∈ big) (h : ws.all goodWord = true) : GoodIn big ws := fun w hw => ⟨hm w hw, good_of_word (List.all_eq_true.mp h w hw)⟩
/-! ===== END ===== -/

/-! ===== BEGIN new T[n][m]: the outer array a place, the inner ones among the pooled ===== -/
/-- f, but v at every address of l -/
def vr_up {α : Type} (f : Nat → α) (l : List Nat) (v : α) : Nat → α := fun a => if a ∈ l then v else f a
theorem vr_up_in {α : Type} {f : Nat → α} {l : List Nat} {v : α} {a : Nat} (h : a ∈ l) : vr_up f l v a = v := if_pos h
theorem vr_up_ne {α : Type} {f : Nat → α} {l : List Nat} {v : α} {a : Nat} (h : a ∉ l) : vr_up f l v a = f a := if_neg h
theorem vr_rows {L l : List Nat} {f : Nat → va_E} {e : va_E} (h : ∀ a, a ∈ l → a ∉ L) : va_pl L f ++ l.map (fun a => (a, e)) = va_pl (L ++ l) (vr_up f l e) := by
  unfold va_pl
  rw [List.map_append]
  congr 1
  · apply List.map_congr_left
    intro a ha
    rw [vr_up_ne (fun q => h a q ha)]
  · apply List.map_congr_left
    intro a ha
    rw [vr_up_in ha]
theorem vr_lay {X rows : va_W} {x : Nat × va_E} {pl : va_W} {D : va_G} {cl : List vw_C} {H : Heap} (hP : va_P D cl (((X ++ pl) ++ [x]) ++ rows) H) : va_P D cl ((X ++ [x]) ++ (pl ++ rows)) H := by
  rw [List.append_assoc (X ++ pl)] at hP
  have h := va_P.swap hP
  rw [← List.append_assoc X] at h
  have h2 := va_P.swap h
  rw [List.append_assoc (X ++ [x])] at h2
  exact h2
theorem vr_layD {X rows : va_W} {x : Nat × va_E} {pl : va_W} {A : Nat → Prop} (hD : va_D A (((X ++ pl) ++ [x]) ++ rows)) : va_D A ((X ++ [x]) ++ (pl ++ rows)) := by
  rw [List.append_assoc (X ++ pl)] at hD
  have h := va_D.swap hD
  rw [← List.append_assoc X] at h
  have h2 := va_D.swap h
  rw [List.append_assoc (X ++ [x])] at h2
  exact h2
theorem vr_outer (c : ClassId) (N h0 : Nat) : ∀ i : Nat, Jvm.Free.Multi.outerC c N h0 i = arrV c N (fun j => va_rf (if j < i then some (h0 + 1 + j) else none))
  | 0 => by
    show ({ cls := c, slots := Array.replicate N .null, vm := .none } : Cell) = _
    rw [arrV_new]
    refine congrArg (arrV c N) (funext fun j => ?_)
    simp [va_rf]
  | i + 1 => by
    show (Jvm.Free.Multi.outerC c N h0 i).setSlot i (.ref (h0 + 1 + i)) = _
    rw [vr_outer c N h0 i, arrV_store]
    refine congrArg (arrV c N) (funext fun j => ?_)
    by_cases e : j = i
    · subst e
      simp [updV, va_rf]
    · by_cases h : j < i
      · simp [updV, e, h, Nat.lt_succ_of_lt h]
      · simp [updV, e, h, show ¬ j < i + 1 by omega]
section VGM
variable {p : Program} {l : Launch} {e : Env} {R : Room} {s : State} {m : MethodId} {args : Array Value} {below : List Frame} {meth : Method} {c : Code} {H : Heap} {locs : List Loc} {cells slots : Nat} {Q : State → Prop}
variable {cc : ByteArray} {pc : Nat} {ls : Array Slot} {rest : List Value} {D : va_G} {cl : List vw_C} {A : Nat → Prop} {a : Nat} {tys : List (ClassId × FieldType)} {ws : va_W} {H0 : Heap}
theorem va_mna {X : va_W} {L : List Nat} {f : Nat → va_E} {cc : ByteArray} (hexec : p.tables.exec = Jvm.exec) (hb : c.code = cc) {own : String} {index : Nat} {ty : FieldType} {cy : ClassId} (hown : s.vm.findClass own = some m.cls) (hclink : (Cond.classLink own index ("[" ++ (FieldType.array ty).toString)).before args s = true) (hover : (Cond.arrayOver (.array ty)).before args s = true) (harr : (Cond.arrayClass ty).before args s = true) (hcy : s.vm.findClass (FieldType.array ty).toString = some cy)
    (hK : va_K D cl tys s) (hP : va_P D cl (X ++ va_pl L f) H) (hD : va_D A (X ++ va_pl L f)) (hS : va_S A H0 H locs) (hA : ∀ q, H0.size ≤ q → A q) {n k : Int32} {N' K' : Nat} {z : vp_A} (hn : ¬ n < 0) (hk : ¬ k < 0) (hN : n.toNatClampNeg = N') (hM : k.toNatClampNeg = K')
    (hb1 : N' * 4 ≤ 536870912) (hb2 : K' * componentBytes ty ≤ 536870912) (hb3 : K' ≤ 536870912) (hdf : fits ty (defaultValue ty) = true) (hdd : (defaultValue ty).isDefault = true) (hcells : cells + (1 + N') ≤ R.cells) (hslots : slots + (N' + N' * K') ≤ R.slots) (hz : ∀ c : ClassId, Jvm.Free.Multi.innerC c K' (defaultValue ty) = vp_cell c z) (hdg : decode cc pc = .ok (.multianewarray index 2, 4))
    (kk : ∀ (q : Nat) (r : Nat → Nat) (cA : ClassId) (H1 : Heap), (∀ i j : Nat, i < N' → j < N' → r i = r j → i = j) → (∀ i : Nat, i < N' → r i ∉ L) → va_K D cl (tys ++ [(cA, .array ty)]) s →
      va_P D cl ((X ++ [(q, .inl (cA, N', .inr (.inr (.inr (.inr (fun i => if i < N' then some (r i) else none))))))]) ++ va_pl (L ++ (List.range N').map r) (vr_up f ((List.range N').map r) (.inl (cy, z)))) H1 → va_D A ((X ++ [(q, .inl (cA, N', .inr (.inr (.inr (.inr (fun i => if i < N' then some (r i) else none))))))]) ++ va_pl (L ++ (List.range N').map r) (vr_up f ((List.range N').map r) (.inl (cy, z)))) → va_S A H0 H1 locs →
      W p l e R s m args below meth c H1 locs (cells + 1 + N') (slots + N' + N' * K') Q (F0 m (pc + 4) ls (.ref q :: rest))) : W p l e R s m args below meth c H locs cells slots Q (F0 m pc ls (.int k :: .int n :: rest)) := by
  subst hN
  subst hM
  intro T hT Xs
  obtain ⟨vm₁, cA, comp, -, fA, fC, hO, -, X', step⟩ := Xs.multianewarray2F hexec hown hclink (hover) harr (g := F0 m pc ls (.int k :: .int n :: rest)) rfl (by rw [hb]; exact hdg) rfl hn hk hb1 hb2 hb3 hdf hdd hcells hslots
  have ec : some cy = some comp := hcy.symm.trans fC
  cases ec
  generalize hF : Jvm.Free.Multi.fill (T.setVm vm₁) cA cy n.toNatClampNeg k.toNatClampNeg (defaultValue ty) n.toNatClampNeg = F at X' step
  have hTh : (T.setVm vm₁).heap = H := hT
  obtain ⟨f1, f2, -, -⟩ := Jvm.Free.Multi.fill_facts (T.setVm vm₁) cA cy n.toNatClampNeg k.toNatClampNeg (defaultValue ty) n.toNatClampNeg
  rw [hF, hTh] at f1 f2
  have hold : ∀ x : Nat, x < H.size → F.heap[x]? = H[x]? := fun x hx => by
    have := Jvm.Free.Multi.fill_old (T.setVm vm₁) cA cy n.toNatClampNeg k.toNatClampNeg (defaultValue ty) (a := x) (by rw [hTh]; exact hx) n.toNatClampNeg
    rw [hF, hTh] at this
    exact this
  have hrow : ∀ j : Nat, j < n.toNatClampNeg → F.heap[H.size + 1 + j]? = some (vp_cell cy z) := fun j hj => by
    have := Jvm.Free.Multi.fill_inner (T.setVm vm₁) cA cy n.toNatClampNeg k.toNatClampNeg (defaultValue ty) n.toNatClampNeg j hj
    rw [hF, hTh, hz] at this
    exact this
  have hout : Jvm.Free.Multi.outerC cA n.toNatClampNeg H.size n.toNatClampNeg = vp_cell cA (n.toNatClampNeg, .inr (.inr (.inr (.inr (fun i => if i < n.toNatClampNeg then some (H.size + 1 + i) else none))))) := by
    rw [vp_cell_q]
    exact vr_outer cA n.toNatClampNeg H.size n.toNatClampNeg
  rw [hout] at f2
  have hlt : ∀ a, a ∈ L → a < H.size := fun a ha => by
    obtain ⟨k9, hk9⟩ := va_pl_get (X := X) (f := f) ha
    exact (hP k9 _ hk9).lt
  have hnl : ∀ i : Nat, i < n.toNatClampNeg → H.size + 1 + i ∉ L := fun i _ h => by
    have := hlt _ h
    omega
  have hnm : ∀ a, a ∈ (List.range n.toNatClampNeg).map (fun i => H.size + 1 + i) → a ∉ L := fun a ha h => by
    obtain ⟨i, -, rfl⟩ := List.mem_map.mp ha
    have := hlt _ h
    omega
  have hP0 : va_P D cl (X ++ va_pl L f) F.heap := hP.kept (fun k9 x hx => hold x.1 ((hP k9 x hx).lt))
  have hP1 : va_P D cl ((X ++ va_pl L f) ++ [(H.size, .inl (cA, n.toNatClampNeg, .inr (.inr (.inr (.inr (fun i => if i < n.toNatClampNeg then some (H.size + 1 + i) else none))))))]) F.heap := hP0.app (fun k9 x hx => by
    have h0 : k9 < 1 := (List.getElem?_eq_some_iff.mp hx).1
    rw [show k9 = 0 by omega] at hx
    cases hx
    exact f2)
  have hP2 : va_P D cl (((X ++ va_pl L f) ++ [(H.size, .inl (cA, n.toNatClampNeg, .inr (.inr (.inr (.inr (fun i => if i < n.toNatClampNeg then some (H.size + 1 + i) else none))))))]) ++ ((List.range n.toNatClampNeg).map (fun i => H.size + 1 + i)).map (fun a => (a, .inl (cy, z)))) F.heap := hP1.app (fun k9 x hx => by
    obtain ⟨a, ha, rfl⟩ := List.mem_map.mp (List.mem_of_getElem? hx)
    obtain ⟨i, hi, rfl⟩ := List.mem_map.mp ha
    exact hrow i (List.mem_range.mp hi))
  have hD2 : va_D A (((X ++ va_pl L f) ++ [(H.size, .inl (cA, n.toNatClampNeg, .inr (.inr (.inr (.inr (fun i => if i < n.toNatClampNeg then some (H.size + 1 + i) else none))))))]) ++ ((List.range n.toNatClampNeg).map (fun i => H.size + 1 + i)).map (fun a => (a, .inl (cy, z)))) := by
    have hD1 := hD.push (e := .inl (cA, n.toNatClampNeg, .inr (.inr (.inr (.inr (fun i => if i < n.toNatClampNeg then some (H.size + 1 + i) else none)))))) hP rfl (hA _ hS.1)
    generalize hW1 : (X ++ va_pl L f) ++ [(H.size, .inl (cA, n.toNatClampNeg, .inr (.inr (.inr (.inr (fun i => if i < n.toNatClampNeg then some (H.size + 1 + i) else none))))))] = W1 at hD1 hP1 ⊢
    have hle : ∀ (k9 : Nat) (x : Nat × va_E), W1[k9]? = some x → x.1 ≤ H.size := fun k9 x hx => by
      rw [← hW1] at hx
      by_cases hl : k9 < (X ++ va_pl L f).length
      · rw [List.getElem?_append_left hl] at hx
        exact Nat.le_of_lt ((hP k9 x hx).lt)
      · rw [List.getElem?_append_right (by omega)] at hx
        have h0 : k9 - (X ++ va_pl L f).length < 1 := (List.getElem?_eq_some_iff.mp hx).1
        rw [show k9 - (X ++ va_pl L f).length = 0 by omega] at hx
        cases hx
        exact Nat.le_refl _
    have hr : ∀ (k9 : Nat) (x : Nat × va_E), (((List.range n.toNatClampNeg).map (fun i => H.size + 1 + i)).map (fun a => ((a, .inl (cy, z)) : Nat × va_E)))[k9]? = some x → x.1 = H.size + 1 + k9 := fun k9 x hx => by
      rw [List.getElem?_map, List.getElem?_map] at hx
      by_cases h9 : k9 < n.toNatClampNeg
      · rw [List.getElem?_range h9] at hx
        cases hx
        rfl
      · have hn0 : (List.range n.toNatClampNeg)[k9]? = none := List.getElem?_eq_none (by rw [List.length_range]; omega)
        rw [hn0] at hx
        cases hx
    refine ⟨fun i j x y hi hj hxy => ?_, fun k9 x hx => ?_⟩
    · by_cases h1 : i < W1.length <;> by_cases h2 : j < W1.length
      · rw [List.getElem?_append_left h1] at hi
        rw [List.getElem?_append_left h2] at hj
        exact hD1.1 i j x y hi hj hxy
      · rw [List.getElem?_append_left h1] at hi
        rw [List.getElem?_append_right (by omega)] at hj
        have := hle _ _ hi
        have := hr _ _ hj
        omega
      · rw [List.getElem?_append_right (by omega)] at hi
        rw [List.getElem?_append_left h2] at hj
        have := hle _ _ hj
        have := hr _ _ hi
        omega
      · rw [List.getElem?_append_right (by omega)] at hi hj
        have := hr _ _ hi
        have := hr _ _ hj
        omega
    · by_cases h1 : k9 < W1.length
      · rw [List.getElem?_append_left h1] at hx
        exact hD1.2 k9 x hx
      · rw [List.getElem?_append_right (by omega)] at hx
        have := hr _ _ hx
        exact hA _ (by have := hS.1; omega)
  have hAr : ArrOfT s cA (.array ty) := fun N9 z9 => by
    obtain ⟨-, k9, hk9, cm9, hkk9⟩ := (hO 0 0 0).1
    exact ⟨(fun q hq => by cases hq), k9, hk9, cm9, hkk9⟩
  have hK2 : va_K D cl (tys ++ [(cA, .array ty)]) s := ⟨hK.1, fun k9 x hx => by
    by_cases hl : k9 < tys.length
    · rw [List.getElem?_append_left hl] at hx
      exact hK.2 k9 x hx
    · rw [List.getElem?_append_right (by omega)] at hx
      have h0 : k9 - tys.length < 1 := (List.getElem?_eq_some_iff.mp hx).1
      rw [show k9 - tys.length = 0 by omega] at hx
      cases hx
      exact ⟨hAr, fA⟩⟩
  obtain ⟨t, a1, b1⟩ := kk H.size (fun i => H.size + 1 + i) cA F.heap (fun i j _ _ h => by have h9 : H.size + 1 + i = H.size + 1 + j := h; omega) hnl hK2 (by rw [← vr_rows hnm]; exact vr_lay hP2) (by rw [← vr_rows hnm]; exact vr_layD hD2) ⟨by rw [f1]; have := hS.1; omega, fun x h1 h2 => (hold x (Nat.lt_of_lt_of_le h1 hS.1)).trans (hS.2.1 x h1 h2), hS.2.2⟩ F rfl X'
  refine ⟨t, step t ?_, b1⟩
  have e : T.heap.size = H.size := by rw [hT]
  rw [e]
  exact a1
end VGM
/-! ===== END ===== -/

/-! ===== BEGIN exceptions that leave a method, and their catching by the caller (launches without stack traces) ===== -/
section VXA
/-! The laws vx_back, vx_callV, vx_callS, vx_callSW, vx_throw0, vx_throwS follow proofs of the library, with one case more: JvmDerived/Free/Laws.lean (Back.of_free), Shelf42/LK1.lean (callV, callS), Shelf/KitTraced.lean (throwNew0V, throwNewS). -/
/-- where a method has thrown q: the class by its name, the cell, what was written, the world -/
def vx_T (XC : String → State → State → Prop) (st : State) (q : Addr) (t : State) (mc ms : Nat) (free : Addr → Prop) : Prop :=
  ∃ (E : String) (ce : Cell) (L : List Loc), XC E st t ∧ t.heap[q]? = some ce ∧ ce.vm = .none ∧ st.vm.findClass E = some ce.cls ∧ st.WarmedH t.vm ∧ st.sameButNew ({ t with vm := st.vm } : State) L mc ms ∧ ∀ z ∈ L, free z.base
def vx_Q (Qc : Array Value → State → Outcome → State → Prop) (XC : String → State → State → Prop) (mc ms : Nat) (free : Addr → Prop) : Array Value → State → Outcome → State → Prop := fun a st o t =>
  (Qc a st o t ∧ ∃ L, FrameEnd st o t L mc ms ∧ ∀ q ∈ L, free q.base) ∨ ∃ q, o = .threw q ∧ vx_T XC st q t mc ms free
/-- a callee that returns or throws -/
def vx_Met (l : Launch) (y : MethodName) (ws : List Cond) (rm : Room) (Pc : Array Value → State → Prop) (Qc : Array Value → State → Outcome → State → Prop) (XC : String → State → State → Prop) (mc ms : Nat) (free : Addr → Prop) : Prop :=
  MetFree l y (headSpec ws rm) Pc (fun _ _ _ _ _ => True) (vx_Q Qc XC mc ms free)
def vx_Post (XC : String → State → State → Prop) (mc ms : Nat) (free : Addr → Prop) : Pt → Array Value → Addr → Pt → Prop := fun A a q B =>
  ∃ (g : JFrame) (mk : MethodId) (t : State) (L : List Loc) (E : String) (ce : Cell), B.U.heap = t.heap ∧ B.U.vm = t.vm ∧ XC E (A.U.calling g mk a) t ∧ t.heap[q]? = some ce ∧ ce.vm = .none ∧ A.U.vm.findClass E = some ce.cls ∧ B.locs = A.locs ++ L ∧ (∀ z ∈ L, free z.base) ∧ B.cells = A.cells + mc ∧ B.slots = A.slots + ms
def vx_Back (l : Launch) (R : Room) (p : Program) (e : Env) (below : List Frame) (s : State) (sargs : Array Value) (y : MethodName) (len W9 : Nat)
    (Pre : Pt → Array Value → Prop) (Post : Pt → Array Value → Option Value → Pt → Prop) (PostX : Pt → Array Value → Addr → Pt → Prop) : Prop :=
  ∀ (m : MethodId) (meth : Method) (c : Code) (A : Pt) (g : JFrame) (ig : Instr) (mk : MethodId) (a : Array Value),
    Stand p l e R s m sargs below meth c A.U A.locs A.cells A.slots → g.method = m → g.locals.size = c.maxLocals → decode c.code g.pc = .ok (ig, len) →
    2 * g.monitorRoom + (g.stack.map fun v => v.category).sum ≤ W9 → A.U.methodNamed? y = some mk → Pre A a →
    (∃ (v : Option Value) (B : Pt), Stand p l e R s m sargs below meth c B.U B.locs B.cells B.slots ∧ Post A a v B ∧
      Steps p.tables e below (doInvoke e (A.U.setTop g) [] mk a).1 (B.U.setTop { g with pc := g.pc + len, stack := v.toList ++ g.stack })) ∨
    (∃ (q : Addr) (B : Pt), Stand p l e R s m sargs below meth c B.U B.locs B.cells B.slots ∧ PostX A a q B ∧
      Steps p.tables e below (doInvoke e (A.U.setTop g) [] mk a).1 ((B.U.setTop g).pushFrame (.throwing q)))
section Payer
variable {l : Launch} {R : Room} {p : Program} {e : Env} {below : List Frame} {s : State} {sargs : Array Value} {y : MethodName} {len W9 : Nat}
theorem vx_back {ws : List Cond} {rm : Room} {Pc : Array Value → State → Prop} {Qc : Array Value → State → Outcome → State → Prop} {XC : String → State → State → Prop} {mc ms : Nat} {free : Addr → Prop} {bytes : ByteArray} {maxL : Nat} {ret : Option FieldType}
    (hM : vx_Met l y ws rm Pc Qc XC mc ms free) (hblind : FrameBlind Pc) (hrc : rm.cells = mc) (hrs : rm.slots = ms)
    (hframes : rm.frames + 1 ≤ R.frames) (hlocals : W9 + (maxL + 11) + rm.locals ≤ R.locals)
    (hws : ∀ w ∈ ws, ∀ a' U, s.WarmedH U.vm → w.before a' U = true) (hcode : Cond.code y bytes maxL ret ∈ ws) (hinit : ∀ a' U, s.WarmedH U.vm → (Cond.initialized y.cls).before a' U = true) :
    vx_Back l R p e below s sargs y len W9 (PreOf R mc ms Pc) (PostOf Qc mc ms free) (vx_Post XC mc ms free) := by
  intro m meth c A g ig mk a X hg hsize hdg hW hn hp
  have h1 : (headSpec ws rm).pre.before a A.U = true := atoms_intro fun w hw => hws w hw _ _ X.warmed
  have h2 : (Cond.code y bytes maxL ret).before a A.U = true := hws _ hcode _ _ X.warmed
  have h3 : (Cond.initialized y.cls).before a A.U = true := hinit _ _ X.warmed
  have h4 : A.cells + (headSpec ws rm).room.cells ≤ R.cells := by rw [show (headSpec ws rm).room.cells = mc from hrc]; exact hp.1
  have h5 : A.slots + (headSpec ws rm).room.slots ≤ R.slots := by rw [show (headSpec ws rm).room.slots = ms from hrs]; exact hp.2.1
  have hPc : Pc a (A.U.calling g mk a) := hblind _ _ _ _ hp.2.2
  obtain ⟨U, Ls, c0, s0⟩ := A
  dsimp only [Pt.U, Pt.locs, Pt.cells, Pt.slots] at h1 h2 h3 h4 h5 X hn hPc ⊢
  obtain ⟨methY, cY, hmY, hcY, -, hlY, -, -, -, -⟩ := Cond.code_spec hn h2
  obtain ⟨kY, hkY, -⟩ := className_of_methodNamed hn
  have hinitY : kY.init = .initialized := Cond.initialized_spec (findClass_of_methodNamed hn) hkY h3
  have h : At U g.method c below := by rw [hg]; exact X.here
  have hlocals9 : W9 + (maxL + 11) + (headSpec ws rm).room.locals ≤ R.locals := hlocals
  have happ : (headSpec ws rm).appliesLoose y e.platform (U.calling g mk a) = true :=
    Spec.appliesLoose_calling (g := g) h hdg hn hkY hinitY
      (X.room_calling (g := g) (R' := (headSpec ws rm).room) hsize hmY hcY hframes (by rw [hlY]; omega) h4 h5) h1
  obtain ⟨mid, hmid⟩ := h.above
  have hfr : (U.setTop g).frames = (.java g :: mid) ++ below := by rw [State.frames_setTop' g h.top, hmid]; rfl
  obtain ⟨o, s₂, hsteps, -, hend, hq⟩ := Steps.callFree hM p X.admits X.cas X.clock (acts := []) hfr happ hPc trivial
  have hq' : vx_Q Qc XC mc ms free a (U.calling g mk a) o s₂ := hq
  rw [State.frames_setTop' g h.top] at hend
  obtain ⟨g₀, hg0⟩ := Option.isSome_iff_exists.mp h.top
  obtain ⟨r, hr⟩ := State.topJava?_eq_some.mp hg0
  have hr' : (({ U with heap := s₂.heap, slotsUsed := s₂.slotsUsed } : State).setVm s₂.vm).frames = .java g₀ :: r := hr
  rcases hq' with ⟨hqc, L, hfe, hL⟩ | ⟨q, rfl, E, ce, L, hx, hce, hcv, hcl, hW₂, hsm, hL⟩
  · obtain ⟨⟨v, rfl⟩, hW₂, e2, q2, q3, q4, q5, q6⟩ := id hfe
    have e3 : s₂ = ({ (U.calling g mk a).setFrames s₂.frames with heap := s₂.heap, slotsUsed := s₂.slotsUsed } : State).setVm s₂.vm := by
      have : s₂ = ({ s₂ with vm := (U.calling g mk a).vm } : State).setVm s₂.vm := rfl
      rw [e2] at this
      exact this
    obtain ⟨c₂, i₂, len₂, hc₂, hd₂, hf₂⟩ := hend
    have hW' : U.WarmedH s₂.vm := hW₂
    have hcc : c₂ = c := by
      have h1 : s₂.code? g.method = U.code? g.method := by
        rw [State.code?_eq, State.code?_eq, hW'.alike.method?]
      exact Option.some.inj (hc₂.symm.trans (h1.trans h.code))
    subst hcc
    have hlen : len₂ = len := by rw [hdg] at hd₂; cases hd₂; rfl
    subst hlen
    have hs₂ : s₂ = (({ U with heap := s₂.heap, slotsUsed := s₂.slotsUsed } : State).setVm s₂.vm).setTop { g with pc := g.pc + len₂, stack := v.toList ++ g.stack } := by
      refine e3.trans ?_
      rw [hf₂, State.calling_eq h.top, State.setFrames_setFrames, State.setTop_of_frames _ hr', hr]
      rfl
    have hsame : U.sameButNew ({ U with heap := s₂.heap, slotsUsed := s₂.slotsUsed } : State) L mc ms := by
      refine ⟨?_, q2, q3, q4, q5, q6⟩
      obtain ⟨t, ht, -⟩ := State.frames_cons hr
      show ({ U with heap := s₂.heap, slotsUsed := s₂.slotsUsed } : State) = { U.setFrames U.frames with heap := s₂.heap, slotsUsed := s₂.slotsUsed }
      rw [State.setFrames_self ht]
    subst hg
    refine Or.inl ⟨v, ⟨(({ U with heap := s₂.heap, slotsUsed := s₂.slotsUsed } : State).setVm s₂.vm), Ls ++ L, c0 + mc, s0 + ms⟩,
      ⟨X.admits, X.cas, X.clock, X.frames, X.room, X.hears, X.method, X.code, (X.here.setHeapUsed s₂.heap s₂.slotsUsed).setVm hW'.alike, X.tail, State.WarmedH.trans X.warmed hW', X.limits, X.bytes, X.same.trans (hsame.setVm s.vm)⟩,
      ⟨g, mk, s₂, L, rfl, rfl, hqc, rfl, hL, rfl, rfl⟩, ?_⟩
    show Steps p.tables e below _ ((({ U with heap := s₂.heap, slotsUsed := s₂.slotsUsed } : State).setVm s₂.vm).setTop { g with pc := g.pc + len₂, stack := v.toList ++ g.stack })
    rw [← hs₂]
    exact hsteps
  · obtain ⟨e2, q2, q3, q4, q5, q6⟩ := id hsm
    have e3 : s₂ = ({ (U.calling g mk a).setFrames s₂.frames with heap := s₂.heap, slotsUsed := s₂.slotsUsed } : State).setVm s₂.vm := by
      have : s₂ = ({ s₂ with vm := (U.calling g mk a).vm } : State).setVm s₂.vm := rfl
      rw [e2] at this
      exact this
    have hf₂ : s₂.frames = .throwing q :: .java g :: U.frames.tail := hend
    have hW' : U.WarmedH s₂.vm := hW₂
    have hs₂ : s₂ = ((({ U with heap := s₂.heap, slotsUsed := s₂.slotsUsed } : State).setVm s₂.vm).setTop g).pushFrame (.throwing q) := by
      refine e3.trans ?_
      rw [hf₂, State.calling_eq h.top, State.setFrames_setFrames, State.pushFrame, State.frames_setTop _ hr', State.setTop_of_frames _ hr', State.setFrames_setFrames, hr]
      rfl
    have hsame : U.sameButNew ({ U with heap := s₂.heap, slotsUsed := s₂.slotsUsed } : State) L mc ms := by
      refine ⟨?_, q2, q3, q4, q5, q6⟩
      obtain ⟨t, ht, -⟩ := State.frames_cons hr
      show ({ U with heap := s₂.heap, slotsUsed := s₂.slotsUsed } : State) = { U.setFrames U.frames with heap := s₂.heap, slotsUsed := s₂.slotsUsed }
      rw [State.setFrames_self ht]
    subst hg
    refine Or.inr ⟨q, ⟨(({ U with heap := s₂.heap, slotsUsed := s₂.slotsUsed } : State).setVm s₂.vm), Ls ++ L, c0 + mc, s0 + ms⟩,
      ⟨X.admits, X.cas, X.clock, X.frames, X.room, X.hears, X.method, X.code, (X.here.setHeapUsed s₂.heap s₂.slotsUsed).setVm hW'.alike, X.tail, State.WarmedH.trans X.warmed hW', X.limits, X.bytes, X.same.trans (hsame.setVm s.vm)⟩,
      ⟨g, mk, s₂, L, E, ce, rfl, rfl, hx, hce, hcv, hcl, rfl, hL, rfl, rfl⟩, ?_⟩
    show Steps p.tables e below _ (((({ U with heap := s₂.heap, slotsUsed := s₂.slotsUsed } : State).setVm s₂.vm).setTop g).pushFrame (.throwing q))
    rw [← hs₂]
    exact hsteps
end Payer
section Calls
variable {p : Program} {l : Launch} {e : Env} {R : Room} {s : State} {m : MethodId} {args : Array Value} {below : List Frame} {meth : Method} {c : Code} {T : State} {locs : List Loc} {cells slots : Nat}
theorem vx_callV (X : Stand p l e R s m args below meth c T locs cells slots) (hexec : p.tables.exec = Jvm.exec) {own C : String} {index : Nat} {y : MethodName} {bytes : ByteArray} {maxL : Nat} {ret : Option FieldType}
    (hown : s.vm.findClass own = some m.cls) (hlink : (Cond.methodLink own index y).before args s = true) (hinst : (Cond.instanceMethod y).before args s = true) (hsel : (Cond.selects C y y).before args s = true)
    (hcode : (Cond.code y bytes maxL ret).before args s = true) (hy : y.cls ≠ "java/lang/invoke/MethodHandle" ∧ y.cls ≠ "java/lang/invoke/VarHandle")
    {W9 : Nat} {Pre : Pt → Array Value → Prop} {Post : Pt → Array Value → Option Value → Pt → Prop} {PostX : Pt → Array Value → Addr → Pt → Prop} (hK : vx_Back l R p e below s args y 3 W9 Pre Post PostX)
    {b : Addr} {cellB : Cell} (hcell : T.heap[b]? = some cellB) (hobj : cellB.vm.isStatics = false) (hcls : s.vm.findClass C = some cellB.cls)
    {g : JFrame} (hg : g.method = m) (hsize : g.locals.size = c.maxLocals) {argsL rest : List Value} (hlen : ∀ sig, parseMethodDescriptor y.desc = some sig → argsL.length = sig.parameters.length)
    (hstack : g.stack = argsL.reverse ++ .ref b :: rest) (hW : 2 * g.monitorRoom + (rest.map fun v => v.category).sum ≤ W9) (hdg : decode c.code g.pc = .ok (.invokevirtual index, 3))
    (hpre : ∀ vm₁, s.WarmedH vm₁ → Pre ⟨T.setVm vm₁, locs, cells, slots⟩ (Value.ref b :: argsL).toArray) :
    (∃ (v : Option Value) (vm₁ : Vm) (B : Pt), s.WarmedH vm₁ ∧ Stand p l e R s m args below meth c B.U B.locs B.cells B.slots ∧ Post ⟨T.setVm vm₁, locs, cells, slots⟩ (Value.ref b :: argsL).toArray v B ∧
      ∀ target, Steps p.tables e below (B.U.setTop { g with pc := g.pc + 3, stack := v.toList ++ rest }) target → Steps p.tables e below (T.setTop g) target) ∨
    (∃ (q : Addr) (vm₁ : Vm) (B : Pt), s.WarmedH vm₁ ∧ Stand p l e R s m args below meth c B.U B.locs B.cells B.slots ∧ PostX ⟨T.setVm vm₁, locs, cells, slots⟩ (Value.ref b :: argsL).toArray q B ∧
      Steps p.tables e below (T.setTop g) ((B.U.setTop { g with stack := rest }).pushFrame (.throwing q))) := by
  obtain ⟨mk, methM, hnamed, hmethM, hstM, habM⟩ := Cond.instanceMethod_spec hinst
  obtain ⟨methM', cM, hmethM', -, -, -, -, -, -, hsigM⟩ := Cond.code_spec hnamed hcode
  cases hmethM.symm.trans hmethM'
  obtain ⟨c2, r2, m2, q1, q2, q3, q4, kP, hkP, hkPi⟩ := Cond.selects_spec hsel
  cases hcls.symm.trans q1
  cases (State.methodFound?_of_named hnamed hy).symm.trans q2
  cases hnamed.symm.trans q3
  have hselP : selectMethod e.platform s.vm cellB.cls mk = .method mk := by rw [Launch.admits_selectMethod X.admits]; exact q4
  obtain ⟨vm₁, X₁, hstep₁⟩ := X.invokevirtual hexec hown hlink hnamed hmethM hstM hkP hkPi hy (a := b) (cell := cellB) hcell
    (fun z h => by rw [h] at hobj; cases hobj) hselP hmethM habM hkP hkPi (g := g) hg (argsL := argsL) (rest := rest) (hlen _ hsigM) hstack hdg
  rcases hK m meth c ⟨T.setVm vm₁, locs, cells, slots⟩ { g with stack := rest } (.invokevirtual index) mk (Value.ref b :: argsL).toArray X₁ hg hsize hdg hW (X₁.named hnamed) (hpre vm₁ X₁.warmed) with ⟨v, B, X', hpost, hsteps⟩ | ⟨q, B, X', hpost, hsteps⟩
  · exact Or.inl ⟨v, vm₁, B, X₁.warmed, X', hpost, fun target h => hstep₁ _ fun acts => by rw [doInvoke_state]; exact hsteps.trans h⟩
  · exact Or.inr ⟨q, vm₁, B, X₁.warmed, X', hpost, hstep₁ _ fun acts => by rw [doInvoke_state]; exact hsteps⟩
theorem vx_callS (X : Stand p l e R s m args below meth c T locs cells slots) (hexec : p.tables.exec = Jvm.exec) {own : String} {index : Nat} {y : MethodName} {bytes : ByteArray} {maxL : Nat} {ret : Option FieldType}
    (hown : s.vm.findClass own = some m.cls) (hlink : (Cond.methodLink own index y).before args s = true) (hstat : (Cond.static y).before args s = true) (hinit : (Cond.initialized y.cls).before args s = true)
    (hcode : (Cond.code y bytes maxL ret).before args s = true) (hy : y.cls ≠ "java/lang/invoke/MethodHandle" ∧ y.cls ≠ "java/lang/invoke/VarHandle")
    {W9 : Nat} {Pre : Pt → Array Value → Prop} {Post : Pt → Array Value → Option Value → Pt → Prop} {PostX : Pt → Array Value → Addr → Pt → Prop} (hK : vx_Back l R p e below s args y 3 W9 Pre Post PostX)
    {g : JFrame} (hg : g.method = m) (hsize : g.locals.size = c.maxLocals) {argsL rest : List Value} (hlen : ∀ sig, parseMethodDescriptor y.desc = some sig → argsL.length = sig.parameters.length)
    (hstack : g.stack = argsL.reverse ++ rest) (hW : 2 * g.monitorRoom + (rest.map fun v => v.category).sum ≤ W9) (hdg : decode c.code g.pc = .ok (.invokestatic index, 3))
    (hpre : ∀ vm₁, s.WarmedH vm₁ → Pre ⟨T.setVm vm₁, locs, cells, slots⟩ argsL.toArray) :
    (∃ (v : Option Value) (vm₁ : Vm) (B : Pt), s.WarmedH vm₁ ∧ Stand p l e R s m args below meth c B.U B.locs B.cells B.slots ∧ Post ⟨T.setVm vm₁, locs, cells, slots⟩ argsL.toArray v B ∧
      ∀ target, Steps p.tables e below (B.U.setTop { g with pc := g.pc + 3, stack := v.toList ++ rest }) target → Steps p.tables e below (T.setTop g) target) ∨
    (∃ (q : Addr) (vm₁ : Vm) (B : Pt), s.WarmedH vm₁ ∧ Stand p l e R s m args below meth c B.U B.locs B.cells B.slots ∧ PostX ⟨T.setVm vm₁, locs, cells, slots⟩ argsL.toArray q B ∧
      Steps p.tables e below (T.setTop g) ((B.U.setTop { g with stack := rest }).pushFrame (.throwing q))) := by
  obtain ⟨mk, hnamed⟩ := Cond.code_named hcode
  obtain ⟨methM, cM, hmethM, -, -, -, -, -, -, hsigM⟩ := Cond.code_spec hnamed hcode
  have hstatic : methM.isStatic = true := Cond.static_spec hnamed hmethM hstat
  obtain ⟨kP, hkP, -⟩ := className_of_methodNamed hnamed
  have hinitP : kP.init = .initialized := Cond.initialized_spec (findClass_of_methodNamed hnamed) hkP hinit
  obtain ⟨vm₁, X₁, hstep₁⟩ := X.invokestatic hexec hown hlink hnamed hmethM hstatic hkP hinitP hy (g := g) hg (argsL := argsL) (rest := rest) (hlen _ hsigM) hstack hdg
  rcases hK m meth c ⟨T.setVm vm₁, locs, cells, slots⟩ { g with stack := rest } (.invokestatic index) mk argsL.toArray X₁ hg hsize hdg hW (X₁.named hnamed) (hpre vm₁ X₁.warmed) with ⟨v, B, X', hpost, hsteps⟩ | ⟨q, B, X', hpost, hsteps⟩
  · exact Or.inl ⟨v, vm₁, B, X₁.warmed, X', hpost, fun target h => hstep₁ _ fun acts => by rw [doInvoke_state]; exact hsteps.trans h⟩
  · exact Or.inr ⟨q, vm₁, B, X₁.warmed, X', hpost, hstep₁ _ fun acts => by rw [doInvoke_state]; exact hsteps⟩
end Calls
theorem vx_cls {s : State} {T : State} {vm₁ : Vm} {E : String} {k : ClassId} (hW : s.WarmedH vm₁) (h : (T.setVm vm₁).vm.findClass E = some k) : s.vm.findClass E = some k := by
  have h1 : vm₁.findClass E = some k := h
  rw [hW.alike.findClass] at h1
  exact h1
/-- the method's frame g, with q thrown over it -/
def vx_W (p : Program) (l : Launch) (e : Env) (R : Room) (s : State) (m : MethodId) (args : Array Value) (below : List Frame) (meth : Method) (c : Code) (H : Heap) (locs : List Loc) (cells slots : Nat) (Q : State → Prop) (g : JFrame) (q : Addr) : Prop :=
  ∀ T : State, T.heap = H → Stand p l e R s m args below meth c T locs cells slots → ∃ t, Steps p.tables e below ((T.setTop g).pushFrame (.throwing q)) t ∧ Q t
def vx_Run (p : Program) (l : Launch) (e : Env) (R : Room) (s : State) (m : MethodId) (args : Array Value) (below : List Frame) (meth : Method) (c : Code) (H : Heap) (locs : List Loc) (cells slots mc ms : Nat) (g : JFrame) (rest : List Value) (Qa : State → Outcome → State → Prop) (XC : String → State → State → Prop) (free : Addr → Prop) : Prop :=
  ∀ T : State, T.heap = H → Stand p l e R s m args below meth c T locs cells slots →
    (∃ (v : Option Value) (st₀ t T' : State) (L : List Loc), st₀.heap = H ∧ Stand p l e R s m args below meth c T' (locs ++ L) (cells + mc) (slots + ms) ∧ (∀ q ∈ L, free q.base) ∧ T'.heap = t.heap ∧ T'.vm = t.vm ∧ Qa st₀ (.returned v) t ∧
      Goes p e below T g T' { g with pc := g.pc + 3, stack := v.toList ++ rest }) ∨
    (∃ (q : Addr) (st₀ t T' : State) (L : List Loc) (E : String) (ce : Cell), st₀.heap = H ∧ Stand p l e R s m args below meth c T' (locs ++ L) (cells + mc) (slots + ms) ∧ (∀ z ∈ L, free z.base) ∧ T'.heap = t.heap ∧ T'.vm = t.vm ∧ XC E st₀ t ∧ t.heap[q]? = some ce ∧ ce.vm = .none ∧ s.vm.findClass E = some ce.cls ∧
      Steps p.tables e below (T.setTop g) ((T'.setTop { g with stack := rest }).pushFrame (.throwing q)))
def vx_X {S : Type} (px : S → Prop) (B : String → S → State → Prop) (A : Nat → Prop) : String → State → State → Prop := fun E st t => ∃ u : S, px u ∧ B E u t ∧ va_F A st t
section Runs
variable {p : Program} {l : Launch} {e : Env} {R : Room} {s : State} {m : MethodId} {args : Array Value} {below : List Frame} {meth : Method} {c : Code} {H : Heap} {locs : List Loc} {cells slots : Nat}
variable {y : MethodName} {bytes cc : ByteArray} {maxL nL mc ms n index : Nat} {ret : Option FieldType} {ws : List Cond} {rm : Room} {Pc : Array Value → State → Prop} {Qc : Array Value → State → Outcome → State → Prop} {XC : String → State → State → Prop} {free : Addr → Prop} {Ts : List Cond} {own C : String} {b : Addr} {As rest : List Value} {g : JFrame}
theorem vx_callBack (cb : CallB R s args own index y bytes maxL ret ws rm mc ms n) (hM : vx_Met l y ws rm Pc Qc XC mc ms free) (hbl : FrameBlind Pc) : vx_Back l R p e below s args y 3 8 (PreOf R mc ms Pc) (PostOf Qc mc ms free) (vx_Post XC mc ms free) := by
  obtain ⟨hrc, hrs, hfr, hlo, hws, hcw, -, hini, -⟩ := cb
  exact vx_back (bytes := bytes) (maxL := maxL) (ret := ret) hM hbl hrc hrs hfr hlo hws hcw (fun a' U hW => word_at hW (Or.inl (by first | rfl | simp [Cond.onTables, Cond.keeps, Cond.steady])) hini)
theorem vx_runV (S : CallFix p m c cc nL s args Ts own) (hM : vx_Met l y ws rm Pc Qc XC mc ms free) (cw : CallW R s args own C index y bytes maxL ret ws rm mc ms n) (hp : PreV s H C b Pc As)
    (hg : g.method = m) (hn : As.length = n) (hsize : g.locals.size = nL) (hstack : g.stack = As.reverse ++ .ref b :: rest) (hW : 2 * g.monitorRoom + (rest.map fun v => v.category).sum ≤ 8) (hdg : decode cc g.pc = .ok (.invokevirtual index, 3)) (hf : cells + mc ≤ R.cells ∧ slots + ms ≤ R.slots) :
    vx_Run p l e R s m args below meth c H locs cells slots mc ms g rest (Qc (Value.ref b :: As).toArray) XC free := by
  have hK : vx_Back l R p e below s args y 3 8 (PreOf R mc ms Pc) (PostOf Qc mc ms free) (vx_Post XC mc ms free) := vx_callBack cw.1 hM hp.1
  obtain ⟨⟨-, -, -, -, -, -, hcode, -, hy, hlen, hl⟩, hin, hse⟩ := cw
  obtain ⟨hx, hb, hml, ho, -⟩ := S
  obtain ⟨-, ⟨cellB, hcB, hoB, hclB⟩, hPc⟩ := hp
  intro T hT X
  rcases vx_callV X hx (C := C) (bytes := bytes) (maxL := maxL) (ret := ret) ho hl hin hse hcode hy hK (by rw [hT]; exact hcB) hoB hclB hg (hsize.trans hml.symm) (argsL := As) (rest := rest) (fun sig h => hn.trans (hlen sig h)) hstack hW (by rw [hb]; exact hdg)
    (fun vm₁ hW₁ => ⟨hf.1, hf.2, hPc (T.setVm vm₁) hT hW₁⟩) with ⟨v, vm₁, ⟨U', l2, c2, s2⟩, hW₁, X', ⟨g', mk, t, L, e1, e2, hq, h1, hL, h2, h3⟩, st⟩ | ⟨q, vm₁, ⟨U', l2, c2, s2⟩, hW₁, X', ⟨g', mk, t, L, E, ce, e1, e2, hq, hce, hcv, hcl, h1, hL, h2, h3⟩, st⟩
  · dsimp only [Pt.U, Pt.locs, Pt.cells, Pt.slots] at X' e1 e2 h1 h2 h3 st
    subst h1; subst h2; subst h3
    exact Or.inl ⟨v, (T.setVm vm₁).calling g' mk (Value.ref b :: As).toArray, t, U', L, hT, X', hL, e1, e2, hq, st⟩
  · dsimp only [Pt.U, Pt.locs, Pt.cells, Pt.slots] at X' e1 e2 h1 h2 h3 st hcl
    subst h1; subst h2; subst h3
    exact Or.inr ⟨q, (T.setVm vm₁).calling g' mk (Value.ref b :: As).toArray, t, U', L, E, ce, hT, X', hL, e1, e2, hq, hce, hcv, vx_cls hW₁ hcl, st⟩
theorem vx_runS (S : CallFix p m c cc nL s args Ts own) (hM : vx_Met l y ws rm Pc Qc XC mc ms free) (cw : CallB R s args own index y bytes maxL ret ws rm mc ms n ∧ (Cond.static y).before args s = true) (hp : PreS s H Pc As)
    (hg : g.method = m) (hn : As.length = n) (hsize : g.locals.size = nL) (hstack : g.stack = As.reverse ++ rest) (hW : 2 * g.monitorRoom + (rest.map fun v => v.category).sum ≤ 8) (hdg : decode cc g.pc = .ok (.invokestatic index, 3)) (hf : cells + mc ≤ R.cells ∧ slots + ms ≤ R.slots) :
    vx_Run p l e R s m args below meth c H locs cells slots mc ms g rest (Qc As.toArray) XC free := by
  have hK : vx_Back l R p e below s args y 3 8 (PreOf R mc ms Pc) (PostOf Qc mc ms free) (vx_Post XC mc ms free) := vx_callBack cw.1 hM hp.1
  obtain ⟨⟨-, -, -, -, -, -, hcode, hini, hy, hlen, hl⟩, hstt⟩ := cw
  obtain ⟨hx, hb, hml, ho, -⟩ := S
  intro T hT X
  rcases vx_callS X hx (bytes := bytes) (maxL := maxL) (ret := ret) ho hl hstt hini hcode hy hK hg (hsize.trans hml.symm) (argsL := As) (rest := rest) (fun sig h => hn.trans (hlen sig h)) hstack hW (by rw [hb]; exact hdg)
    (fun vm₁ hW₁ => ⟨hf.1, hf.2, hp.2 (T.setVm vm₁) hT hW₁⟩) with ⟨v, vm₁, ⟨U', l2, c2, s2⟩, hW₁, X', ⟨g', mk, t, L, e1, e2, hq, h1, hL, h2, h3⟩, st⟩ | ⟨q, vm₁, ⟨U', l2, c2, s2⟩, hW₁, X', ⟨g', mk, t, L, E, ce, e1, e2, hq, hce, hcv, hcl, h1, hL, h2, h3⟩, st⟩
  · dsimp only [Pt.U, Pt.locs, Pt.cells, Pt.slots] at X' e1 e2 h1 h2 h3 st
    subst h1; subst h2; subst h3
    exact Or.inl ⟨v, (T.setVm vm₁).calling g' mk As.toArray, t, U', L, hT, X', hL, e1, e2, hq, st⟩
  · dsimp only [Pt.U, Pt.locs, Pt.cells, Pt.slots] at X' e1 e2 h1 h2 h3 st hcl
    subst h1; subst h2; subst h3
    exact Or.inr ⟨q, (T.setVm vm₁).calling g' mk As.toArray, t, U', L, E, ce, hT, X', hL, e1, e2, hq, hce, hcv, vx_cls hW₁ hcl, st⟩
end Runs
section Rows
variable {p : Program} {l : Launch} {e : Env} {R : Room} {s : State} {m : MethodId} {args : Array Value} {below : List Frame} {meth : Method} {c : Code} {H : Heap} {locs : List Loc} {cells slots : Nat} {Q : State → Prop}
variable {mc ms : Nat} {free : Addr → Prop} {A0 A1 : Nat → Prop} {H0 : Heap} {a : Array Value} {pc : Nat} {ls : Array Slot} {st0 rest : List Value}
theorem vx_keep {st₀ t T' : State} {L : List Loc} (h0 : st₀.heap = H) (e1 : T'.heap = t.heap) (hS : va_S A0 H0 H locs) (hA : ∀ q, q < H.size → A1 q → A0 q) (hf : ∀ q, free q → A0 q) (hL : ∀ q ∈ L, free q.base) (hF : va_F A1 st₀ t) :
    H.size ≤ T'.heap.size ∧ (∀ q : Nat, q < H.size → ¬ A1 q → T'.heap[q]? = H[q]?) ∧ va_S A0 H0 T'.heap (locs ++ L) := by
  obtain ⟨hz, hk⟩ := hF
  rw [h0] at hz hk
  exact ⟨by rw [e1]; exact hz, fun q h1 h2 => by rw [e1]; exact hk q h1 h2,
    ⟨Nat.le_trans hS.1 (by rw [e1]; exact hz), fun q h1 h2 => by rw [e1, hk q (Nat.lt_of_lt_of_le h1 hS.1) (fun z => h2 (hA q (Nat.lt_of_lt_of_le h1 hS.1) z))]; exact hS.2.1 q h1 h2, fun q hq => by
      rcases List.mem_append.mp hq with h | h
      · exact hS.2.2 q h
      · exact hf _ (hL q h)⟩⟩
theorem vx_calli {S SX : Type} {post : Int32 → S → Prop} {px : SX → Prop} {B : S → State → Prop} {BX : String → SX → State → Prop} {AX : Nat → Prop} (hr : vx_Run p l e R s m args below meth c H locs cells slots mc ms (F0 m pc ls st0) rest (va_Qi post B A1 a) (vx_X px BX AX) free) (hS : va_S A0 H0 H locs) (hA : ∀ q, q < H.size → A1 q → A0 q) (hf : ∀ q, free q → A0 q) (hAX : ∀ q, q < H.size → AX q → A0 q)
    (kx : ∀ (E : String) (ce : Cell) (q9 : Addr) (u : SX) (t : State) (H1 : Heap) (locs1 : List Loc), t.heap = H1 → s.vm.Alike t.vm → px u → BX E u t → H.size ≤ H1.size → (∀ q : Nat, q < H.size → ¬ AX q → H1[q]? = H[q]?) → va_S A0 H0 H1 locs1 → H1[q9]? = some ce → ce.vm = .none → s.vm.findClass E = some ce.cls → vx_W p l e R s m args below meth c H1 locs1 (cells + mc) (slots + ms) Q (F0 m pc ls rest) q9)
    (kk : ∀ (r : Int32) (u : S) (t : State) (H1 : Heap) (locs1 : List Loc), t.heap = H1 → s.vm.Alike t.vm → post r u → B u t → H.size ≤ H1.size → (∀ q : Nat, q < H.size → ¬ A1 q → H1[q]? = H[q]?) → va_S A0 H0 H1 locs1 → W p l e R s m args below meth c H1 locs1 (cells + mc) (slots + ms) Q (F0 m (pc + 3) ls (.int r :: rest))) : W p l e R s m args below meth c H locs cells slots Q (F0 m pc ls st0) := by
  intro T hT X
  rcases hr T hT X with ⟨v, st₀, t, T', L, h0, X', hL, e1, e2, ⟨⟨r, u, hv, hp, hb⟩, hF⟩, st⟩ | ⟨q, st₀, t, T', L, E, ce, h0, X', hL, e1, e2, ⟨u, hp, hb, hF⟩, hce, hcv, hcl, st⟩
  · cases hv
    obtain ⟨k1, k2, k3⟩ := vx_keep h0 e1 hS hA hf hL hF
    obtain ⟨t2, a1, b1⟩ := kk r u t T'.heap (locs ++ L) e1.symm (by rw [← e2]; exact X'.warmed.alike) hp hb k1 k2 k3 T' rfl X'
    exact ⟨t2, st t2 a1, b1⟩
  · obtain ⟨k1, k2, k3⟩ := vx_keep h0 e1 hS hAX hf hL hF
    obtain ⟨t2, a1, b1⟩ := kx E ce q u t T'.heap (locs ++ L) e1.symm (by rw [← e2]; exact X'.warmed.alike) hp hb k1 k2 k3 (by rw [e1]; exact hce) hcv hcl T' rfl X'
    exact ⟨t2, st.trans a1, b1⟩
theorem vx_calll {S SX : Type} {post : Int64 → S → Prop} {px : SX → Prop} {B : S → State → Prop} {BX : String → SX → State → Prop} {AX : Nat → Prop} (hr : vx_Run p l e R s m args below meth c H locs cells slots mc ms (F0 m pc ls st0) rest (va_Ql post B A1 a) (vx_X px BX AX) free) (hS : va_S A0 H0 H locs) (hA : ∀ q, q < H.size → A1 q → A0 q) (hf : ∀ q, free q → A0 q) (hAX : ∀ q, q < H.size → AX q → A0 q)
    (kx : ∀ (E : String) (ce : Cell) (q9 : Addr) (u : SX) (t : State) (H1 : Heap) (locs1 : List Loc), t.heap = H1 → s.vm.Alike t.vm → px u → BX E u t → H.size ≤ H1.size → (∀ q : Nat, q < H.size → ¬ AX q → H1[q]? = H[q]?) → va_S A0 H0 H1 locs1 → H1[q9]? = some ce → ce.vm = .none → s.vm.findClass E = some ce.cls → vx_W p l e R s m args below meth c H1 locs1 (cells + mc) (slots + ms) Q (F0 m pc ls rest) q9)
    (kk : ∀ (r : Int64) (u : S) (t : State) (H1 : Heap) (locs1 : List Loc), t.heap = H1 → s.vm.Alike t.vm → post r u → B u t → H.size ≤ H1.size → (∀ q : Nat, q < H.size → ¬ A1 q → H1[q]? = H[q]?) → va_S A0 H0 H1 locs1 → W p l e R s m args below meth c H1 locs1 (cells + mc) (slots + ms) Q (F0 m (pc + 3) ls (.long r :: rest))) : W p l e R s m args below meth c H locs cells slots Q (F0 m pc ls st0) := by
  intro T hT X
  rcases hr T hT X with ⟨v, st₀, t, T', L, h0, X', hL, e1, e2, ⟨⟨r, u, hv, hp, hb⟩, hF⟩, st⟩ | ⟨q, st₀, t, T', L, E, ce, h0, X', hL, e1, e2, ⟨u, hp, hb, hF⟩, hce, hcv, hcl, st⟩
  · cases hv
    obtain ⟨k1, k2, k3⟩ := vx_keep h0 e1 hS hA hf hL hF
    obtain ⟨t2, a1, b1⟩ := kk r u t T'.heap (locs ++ L) e1.symm (by rw [← e2]; exact X'.warmed.alike) hp hb k1 k2 k3 T' rfl X'
    exact ⟨t2, st t2 a1, b1⟩
  · obtain ⟨k1, k2, k3⟩ := vx_keep h0 e1 hS hAX hf hL hF
    obtain ⟨t2, a1, b1⟩ := kx E ce q u t T'.heap (locs ++ L) e1.symm (by rw [← e2]; exact X'.warmed.alike) hp hb k1 k2 k3 (by rw [e1]; exact hce) hcv hcl T' rfl X'
    exact ⟨t2, st.trans a1, b1⟩
theorem vx_callf {S SX : Type} {post : UInt32 → S → Prop} {px : SX → Prop} {B : S → State → Prop} {BX : String → SX → State → Prop} {AX : Nat → Prop} (hr : vx_Run p l e R s m args below meth c H locs cells slots mc ms (F0 m pc ls st0) rest (va_Qf post B A1 a) (vx_X px BX AX) free) (hS : va_S A0 H0 H locs) (hA : ∀ q, q < H.size → A1 q → A0 q) (hf : ∀ q, free q → A0 q) (hAX : ∀ q, q < H.size → AX q → A0 q)
    (kx : ∀ (E : String) (ce : Cell) (q9 : Addr) (u : SX) (t : State) (H1 : Heap) (locs1 : List Loc), t.heap = H1 → s.vm.Alike t.vm → px u → BX E u t → H.size ≤ H1.size → (∀ q : Nat, q < H.size → ¬ AX q → H1[q]? = H[q]?) → va_S A0 H0 H1 locs1 → H1[q9]? = some ce → ce.vm = .none → s.vm.findClass E = some ce.cls → vx_W p l e R s m args below meth c H1 locs1 (cells + mc) (slots + ms) Q (F0 m pc ls rest) q9)
    (kk : ∀ (r : UInt32) (u : S) (t : State) (H1 : Heap) (locs1 : List Loc), t.heap = H1 → s.vm.Alike t.vm → post r u → B u t → H.size ≤ H1.size → (∀ q : Nat, q < H.size → ¬ A1 q → H1[q]? = H[q]?) → va_S A0 H0 H1 locs1 → W p l e R s m args below meth c H1 locs1 (cells + mc) (slots + ms) Q (F0 m (pc + 3) ls (.float r :: rest))) : W p l e R s m args below meth c H locs cells slots Q (F0 m pc ls st0) := by
  intro T hT X
  rcases hr T hT X with ⟨v, st₀, t, T', L, h0, X', hL, e1, e2, ⟨⟨r, u, hv, hp, hb⟩, hF⟩, st⟩ | ⟨q, st₀, t, T', L, E, ce, h0, X', hL, e1, e2, ⟨u, hp, hb, hF⟩, hce, hcv, hcl, st⟩
  · cases hv
    obtain ⟨k1, k2, k3⟩ := vx_keep h0 e1 hS hA hf hL hF
    obtain ⟨t2, a1, b1⟩ := kk r u t T'.heap (locs ++ L) e1.symm (by rw [← e2]; exact X'.warmed.alike) hp hb k1 k2 k3 T' rfl X'
    exact ⟨t2, st t2 a1, b1⟩
  · obtain ⟨k1, k2, k3⟩ := vx_keep h0 e1 hS hAX hf hL hF
    obtain ⟨t2, a1, b1⟩ := kx E ce q u t T'.heap (locs ++ L) e1.symm (by rw [← e2]; exact X'.warmed.alike) hp hb k1 k2 k3 (by rw [e1]; exact hce) hcv hcl T' rfl X'
    exact ⟨t2, st.trans a1, b1⟩
theorem vx_calld {S SX : Type} {post : UInt64 → S → Prop} {px : SX → Prop} {B : S → State → Prop} {BX : String → SX → State → Prop} {AX : Nat → Prop} (hr : vx_Run p l e R s m args below meth c H locs cells slots mc ms (F0 m pc ls st0) rest (va_Qd post B A1 a) (vx_X px BX AX) free) (hS : va_S A0 H0 H locs) (hA : ∀ q, q < H.size → A1 q → A0 q) (hf : ∀ q, free q → A0 q) (hAX : ∀ q, q < H.size → AX q → A0 q)
    (kx : ∀ (E : String) (ce : Cell) (q9 : Addr) (u : SX) (t : State) (H1 : Heap) (locs1 : List Loc), t.heap = H1 → s.vm.Alike t.vm → px u → BX E u t → H.size ≤ H1.size → (∀ q : Nat, q < H.size → ¬ AX q → H1[q]? = H[q]?) → va_S A0 H0 H1 locs1 → H1[q9]? = some ce → ce.vm = .none → s.vm.findClass E = some ce.cls → vx_W p l e R s m args below meth c H1 locs1 (cells + mc) (slots + ms) Q (F0 m pc ls rest) q9)
    (kk : ∀ (r : UInt64) (u : S) (t : State) (H1 : Heap) (locs1 : List Loc), t.heap = H1 → s.vm.Alike t.vm → post r u → B u t → H.size ≤ H1.size → (∀ q : Nat, q < H.size → ¬ A1 q → H1[q]? = H[q]?) → va_S A0 H0 H1 locs1 → W p l e R s m args below meth c H1 locs1 (cells + mc) (slots + ms) Q (F0 m (pc + 3) ls (.double r :: rest))) : W p l e R s m args below meth c H locs cells slots Q (F0 m pc ls st0) := by
  intro T hT X
  rcases hr T hT X with ⟨v, st₀, t, T', L, h0, X', hL, e1, e2, ⟨⟨r, u, hv, hp, hb⟩, hF⟩, st⟩ | ⟨q, st₀, t, T', L, E, ce, h0, X', hL, e1, e2, ⟨u, hp, hb, hF⟩, hce, hcv, hcl, st⟩
  · cases hv
    obtain ⟨k1, k2, k3⟩ := vx_keep h0 e1 hS hA hf hL hF
    obtain ⟨t2, a1, b1⟩ := kk r u t T'.heap (locs ++ L) e1.symm (by rw [← e2]; exact X'.warmed.alike) hp hb k1 k2 k3 T' rfl X'
    exact ⟨t2, st t2 a1, b1⟩
  · obtain ⟨k1, k2, k3⟩ := vx_keep h0 e1 hS hAX hf hL hF
    obtain ⟨t2, a1, b1⟩ := kx E ce q u t T'.heap (locs ++ L) e1.symm (by rw [← e2]; exact X'.warmed.alike) hp hb k1 k2 k3 (by rw [e1]; exact hce) hcv hcl T' rfl X'
    exact ⟨t2, st.trans a1, b1⟩
theorem vx_callv {S SX : Type} {post : S → Prop} {px : SX → Prop} {B : S → State → Prop} {BX : String → SX → State → Prop} {AX : Nat → Prop} (hr : vx_Run p l e R s m args below meth c H locs cells slots mc ms (F0 m pc ls st0) rest (va_Qv post B A1 a) (vx_X px BX AX) free) (hS : va_S A0 H0 H locs) (hA : ∀ q, q < H.size → A1 q → A0 q) (hf : ∀ q, free q → A0 q) (hAX : ∀ q, q < H.size → AX q → A0 q)
    (kx : ∀ (E : String) (ce : Cell) (q9 : Addr) (u : SX) (t : State) (H1 : Heap) (locs1 : List Loc), t.heap = H1 → s.vm.Alike t.vm → px u → BX E u t → H.size ≤ H1.size → (∀ q : Nat, q < H.size → ¬ AX q → H1[q]? = H[q]?) → va_S A0 H0 H1 locs1 → H1[q9]? = some ce → ce.vm = .none → s.vm.findClass E = some ce.cls → vx_W p l e R s m args below meth c H1 locs1 (cells + mc) (slots + ms) Q (F0 m pc ls rest) q9)
    (kk : ∀ (u : S) (t : State) (H1 : Heap) (locs1 : List Loc), t.heap = H1 → s.vm.Alike t.vm → post u → B u t → H.size ≤ H1.size → (∀ q : Nat, q < H.size → ¬ A1 q → H1[q]? = H[q]?) → va_S A0 H0 H1 locs1 → W p l e R s m args below meth c H1 locs1 (cells + mc) (slots + ms) Q (F0 m (pc + 3) ls (rest))) : W p l e R s m args below meth c H locs cells slots Q (F0 m pc ls st0) := by
  intro T hT X
  rcases hr T hT X with ⟨v, st₀, t, T', L, h0, X', hL, e1, e2, ⟨⟨u, hv, hp, hb⟩, hF⟩, st⟩ | ⟨q, st₀, t, T', L, E, ce, h0, X', hL, e1, e2, ⟨u, hp, hb, hF⟩, hce, hcv, hcl, st⟩
  · cases hv
    obtain ⟨k1, k2, k3⟩ := vx_keep h0 e1 hS hA hf hL hF
    obtain ⟨t2, a1, b1⟩ := kk u t T'.heap (locs ++ L) e1.symm (by rw [← e2]; exact X'.warmed.alike) hp hb k1 k2 k3 T' rfl X'
    exact ⟨t2, st t2 a1, b1⟩
  · obtain ⟨k1, k2, k3⟩ := vx_keep h0 e1 hS hAX hf hL hF
    obtain ⟨t2, a1, b1⟩ := kx E ce q u t T'.heap (locs ++ L) e1.symm (by rw [← e2]; exact X'.warmed.alike) hp hb k1 k2 k3 (by rw [e1]; exact hce) hcv hcl T' rfl X'
    exact ⟨t2, st.trans a1, b1⟩
/-- caught by the row x of this method's table; the rows ahead don't take it -/
theorem vx_catch {own name : String} {E : String} {ce : Cell} {q : Addr} (hown : s.vm.findClass own = some m.cls) (pre : List ExceptionTableEntry) (x : ExceptionTableEntry) (suf : List ExceptionTableEntry) (hsplit : c.exceptionTable.toList = pre ++ x :: suf)
    (hpass : ∀ z ∈ pre, covers z pc = false ∨ (z.catchType ≠ 0 ∧ ∃ nm : String, (Cond.classLink own z.catchType nm).before args s = true ∧ va_Nc E nm s)) (hx : covers x pc = true) (h0 : x.catchType ≠ 0)
    (hlink : (Cond.classLink own x.catchType name).before args s = true) (hcast : (Cond.castable E name).before args s = true) (hcell : H[q]? = some ce) (hv : ce.vm = .none) (hcl : s.vm.findClass E = some ce.cls)
    (kk : W p l e R s m args below meth c H locs cells slots Q (F0 m x.handlerPc ls [.ref q])) : vx_W p l e R s m args below meth c H locs cells slots Q (F0 m pc ls rest) q := by
  intro T hT X
  have hpl : e.platform.magicAccessors = ({} : Platform).magicAccessors := by rw [X.admits.platform]
  obtain ⟨c3, c4, hc3, hc4, hasg⟩ := Cond.castable_spec hcast
  cases Option.some.inj (hc3.symm.trans hcl)
  obtain ⟨c5, hc5, hcl5⟩ := Cond.classLink_spec hown hlink e.platform hpl
  cases Option.some.inj (hc4.symm.trans hc5)
  obtain ⟨vm', X', st⟩ := X.thenCaughtThrough q (g := F0 m pc ls rest) rfl (Steps.refl _) (by rw [hT]; exact hcell) (by rw [hv]; rfl) (by obtain ⟨k9, h9, -⟩ := Vm.findClass_spec hcl; exact ⟨k9, h9⟩) pre x suf hsplit
    (fun z hz => by
      rcases hpass z hz with h | ⟨hz0, nm, hl1, hn1⟩
      · exact Or.inl h
      · obtain ⟨c6, hc6, hcl6⟩ := Cond.classLink_spec hown hl1 e.platform hpl
        obtain ⟨a8, b8, h1, h2, h3⟩ := hn1
        cases Option.some.inj (h1.symm.trans hcl)
        cases Option.some.inj (h2.symm.trans hc6)
        exact Or.inr ⟨hz0, _, hcl6, h3⟩) hx (Or.inr ⟨h0, c4, hcl5, hasg⟩)
  obtain ⟨t, a1, b1⟩ := kk (T.setVm vm') hT X'
  exact ⟨t, st.trans a1, b1⟩
end Rows
section Ends
variable {p : Program} {l : Launch} {e : Env} {R : Room} {s : State} {m : MethodId} {args : Array Value} {below : List Frame} {meth : Method} {c : Code} {H : Heap} {locs : List Loc} {cells slots : Nat} {Q : State → Prop}
variable {mc ms : Nat} {free : Addr → Prop} {A0 A1 : Nat → Prop} {H0 : Heap} {a : Array Value} {ls : Array Slot} {st0 rest : List Value}
variable {Qc : Array Value → State → Outcome → State → Prop} {XC : String → State → State → Prop}
/-- what a body that may throw owes at its end -/
def vx_MQ (below : List Frame) (Qc : Array Value → State → Outcome → State → Prop) (XC : String → State → State → Prop) (a : Array Value) (s : State) (mc ms : Nat) (free : Addr → Prop) : State → Prop := fun t =>
  ∃ o, t.status = .running ∧ Ended t below o ∧ vx_Q Qc XC mc ms free a s o t
theorem vx_ret {g : JFrame} {mc ms : Nat} (k : W p l e R s m args below meth c H locs cells slots (MQ below Qc args s mc ms free) g) : W p l e R s m args below meth c H locs cells slots (vx_MQ below Qc XC args s mc ms free) g := by
  intro T hT X
  obtain ⟨t, a1, o, b1, b2, b3, b4⟩ := k T hT X
  exact ⟨t, a1, o, b1, b2, Or.inl ⟨b3, b4⟩⟩
/-- not caught here: it goes on to the caller -/
theorem vx_widen {g : JFrame} {q : Addr} {k n : Nat} (h1 : cells ≤ k) (h2 : slots ≤ n) (kk : vx_W p l e R s m args below meth c H locs k n Q g q) : vx_W p l e R s m args below meth c H locs cells slots Q g q := fun T hT X => kk T hT (stand_widen X h1 h2)
theorem vx_out {pc : Nat} {E : String} {ce : Cell} {q : Addr} {mc ms : Nat} (hout : ∀ x ∈ c.exceptionTable.toList, covers x pc = false) (hlocks : meth.locks = false) (hcell : H[q]? = some ce) (hv : ce.vm = .none) (hcl : s.vm.findClass E = some ce.cls)
    (hx : ∀ t : State, t.heap = H → s.vm.Alike t.vm → XC E s t) (hf : ∀ z ∈ locs, free z.base) (hc : cells ≤ mc) (hs : slots ≤ ms) :
    vx_W p l e R s m args below meth c H locs cells slots (vx_MQ below Qc XC args s mc ms free) (F0 m pc ls rest) q := by
  intro T hT X
  obtain ⟨st1, hrun, hend, hW, hsm⟩ := X.leaveThrown q (g := F0 m pc ls rest) rfl rfl rfl hout hlocks
  have hcell9 : (T.setFrames (.throwing q :: below)).heap[q]? = some ce := by
    show T.heap[q]? = some ce
    rw [hT]; exact hcell
  exact ⟨_, st1, .threw q, hrun, hend, Or.inr ⟨q, rfl, E, ce, locs, hx _ hT hW.alike, hcell9, hv, hcl, hW, hsm.mono hc hs, hf⟩⟩
theorem vx_frame {U : State} {k n : Nat} (h : s.sameButNew ({ U with vm := s.vm } : State) locs k n) : s.heap.size ≤ U.heap.size ∧ ∀ q : Nat, q < s.heap.size → (∀ z ∈ locs, z.base ≠ q) → U.heap[q]? = s.heap[q]? := by
  obtain ⟨-, h2, -, -, -, h6⟩ := h
  refine ⟨h2, fun q hq hz => ?_⟩
  obtain ⟨c9, e1, e2, e3, e4⟩ := h6 q _ (Array.getElem?_eq_getElem hq)
  have hs : c9.slots = (s.heap[q]).slots := Array.ext_getElem? fun i => e4 i fun hm => hz _ hm rfl
  have h9 : c9 = s.heap[q] := by
    rw [hs] at e2
    exact e2
  have e5 : U.heap[q]? = some c9 := e1
  rw [e5, h9, Array.getElem?_eq_getElem hq]
/-- the words of a throw but the four that speak of the heap -/
def vx_no (w : Cond) : Bool := decide (w ≠ .isRef (.static Bundle.tN "UNASSIGNED_STACK" Bundle.steD)) && decide (w ≠ .isRef (.static Bundle.tN "SUPPRESSED_SENTINEL" Bundle.listD)) && decide (w ≠ .laysStatic Bundle.tN "UNASSIGNED_STACK" Bundle.steD) && decide (w ≠ .laysStatic Bundle.tN "SUPPRESSED_SENTINEL" Bundle.listD)
def vx_at0 (own : String) (ic : Nat) (X : String) (names : List String) : List Cond := (Bundle.ownAtoms0 own ic X names).filter vx_no
def vx_atS (own : String) (ic : Nat) (X : String) (names : List String) : List Cond := (Bundle.ownAtoms own ic X names).filter vx_no
/-- a word that the tables alone decide, or a good one -/
def vx_ot (w : Cond) : Bool := w.onTables || goodWord w
theorem vx_ot_at {args a' : Array Value} {s U : State} {w : Cond} (hW : s.WarmedH U.vm) (hvm : s.vm = U.vm) (hg : vx_ot w = true) (h : w.before args s = true) : w.before a' U = true := by
  simp only [vx_ot, Bool.or_eq_true] at hg
  rcases hg with hg | hg
  · exact va_tabs hg hvm h
  · exact word_at hW (good_of_word hg) h
/-- a list's words: the good ones out of the method's own list, the others by premises of their own -/
theorem vx_hat {args : Array Value} {s : State} {L B : List Cond} (h1 : ∀ w ∈ L.filter goodWord, w.before args s = true) (h2 : ∀ w ∈ L.filter (fun w => !goodWord w), w ∈ B) (h3 : ∀ w ∈ B, w.before args s = true) : ∀ w ∈ L, w.before args s = true := by
  intro w hw
  by_cases g : goodWord w = true
  · exact h1 w (List.mem_filter.mpr ⟨hw, g⟩)
  · refine h3 w (h2 w (List.mem_filter.mpr ⟨hw, ?_⟩))
    show (!goodWord w) = true
    cases hgw : goodWord w
    · rfl
    · exact absurd hgw g
theorem vx_c {args : Array Value} {s : State} {w : Cond} {B : List Cond} (h : w.before args s = true) (t : ∀ w ∈ B, w.before args s = true) : ∀ w' ∈ w :: B, w'.before args s = true := fun w' h' => (List.mem_cons.mp h').elim (fun e => by rw [e]; exact h) (t w')
theorem vx_n {args : Array Value} {s : State} : ∀ w ∈ ([] : List Cond), w.before args s = true := fun _ h => nomatch h
theorem vx_own {args : Array Value} {s : State} {L : List Cond} (h1 : ∀ w ∈ L.filter vx_no, w.before args s = true)
    (hU : (Cond.isRef (.static Bundle.tN "UNASSIGNED_STACK" Bundle.steD)).before args s = true) (hN : (Cond.isRef (.static Bundle.tN "SUPPRESSED_SENTINEL" Bundle.listD)).before args s = true)
    (lU : (Cond.laysStatic Bundle.tN "UNASSIGNED_STACK" Bundle.steD).before args s = true) (lN : (Cond.laysStatic Bundle.tN "SUPPRESSED_SENTINEL" Bundle.listD).before args s = true) : ∀ w ∈ L, w.before args s = true := by
  intro w hw
  by_cases e1 : w = .isRef (.static Bundle.tN "UNASSIGNED_STACK" Bundle.steD)
  · rw [e1]; exact hU
  · by_cases e2 : w = .isRef (.static Bundle.tN "SUPPRESSED_SENTINEL" Bundle.listD)
    · rw [e2]; exact hN
    · by_cases e3 : w = .laysStatic Bundle.tN "UNASSIGNED_STACK" Bundle.steD
      · rw [e3]; exact lU
      · by_cases e4 : w = .laysStatic Bundle.tN "SUPPRESSED_SENTINEL" Bundle.listD
        · rw [e4]; exact lN
        · exact h1 w (List.mem_filter.mpr ⟨hw, by unfold vx_no; rw [decide_eq_true e1, decide_eq_true e2, decide_eq_true e3, decide_eq_true e4]; rfl⟩)
/-- where a static field lies, its class's statics cell in H -/
def vx_L (C n d : String) (A : Nat → Prop) (U : State) (H : Heap) : Prop := ∃ (c : ClassId) (k : Class) (i : Nat) (f : Field) (a : Nat) (cell : Cell), U.vm.findClass C = some c ∧ U.fieldFound? C n d = some (c, k, i, f) ∧ f.isStatic = true ∧ k.statics = some a ∧ H[a]? = some cell ∧ cell.vm.isStatics = true ∧ cell.cls = c ∧ f.slot < cell.slots.size ∧ k.staticTypes[f.slot]? = some f.type ∧ ¬ A a
theorem vx_L.moved {C n d : String} {A : Nat → Prop} {u U : State} {H : Heap} (hvm : u.vm.Alike U.vm) (h : vx_L C n d A u H) : vx_L C n d A U H := by
  obtain ⟨c, k, i, f, a, cell, h1, h2, h3, h4, h5, h6, h7, h8, h9, h10⟩ := h
  obtain ⟨k', hi', he⟩ := State.fieldFound?_setVm hvm h2
  exact ⟨c, k', i, f, a, cell, by rw [hvm.findClass]; exact h1, hi', h3, by rw [he]; exact h4, h5, h6, h7, h8, by rw [he]; exact h9, h10⟩
theorem vx_L.kept {C n d : String} {A : Nat → Prop} {U : State} {H H1 : Heap} (h : vx_L C n d A U H) (hq : ∀ a : Nat, a < H.size → ¬ A a → H1[a]? = H[a]?) : vx_L C n d A U H1 := by
  obtain ⟨c, k, i, f, a, cell, h1, h2, h3, h4, h5, h6, h7, h8, h9, h10⟩ := h
  exact ⟨c, k, i, f, a, cell, h1, h2, h3, h4, by rw [hq a (Array.getElem?_eq_some_iff.mp h5).1 h10]; exact h5, h6, h7, h8, h9, h10⟩
theorem vx_L.narrow {C n d : String} {A B : Nat → Prop} {U : State} {H : Heap} (h : vx_L C n d A U H) (hAB : ∀ q, B q → A q) : vx_L C n d B U H := by
  obtain ⟨c, k, i, f, a, cell, h1, h2, h3, h4, h5, h6, h7, h8, h9, h10⟩ := h
  exact ⟨c, k, i, f, a, cell, h1, h2, h3, h4, h5, h6, h7, h8, h9, fun z => h10 (hAB _ z)⟩
theorem vx_L.word {C n d : String} {A : Nat → Prop} {s : State} {args : Array Value} (h : vx_L C n d A s s.heap) : (Cond.laysStatic C n d).before args s = true := by
  obtain ⟨c, k, i, f, a, cell, h1, h2, h3, h4, h5, h6, h7, h8, h9, -⟩ := h
  show (Cond.laysStatic C n d).holds args s none s [] = true
  exact Cond.laysStatic_of h1 h2 h3 h4 h5 h6 h7 h8 h9
/-- .. and what it holds: null or some reference -/
def vx_Zq (C n d : String) (A : Nat → Prop) (U : State) (H : Heap) : Prop := va_Zq C n d A U H ∧ vx_L C n d A U H
theorem vx_Zq.moved {C n d : String} {A : Nat → Prop} {u U : State} {H : Heap} (hvm : u.vm.Alike U.vm) (h : vx_Zq C n d A u H) : vx_Zq C n d A U H := ⟨va_Zq.moved hvm h.1, vx_L.moved hvm h.2⟩
theorem vx_Zq.kept {C n d : String} {A : Nat → Prop} {U : State} {H H1 : Heap} (h : vx_Zq C n d A U H) (hq : ∀ a : Nat, a < H.size → ¬ A a → H1[a]? = H[a]?) : vx_Zq C n d A U H1 := ⟨va_Zq.kept h.1 hq, vx_L.kept h.2 hq⟩
theorem vx_Zq.narrow {C n d : String} {A B : Nat → Prop} {U : State} {H : Heap} (h : vx_Zq C n d A U H) (hAB : ∀ q, B q → A q) : vx_Zq C n d B U H := ⟨va_Zq.narrow h.1 hAB, vx_L.narrow h.2 hAB⟩
theorem vx_Zqof {args : Array Value} {s : State} {C n d : String} {A : Nat → Prop} (hl : (Cond.laysStatic C n d).before args s = true) (hini : (Cond.initialized C).before args s = true) (h : (Cond.isRef (.static C n d)).before args s = true) (hA : ∀ a : Nat, a < s.heap.size → ¬ A a) : vx_Zq C n d A s s.heap := by
  refine ⟨va_Zqof hl hini h hA, ?_⟩
  obtain ⟨c, k, i, f, a, cell, h1, h2, h3, h4, h5, h6, h7, h8, h9⟩ := Cond.laysStatic_spec hl
  exact ⟨c, k, i, f, a, cell, h1, h2, h3, h4, h5, h6, h7, h8, h9, hA a (Array.getElem?_eq_some_iff.mp h5).1⟩
theorem vx_isRef {C n d : String} {v : Value} {A : Nat → Prop} {s : State} {args : Array Value} (h : va_Z C n d v A s s.heap) (hv : v.isRef = true) : (Cond.isRef (.static C n d)).before args s = true := by
  obtain ⟨cf, kf, fi, f, a, cell, h1, h2, h3, h4, h5, h6, h7, -⟩ := h
  have he : (Term.static C n d).eval args s none [] s = some v := by
    simp [Term.eval, State.fieldNamed?, h1, h2, h4, h5, h6, h7]
  simp only [Cond.before, Cond.holds, Cond.value, he]
  cases v <;> simp_all [Value.isRef]
theorem vx_isRefq {C n d : String} {A : Nat → Prop} {s : State} {args : Array Value} (h : va_Zq C n d A s s.heap) : (Cond.isRef (.static C n d)).before args s = true := by
  rcases h with h | ⟨t, h⟩
  · exact vx_isRef h rfl
  · exact vx_isRef h rfl
/-- the same frame, seen from here: as if the method were called anew in this heap -/
theorem vx_rebase {T : State} (X : Stand p l e R s m args below meth c T locs cells slots) {R' : Room} (hf : R'.frames ≤ R.frames) (hl : R'.locals ≤ R.locals) (hc : cells + R'.cells ≤ R.cells) (hs : slots + R'.slots ≤ R.slots) :
    Stand p l e R' ((T.setVm s.vm).setFrames (.invoking m args :: below)) m args below meth c T [] 0 0 := by
  have htop : (T.setVm s.vm).topJava?.isSome := X.here.top
  have hF : ((T.setVm s.vm).setFrames (.invoking m args :: below)).frames = .invoking m args :: below := State.frames_setFrames _ (State.cur_lt_of_top htop)
  obtain ⟨g₀, hg0⟩ := Option.isSome_iff_exists.mp htop
  obtain ⟨r, hr⟩ := State.topJava?_eq_some.mp hg0
  have hl9 : e.platform.stackLimits (T.setVm s.vm).me = e.platform.stackLimits s.me := X.limits
  have hb9 : (T.setVm s.vm).me.stackBytes = s.me.stackBytes := X.bytes
  refine ⟨X.admits, X.cas, X.clock, hF, ?_, X.hears, X.method, X.code, X.here, X.tail, X.warmed, ?_, ?_, ?_⟩
  · have h := X.room
    have hU : ((T.setVm s.vm).setFrames (.invoking m args :: below)).localsInUse = s.localsInUse := by
      rw [State.localsInUse_invoking hF (meth := meth) (c := c) X.method X.code, State.localsInUse_invoking X.frames X.method X.code]
    simp only [State.hasRoom, Bool.and_eq_true, decide_eq_true_eq] at h ⊢
    obtain ⟨⟨⟨⟨h1, h2, h3, h4, h5, h6⟩, h7⟩, h8⟩, h9⟩ := h
    rw [X.frames, List.length_cons] at h2 h3
    have q1 := X.heapSize
    have q2 := X.used
    simp only [hF, hU, List.length_cons, State.stackLimits_setFrames, State.stackBytes_setFrames, hl9, hb9]
    refine ⟨⟨⟨⟨by omega, by omega, by omega, by omega, by omega, h6⟩, ?_⟩, ?_⟩, X.book⟩
    · show T.heap.size + R'.cells ≤ e.platform.maxCells
      omega
    · show T.slotsUsed + R'.slots ≤ e.platform.maxSlots
      omega
  · rw [State.stackLimits_setFrames]; rfl
  · rw [State.stackBytes_setFrames]; rfl
  · refine ⟨?_, Nat.le_refl _, Nat.le_refl _, ?_, ?_, fun a c9 h9 => ⟨c9, h9, rfl, rfl, fun _ _ => rfl⟩⟩
    · obtain ⟨t, ht, -⟩ := State.frames_cons hr
      show T.setVm s.vm = { ((T.setVm s.vm).setFrames (.invoking m args :: below)).setFrames (T.setVm s.vm).frames with heap := T.heap, slotsUsed := T.slotsUsed }
      rw [State.setFrames_setFrames, State.setFrames_self ht]
      rfl
    · show T.slotsUsed = T.slotsUsed + ((T.heap.toList.drop T.heap.size).map (·.slots.size)).sum
      rw [List.drop_eq_nil_of_le (Nat.le_of_eq Array.length_toList)]
      rfl
    · show ((T.heap.toList.drop T.heap.size).map (·.slots.size)).sum ≤ 0
      rw [List.drop_eq_nil_of_le (Nat.le_of_eq Array.length_toList)]
      exact Nat.le_refl _
/-- 'throw new E()': new; dup; invokespecial; athrow -/
theorem vx_throw0 {cc : ByteArray} {pc : Nat} (hexec : p.tables.exec = Jvm.exec) (hb : c.code = cc) (hl : l.stackTraces = false) {own cls : String} {names : List String} {ik ic mc ms : Nat} {A : Nat → Prop}
    (hown : s.vm.findClass own = some m.cls) (hcls : Bundle.fit cls = true) (hnames : ∀ n ∈ names, Bundle.fit n = true)
    (hk : (Cond.classLink own ik cls).before args s = true) (hini : (Cond.initialized cls).before args s = true) (hat : ∀ w ∈ vx_at0 own ic cls names, w.before args s = true)
    (hgood : ∀ w ∈ Cond.classLink own ik cls :: Cond.initialized cls :: vx_at0 own ic cls names, vx_ot w = true)
    (hU : vx_Zq Bundle.tN "UNASSIGNED_STACK" Bundle.steD A s s.heap) (hN : vx_Zq Bundle.tN "SUPPRESSED_SENTINEL" Bundle.listD A s s.heap) (hS : va_S A s.heap H locs) (hsize : ls.size = c.maxLocals)
    (d0 : decode cc pc = .ok (.new ik, 3)) (d3 : decode cc (pc + 3) = .ok (.dup, 1)) (d4 : decode cc (pc + 4) = .ok (.invokespecial ic, 3)) (d7 : decode cc (pc + 7) = .ok (.athrow, 1))
    (hout : ∀ x ∈ c.exceptionTable.toList, covers x (pc + 7) = false)
    (hRframes : names.length + 3 < R.frames) (hRlocals : (rest.map fun v => v.category).sum + (13 * (names.length + 1) + 42) ≤ R.locals) (hRcells : cells + 1 ≤ R.cells) (hRslots : slots + 6 ≤ R.slots) (hlocks : meth.locks = false)
    (hx : ∀ t : State, s.vm.Alike t.vm → H.size ≤ t.heap.size → (∀ q : Nat, q < H.size → t.heap[q]? = H[q]?) → XC cls s t)
    (hf : ∀ z ∈ locs, free z.base) (hc : cells + 1 ≤ mc) (hs : slots + 6 ≤ ms) :
    W p l e R s m args below meth c H locs cells slots (vx_MQ below Qc XC args s mc ms free) (F0 m pc ls rest) := by
  intro T hT X
  have htr : e.platform.stackTraces = false := (show e.platform.stackTraces = l.stackTraces by rw [X.admits.platform]).trans hl
  have Y := vx_rebase X (R' := { frames := R.frames, locals := R.locals, cells := 1, slots := 6 }) (Nat.le_refl _) (Nat.le_refl _) hRcells hRslots
  obtain ⟨s', hA⟩ : ∃ z, z = (T.setVm s.vm).setFrames (.invoking m args :: below) := ⟨_, rfl⟩
  rw [← hA] at Y
  have hvm : s'.vm = s.vm := by rw [hA]; rfl
  have hhp : s'.heap = H := by rw [hA]; exact hT
  have hW0 : s.WarmedH s'.vm := by rw [hvm]; exact State.WarmedH.refl s
  have hat' : ∀ w ∈ vx_at0 own ic cls names, w.before args s' = true := fun w hw => vx_ot_at hW0 hvm.symm (hgood w (List.mem_cons_of_mem _ (List.mem_cons_of_mem _ hw))) (hat w hw)
  have hk' : (Cond.classLink own ik cls).before args s' = true := vx_ot_at hW0 hvm.symm (hgood _ List.mem_cons_self) hk
  have hini' : (Cond.initialized cls).before args s' = true := vx_ot_at hW0 hvm.symm (hgood _ (List.mem_cons_of_mem _ List.mem_cons_self)) hini
  have hU' : vx_Zq Bundle.tN "UNASSIGNED_STACK" Bundle.steD A s' s'.heap := by rw [hhp]; exact vx_Zq.moved hW0.alike (hU.kept hS.2.1)
  have hN' : vx_Zq Bundle.tN "SUPPRESSED_SENTINEL" Bundle.listD A s' s'.heap := by rw [hhp]; exact vx_Zq.moved hW0.alike (hN.kept hS.2.1)
  have h : ∀ w ∈ Bundle.ownAtoms0 own ic cls names, w.before args s' = true := vx_own hat' (vx_isRefq hU'.1) (vx_isRefq hN'.1) hU'.2.word hN'.2.word
  have hown' : s'.vm.findClass own = some m.cls := by rw [hvm]; exact hown
  have hins : (Cond.instantiable cls 6).before args s' = true := h _ (by simp [Bundle.ownAtoms0])
  obtain ⟨vm₁, cX, kX, hfX, hkX, -, -, X₁, st1⟩ := Y.newCold hexec (own := own) (C := cls) (index := ik) (n := 6) hown' hk' hins hini'
    (g := F0 m pc ls rest) rfl (by rw [hb]; exact d0) (Nat.le_refl _) (Nat.le_refl _)
  generalize hT1 : (T.setVm vm₁).pushCell { cls := cX, slots := kX.instanceTypes.map defaultValue, vm := .none } = T1 at X₁ st1
  have hcat : (Value.ref T.heap.size).category = 1 := rfl
  have hcellA : T1.heap[T.heap.size]? = some (freshCell cX kX) := by rw [← hT1]; exact State.heap_pushCell_size _ _
  have d3' : decode c.code (pc + 3) = .ok (.dup, 1) := by rw [hb]; exact d3
  obtain ⟨U, hsteps, hrun, hend, hW, hsame, ce, hce, hO⟩ := X₁.ctorThrow0 hexec htr (own := own) (cls := cls) (names := names) (ic := ic) hown' hcls hnames h (fun x hx => nomatch hx) hfX hkX hcellA (by rw [hhp, hT]; exact Nat.le_refl _)
    (g := { method := m, pc := pc + 4, locals := ls, stack := .ref T.heap.size :: .ref T.heap.size :: rest, locked := none }) rfl hsize rfl rfl (rest := rest) rfl
    (by rw [hb]; exact d4) (by rw [hb]; exact d7) hout hRframes (by simp only [List.map_cons, List.sum_cons, hcat]; omega) hlocks
  obtain ⟨f1, f2⟩ := vx_frame hsame
  rw [hhp] at f1 f2
  have hWs : s.WarmedH U.vm := State.WarmedH.trans hW0 hW
  have hcl : s.vm.findClass cls = some ce.cls := by
    have h9 := hO.cls
    rw [hvm] at h9
    exact h9
  have hall : s.sameButNew ({ U with vm := s.vm } : State) locs mc ms := by
    subst hA
    obtain ⟨e1, e2⟩ := hsame
    rw [State.setFrames_setFrames] at e1
    have h2 : (T.setVm s.vm).sameButNew ({ U with vm := s.vm } : State) [] (0 + 1) (0 + 6) := ⟨e1, e2⟩
    have h3 := X.same.trans h2
    rw [List.append_nil] at h3
    exact h3.mono hc hs
  refine ⟨U, ?_, .threw T.heap.size, hrun, hend, Or.inr ⟨T.heap.size, rfl, cls, ce, locs, hx U hWs.alike f1 (fun q hq => f2 q hq (fun z hz => nomatch hz)), hce, hO.vm, hcl, hWs, hall, hf⟩⟩
  refine st1 _ ?_
  show Steps p.tables e below (T1.setTop { method := m, pc := pc + 3, locals := ls, stack := .ref T.heap.size :: rest, locked := none }) _
  jvm_step X₁.here [X₁.here.top, hexec, d3', Value.category]
  exact hsteps
/-- 'throw new E("text")': new; dup; ldc; invokespecial; athrow -/
theorem vx_throwS {cc : ByteArray} {pc : Nat} (hexec : p.tables.exec = Jvm.exec) (hb : c.code = cc) (hl : l.stackTraces = false) {own cls text : String} {names : List String} {ik is ic mc ms sa : Nat} {A : Nat → Prop}
    (hown : s.vm.findClass own = some m.cls) (hcls : Bundle.fit cls = true) (hnames : ∀ n ∈ names, Bundle.fit n = true)
    (hk : (Cond.classLink own ik cls).before args s = true) (hini : (Cond.initialized cls).before args s = true) (hstr : vk_R own is text sa s) (hat : ∀ w ∈ vx_atS own ic cls names, w.before args s = true)
    (hgood : ∀ w ∈ Cond.classLink own ik cls :: Cond.initialized cls :: vx_atS own ic cls names, vx_ot w = true)
    (hU : vx_Zq Bundle.tN "UNASSIGNED_STACK" Bundle.steD A s s.heap) (hN : vx_Zq Bundle.tN "SUPPRESSED_SENTINEL" Bundle.listD A s s.heap) (hS : va_S A s.heap H locs) (hsize : ls.size = c.maxLocals)
    (d0 : decode cc pc = .ok (.new ik, 3)) (d3 : decode cc (pc + 3) = .ok (.dup, 1)) (d4 : decode cc (pc + 4) = .ok (.ldc is, 2)) (d6 : decode cc (pc + 6) = .ok (.invokespecial ic, 3)) (d9 : decode cc (pc + 9) = .ok (.athrow, 1))
    (hout : ∀ x ∈ c.exceptionTable.toList, covers x (pc + 9) = false)
    (hRframes : names.length + 3 < R.frames) (hRlocals : (rest.map fun v => v.category).sum + (13 * (names.length + 1) + 43) ≤ R.locals) (hRcells : cells + 1 ≤ R.cells) (hRslots : slots + 6 ≤ R.slots) (hlocks : meth.locks = false)
    (hx : ∀ t : State, s.vm.Alike t.vm → H.size ≤ t.heap.size → (∀ q : Nat, q < H.size → t.heap[q]? = H[q]?) → XC cls s t)
    (hf : ∀ z ∈ locs, free z.base) (hc : cells + 1 ≤ mc) (hs : slots + 6 ≤ ms) :
    W p l e R s m args below meth c H locs cells slots (vx_MQ below Qc XC args s mc ms free) (F0 m pc ls rest) := by
  intro T hT X
  have htr : e.platform.stackTraces = false := (show e.platform.stackTraces = l.stackTraces by rw [X.admits.platform]).trans hl
  have Y := vx_rebase X (R' := { frames := R.frames, locals := R.locals, cells := 1, slots := 6 }) (Nat.le_refl _) (Nat.le_refl _) hRcells hRslots
  obtain ⟨s', hA⟩ : ∃ z, z = (T.setVm s.vm).setFrames (.invoking m args :: below) := ⟨_, rfl⟩
  rw [← hA] at Y
  have hvm : s'.vm = s.vm := by rw [hA]; rfl
  have hhp : s'.heap = H := by rw [hA]; exact hT
  have hW0 : s.WarmedH s'.vm := by rw [hvm]; exact State.WarmedH.refl s
  have hat' : ∀ w ∈ vx_atS own ic cls names, w.before args s' = true := fun w hw => vx_ot_at hW0 hvm.symm (hgood w (List.mem_cons_of_mem _ (List.mem_cons_of_mem _ hw))) (hat w hw)
  have hk' : (Cond.classLink own ik cls).before args s' = true := vx_ot_at hW0 hvm.symm (hgood _ List.mem_cons_self) hk
  have hini' : (Cond.initialized cls).before args s' = true := vx_ot_at hW0 hvm.symm (hgood _ (List.mem_cons_of_mem _ List.mem_cons_self)) hini
  have hU' : vx_Zq Bundle.tN "UNASSIGNED_STACK" Bundle.steD A s' s'.heap := by rw [hhp]; exact vx_Zq.moved hW0.alike (hU.kept hS.2.1)
  have hN' : vx_Zq Bundle.tN "SUPPRESSED_SENTINEL" Bundle.listD A s' s'.heap := by rw [hhp]; exact vx_Zq.moved hW0.alike (hN.kept hS.2.1)
  have h : ∀ w ∈ Bundle.ownAtoms own ic cls names, w.before args s' = true := vx_own hat' (vx_isRefq hU'.1) (vx_isRefq hN'.1) hU'.2.word hN'.2.word
  have hown' : s'.vm.findClass own = some m.cls := by rw [hvm]; exact hown
  have hins : (Cond.instantiable cls 6).before args s' = true := h _ (by simp [Bundle.ownAtoms])
  obtain ⟨vm₁, cX, kX, hfX, hkX, -, -, X₁, st1⟩ := Y.newCold hexec (own := own) (C := cls) (index := ik) (n := 6) hown' hk' hins hini'
    (g := F0 m pc ls rest) rfl (by rw [hb]; exact d0) (Nat.le_refl _) (Nat.le_refl _)
  generalize hT1 : (T.setVm vm₁).pushCell { cls := cX, slots := kX.instanceTypes.map defaultValue, vm := .none } = T1 at X₁ st1
  have hcat : (Value.ref T.heap.size).category = 1 := rfl
  have hcellA : T1.heap[T.heap.size]? = some (freshCell cX kX) := by rw [← hT1]; exact State.heap_pushCell_size _ _
  have d3' : decode c.code (pc + 3) = .ok (.dup, 1) := by rw [hb]; exact d3
  have d4' : decode c.code (pc + 4) = .ok (.ldc is, 2) := by rw [hb]; exact d4
  have hstr' : vk_R own is text sa s' := vk_R.warm hW0 hstr
  obtain ⟨U, hsteps, hrun, hend, hW, hsame, ce, hce, hO⟩ := X₁.ctorThrowS hexec htr (own := own) (cls := cls) (names := names) (ic := ic) hown' hcls hnames h (fun x hx => nomatch hx) hfX hkX hcellA (by rw [hhp, hT]; exact Nat.le_refl _) (msg := .ref sa) rfl
    (g := { method := m, pc := pc + 6, locals := ls, stack := .ref sa :: .ref T.heap.size :: .ref T.heap.size :: rest, locked := none }) rfl hsize rfl rfl (rest := rest) rfl
    (by rw [hb]; exact d6) (by rw [hb]; exact d9) hout hRframes (by simp only [List.map_cons, List.sum_cons, hcat]; omega) hlocks
  obtain ⟨f1, f2⟩ := vx_frame hsame
  rw [hhp] at f1 f2
  have hWs : s.WarmedH U.vm := State.WarmedH.trans hW0 hW
  have hcl : s.vm.findClass cls = some ce.cls := by
    have h9 := hO.cls
    rw [hvm] at h9
    exact h9
  have hall : s.sameButNew ({ U with vm := s.vm } : State) locs mc ms := by
    subst hA
    obtain ⟨e1, e2⟩ := hsame
    rw [State.setFrames_setFrames] at e1
    have h2 : (T.setVm s.vm).sameButNew ({ U with vm := s.vm } : State) [] (0 + 1) (0 + 6) := ⟨e1, e2⟩
    have h3 := X.same.trans h2
    rw [List.append_nil] at h3
    exact h3.mono hc hs
  refine ⟨U, ?_, .threw T.heap.size, hrun, hend, Or.inr ⟨T.heap.size, rfl, cls, ce, locs, hx U hWs.alike f1 (fun q hq => f2 q hq (fun z hz => nomatch hz)), hce, hO.vm, hcl, hWs, hall, hf⟩⟩
  refine st1 _ ?_
  show Steps p.tables e below (T1.setTop { method := m, pc := pc + 3, locals := ls, stack := .ref T.heap.size :: rest, locked := none }) _
  jvm_step X₁.here [X₁.here.top, hexec, d3', Value.category]
  exact X₁.ldcString hexec (own := own) (text := text) (index := is) (a := sa) hown' hstr'.1 hstr'.2
    (g := { method := m, pc := pc + 4, locals := ls, stack := .ref T.heap.size :: .ref T.heap.size :: rest, locked := none }) rfl d4' _ hsteps
/-- 'throw new E("text")', the text by a wide index -/
theorem vx_throwSW {cc : ByteArray} {pc : Nat} (hexec : p.tables.exec = Jvm.exec) (hb : c.code = cc) (hl : l.stackTraces = false) {own cls text : String} {names : List String} {ik is ic mc ms sa : Nat} {A : Nat → Prop}
    (hown : s.vm.findClass own = some m.cls) (hcls : Bundle.fit cls = true) (hnames : ∀ n ∈ names, Bundle.fit n = true)
    (hk : (Cond.classLink own ik cls).before args s = true) (hini : (Cond.initialized cls).before args s = true) (hstr : vk_R own is text sa s) (hat : ∀ w ∈ vx_atS own ic cls names, w.before args s = true)
    (hgood : ∀ w ∈ Cond.classLink own ik cls :: Cond.initialized cls :: vx_atS own ic cls names, vx_ot w = true)
    (hU : vx_Zq Bundle.tN "UNASSIGNED_STACK" Bundle.steD A s s.heap) (hN : vx_Zq Bundle.tN "SUPPRESSED_SENTINEL" Bundle.listD A s s.heap) (hS : va_S A s.heap H locs) (hsize : ls.size = c.maxLocals)
    (d0 : decode cc pc = .ok (.new ik, 3)) (d3 : decode cc (pc + 3) = .ok (.dup, 1)) (d4 : decode cc (pc + 4) = .ok (.ldc_w is, 3)) (d7 : decode cc (pc + 7) = .ok (.invokespecial ic, 3)) (d10 : decode cc (pc + 10) = .ok (.athrow, 1))
    (hout : ∀ x ∈ c.exceptionTable.toList, covers x (pc + 10) = false)
    (hRframes : names.length + 3 < R.frames) (hRlocals : (rest.map fun v => v.category).sum + (13 * (names.length + 1) + 43) ≤ R.locals) (hRcells : cells + 1 ≤ R.cells) (hRslots : slots + 6 ≤ R.slots) (hlocks : meth.locks = false)
    (hx : ∀ t : State, s.vm.Alike t.vm → H.size ≤ t.heap.size → (∀ q : Nat, q < H.size → t.heap[q]? = H[q]?) → XC cls s t)
    (hf : ∀ z ∈ locs, free z.base) (hc : cells + 1 ≤ mc) (hs : slots + 6 ≤ ms) :
    W p l e R s m args below meth c H locs cells slots (vx_MQ below Qc XC args s mc ms free) (F0 m pc ls rest) := by
  intro T hT X
  have htr : e.platform.stackTraces = false := (show e.platform.stackTraces = l.stackTraces by rw [X.admits.platform]).trans hl
  have Y := vx_rebase X (R' := { frames := R.frames, locals := R.locals, cells := 1, slots := 6 }) (Nat.le_refl _) (Nat.le_refl _) hRcells hRslots
  obtain ⟨s', hA⟩ : ∃ z, z = (T.setVm s.vm).setFrames (.invoking m args :: below) := ⟨_, rfl⟩
  rw [← hA] at Y
  have hvm : s'.vm = s.vm := by rw [hA]; rfl
  have hhp : s'.heap = H := by rw [hA]; exact hT
  have hW0 : s.WarmedH s'.vm := by rw [hvm]; exact State.WarmedH.refl s
  have hat' : ∀ w ∈ vx_atS own ic cls names, w.before args s' = true := fun w hw => vx_ot_at hW0 hvm.symm (hgood w (List.mem_cons_of_mem _ (List.mem_cons_of_mem _ hw))) (hat w hw)
  have hk' : (Cond.classLink own ik cls).before args s' = true := vx_ot_at hW0 hvm.symm (hgood _ List.mem_cons_self) hk
  have hini' : (Cond.initialized cls).before args s' = true := vx_ot_at hW0 hvm.symm (hgood _ (List.mem_cons_of_mem _ List.mem_cons_self)) hini
  have hU' : vx_Zq Bundle.tN "UNASSIGNED_STACK" Bundle.steD A s' s'.heap := by rw [hhp]; exact vx_Zq.moved hW0.alike (hU.kept hS.2.1)
  have hN' : vx_Zq Bundle.tN "SUPPRESSED_SENTINEL" Bundle.listD A s' s'.heap := by rw [hhp]; exact vx_Zq.moved hW0.alike (hN.kept hS.2.1)
  have h : ∀ w ∈ Bundle.ownAtoms own ic cls names, w.before args s' = true := vx_own hat' (vx_isRefq hU'.1) (vx_isRefq hN'.1) hU'.2.word hN'.2.word
  have hown' : s'.vm.findClass own = some m.cls := by rw [hvm]; exact hown
  have hins : (Cond.instantiable cls 6).before args s' = true := h _ (by simp [Bundle.ownAtoms])
  obtain ⟨vm₁, cX, kX, hfX, hkX, -, -, X₁, st1⟩ := Y.newCold hexec (own := own) (C := cls) (index := ik) (n := 6) hown' hk' hins hini'
    (g := F0 m pc ls rest) rfl (by rw [hb]; exact d0) (Nat.le_refl _) (Nat.le_refl _)
  generalize hT1 : (T.setVm vm₁).pushCell { cls := cX, slots := kX.instanceTypes.map defaultValue, vm := .none } = T1 at X₁ st1
  have hcat : (Value.ref T.heap.size).category = 1 := rfl
  have hcellA : T1.heap[T.heap.size]? = some (freshCell cX kX) := by rw [← hT1]; exact State.heap_pushCell_size _ _
  have d3' : decode c.code (pc + 3) = .ok (.dup, 1) := by rw [hb]; exact d3
  have d4' : decode c.code (pc + 4) = .ok (.ldc_w is, 3) := by rw [hb]; exact d4
  have hstr' : vk_R own is text sa s' := vk_R.warm hW0 hstr
  obtain ⟨U, hsteps, hrun, hend, hW, hsame, ce, hce, hO⟩ := X₁.ctorThrowS hexec htr (own := own) (cls := cls) (names := names) (ic := ic) hown' hcls hnames h (fun x hx => nomatch hx) hfX hkX hcellA (by rw [hhp, hT]; exact Nat.le_refl _) (msg := .ref sa) rfl
    (g := { method := m, pc := pc + 7, locals := ls, stack := .ref sa :: .ref T.heap.size :: .ref T.heap.size :: rest, locked := none }) rfl hsize rfl rfl (rest := rest) rfl
    (by rw [hb]; exact d7) (by rw [hb]; exact d10) hout hRframes (by simp only [List.map_cons, List.sum_cons, hcat]; omega) hlocks
  obtain ⟨f1, f2⟩ := vx_frame hsame
  rw [hhp] at f1 f2
  have hWs : s.WarmedH U.vm := State.WarmedH.trans hW0 hW
  have hcl : s.vm.findClass cls = some ce.cls := by
    have h9 := hO.cls
    rw [hvm] at h9
    exact h9
  have hall : s.sameButNew ({ U with vm := s.vm } : State) locs mc ms := by
    subst hA
    obtain ⟨e1, e2⟩ := hsame
    rw [State.setFrames_setFrames] at e1
    have h2 : (T.setVm s.vm).sameButNew ({ U with vm := s.vm } : State) [] (0 + 1) (0 + 6) := ⟨e1, e2⟩
    have h3 := X.same.trans h2
    rw [List.append_nil] at h3
    exact h3.mono hc hs
  refine ⟨U, ?_, .threw T.heap.size, hrun, hend, Or.inr ⟨T.heap.size, rfl, cls, ce, locs, hx U hWs.alike f1 (fun q hq => f2 q hq (fun z hz => nomatch hz)), hce, hO.vm, hcl, hWs, hall, hf⟩⟩
  refine st1 _ ?_
  show Steps p.tables e below (T1.setTop { method := m, pc := pc + 3, locals := ls, stack := .ref T.heap.size :: rest, locked := none }) _
  jvm_step X₁.here [X₁.here.top, hexec, d3', Value.category]
  exact X₁.ldcStringW hexec (own := own) (text := text) (index := is) (a := sa) hown' hstr'.1 hstr'.2
    (g := { method := m, pc := pc + 4, locals := ls, stack := .ref T.heap.size :: .ref T.heap.size :: rest, locked := none }) rfl d4' _ hsteps
end Ends
section Bodies
variable {l : Launch}
theorem vx_ofW {y : MethodName} {ws ws' : List Cond} {rm : Room} {Pc : Array Value → State → Prop} {Qc : Array Value → State → Outcome → State → Prop} {XC : String → State → State → Prop} {mc ms : Nat} {free : Addr → Prop} {cc : ByteArray} {maxL : Nat} {ret : Option FieldType}
    (hy : plainName y.cls = true) (hw : ws = Cond.code y cc maxL ret :: ws')
    (body : ∀ p e s m args below meth c s₁, BodyLoose p l y (headSpec ws rm) cc maxL ret e s m args below meth c s₁ → c.maxLocals = maxL → (∀ x ∈ c.exceptionTable.toList, False) → Pc args s →
      W p l e (headSpec ws rm).room s m args below meth c s.heap [] 0 0 (vx_MQ below Qc XC args s mc ms free) (entryFrame m args maxL)) : vx_Met l y ws rm Pc Qc XC mc ms free := by
  refine MetFree.of_bodyS (code := cc) (maxLocals := maxL) (ret := ret) hy ?_ ?_
  · intro args s m h hn
    obtain ⟨meth, c, h1, h2, h3, h4, h5, h6, -, -⟩ := Cond.code_spec hn (atoms_spec (ws := ws) h _ (by rw [hw]; exact List.mem_cons_self))
    exact ⟨meth, c, h1, h2, h3, h4, h5, h6⟩
  · intro p e s m args below meth c s₁ B hml hP _
    have hh0 : s₁.heap = s.heap := by rw [B.state]; rfl
    have ht : ∀ x ∈ c.exceptionTable.toList, False := by
      obtain ⟨meth9, c9, h1, h2, -, -, -, -, h7, -⟩ := Cond.code_spec B.named (atoms_spec (ws := ws) B.pre _ (by rw [hw]; exact List.mem_cons_self))
      cases Option.some.inj (h1.symm.trans B.method)
      cases Option.some.inj (h2.symm.trans (Stand.of_body B).code)
      intro x hx
      rw [Array.isEmpty_iff.mp h7] at hx
      cases hx
    obtain ⟨t, a1, o, b1, b2, b3⟩ := body p e s m args below meth c s₁ B hml ht hP s₁ hh0 (Stand.of_body B)
    exact ⟨t, o, a1, b1, b2, b3⟩
/-- the table of a body with handlers -/
theorem vx_table {p : Program} {x y : MethodName} {S : Spec} {cc bytes : ByteArray} {maxL maxL' : Nat} {ret ret' : Option FieldType} {e : Env} {s s₁ : State} {m : MethodId} {args : Array Value} {below : List Frame} {meth : Method} {c : Code} {hh : List (Nat × Nat × Nat × Nat)}
    (B : BodyLoose p l y S cc maxL ret e s m args below meth c s₁) (h : (Cond.codeWith y bytes maxL' ret' hh).before args s = true) : c.exceptionTable.toList = tableOf hh := by
  obtain ⟨m9, meth9, c9, hn9, h1, h2, -, -, h6, -⟩ := Cond.codeWith_spec h
  cases Option.some.inj (hn9.symm.trans B.named)
  cases Option.some.inj (h1.symm.trans B.method)
  cases Option.some.inj (h2.symm.trans (Stand.of_body B).code)
  rw [← h6, table_eq]
end Bodies
end VXA
/-! ===== END ===== -/
/-! ===== BEGIN a static call of a method with an exception table ===== -/
section VXS
variable {p : Program} {l : Launch} {e : Env} {R : Room} {s : State} {m : MethodId} {args : Array Value} {below : List Frame} {meth : Method} {c : Code} {T : State} {H : Heap} {locs : List Loc} {cells slots : Nat}
abbrev vx_CSW (R : Room) (s : State) (args : Array Value) (own : String) (index : Nat) (y : MethodName) (bytes : ByteArray) (maxL : Nat) (ret : Option FieldType) (hh : List (Nat × Nat × Nat × Nat)) (ws : List Cond) (rm : Room) (mc ms n : Nat) : Prop :=
  (rm.cells = mc ∧ rm.slots = ms ∧ rm.frames + 1 ≤ R.frames ∧ 8 + (maxL + 11) + rm.locals ≤ R.locals ∧ (∀ w ∈ ws, ∀ (a' : Array Value) (U : State), s.WarmedH U.vm → w.before a' U = true) ∧ Cond.codeWith y bytes maxL ret hh ∈ ws) ∧
  (Cond.codeWith y bytes maxL ret hh).before args s = true ∧ (Cond.initialized y.cls).before args s = true ∧ (y.cls ≠ "java/lang/invoke/MethodHandle" ∧ y.cls ≠ "java/lang/invoke/VarHandle") ∧
  (∀ sig, parseMethodDescriptor y.desc = some sig → n = sig.parameters.length) ∧ (Cond.methodLink own index y).before args s = true ∧ (Cond.static y).before args s = true
theorem vx_cwSW {own : String} {index maxL mc ms : Nat} {y : MethodName} {bytes : ByteArray} {ret : Option FieldType} {hh : List (Nat × Nat × Nat × Nat)} {Ts ws ws' : List Cond} {rm : Room} (n : Nat) (ht : ∀ w ∈ Ts, w.before args s = true) (hT : GoodIn Ts (va_wsS own index y ws)) (hw : ws = Cond.codeWith y bytes maxL ret hh :: ws') (hrc : rm.cells = mc) (hrs : rm.slots = ms)
    (hd : y.cls ≠ "java/lang/invoke/MethodHandle" ∧ y.cls ≠ "java/lang/invoke/VarHandle" ∧ (parseMethodDescriptor y.desc).map (fun d => d.parameters.length) = some n) (hR : rm.frames + 1 ≤ R.frames ∧ 8 + (maxL + 11) + rm.locals ≤ R.locals) :
    vx_CSW R s args own index y bytes maxL ret hh ws rm mc ms n := by
  have ok : ∀ w ∈ va_wsS own index y ws, w.before args s = true := fun w h => ht w (hT w h).1
  have hG : GoodIn Ts ws := fun w h => hT w (by unfold va_wsS; exact List.mem_append_right _ h)
  have hc : Cond.codeWith y bytes maxL ret hh ∈ ws := by rw [hw]; exact List.mem_cons_self
  refine ⟨⟨hrc, hrs, hR.1, hR.2, pay_in ht hG, hc⟩, ht _ (hG _ hc).1, ok _ (by simp [va_wsS]), ⟨hd.1, hd.2.1⟩, fun sig h => ?_, ok _ (by simp [va_wsS]), ok _ (by simp [va_wsS])⟩
  have h2 := hd.2.2
  rw [h] at h2
  exact (Option.some.inj h2).symm
theorem vx_callSW (X : Stand p l e R s m args below meth c T locs cells slots) (hexec : p.tables.exec = Jvm.exec) {own : String} {index : Nat} {y : MethodName} {bytes : ByteArray} {maxL : Nat} {ret : Option FieldType} {hh : List (Nat × Nat × Nat × Nat)}
    (hown : s.vm.findClass own = some m.cls) (hlink : (Cond.methodLink own index y).before args s = true) (hstat : (Cond.static y).before args s = true) (hinit : (Cond.initialized y.cls).before args s = true)
    (hcode : (Cond.codeWith y bytes maxL ret hh).before args s = true) (hy : y.cls ≠ "java/lang/invoke/MethodHandle" ∧ y.cls ≠ "java/lang/invoke/VarHandle")
    {W9 : Nat} {Pre : Pt → Array Value → Prop} {Post : Pt → Array Value → Option Value → Pt → Prop} (hK : Back l R p e below s args y 3 W9 Pre Post)
    {g : JFrame} (hg : g.method = m) (hsize : g.locals.size = c.maxLocals) {argsL rest : List Value} (hlen : ∀ sig, parseMethodDescriptor y.desc = some sig → argsL.length = sig.parameters.length)
    (hstack : g.stack = argsL.reverse ++ rest) (hW : 2 * g.monitorRoom + (rest.map fun v => v.category).sum ≤ W9) (hdg : decode c.code g.pc = .ok (.invokestatic index, 3))
    (hpre : ∀ vm₁, s.WarmedH vm₁ → Pre ⟨T.setVm vm₁, locs, cells, slots⟩ argsL.toArray) :
    ∃ (v : Option Value) (vm₁ : Vm) (B : Pt), s.WarmedH vm₁ ∧ Stand p l e R s m args below meth c B.U B.locs B.cells B.slots ∧ Post ⟨T.setVm vm₁, locs, cells, slots⟩ argsL.toArray v B ∧
      ∀ target, Steps p.tables e below (B.U.setTop { g with pc := g.pc + 3, stack := v.toList ++ rest }) target → Steps p.tables e below (T.setTop g) target := by
  obtain ⟨mk, methM, cM, hnamed, hmethM, -, -, -, -, -, -, hsigM⟩ := Cond.codeWith_spec hcode
  have hstatic : methM.isStatic = true := Cond.static_spec hnamed hmethM hstat
  obtain ⟨kP, hkP, -⟩ := className_of_methodNamed hnamed
  have hinitP : kP.init = .initialized := Cond.initialized_spec (findClass_of_methodNamed hnamed) hkP hinit
  obtain ⟨vm₁, X₁, hstep₁⟩ := X.invokestatic hexec hown hlink hnamed hmethM hstatic hkP hinitP hy (g := g) hg (argsL := argsL) (rest := rest) (hlen _ hsigM) hstack hdg
  obtain ⟨v, B, X', hpost, hsteps⟩ := hK m meth c ⟨T.setVm vm₁, locs, cells, slots⟩ { g with stack := rest } (.invokestatic index) mk argsL.toArray X₁ hg hsize hdg hW (X₁.named hnamed) (hpre vm₁ X₁.warmed)
  exact ⟨v, vm₁, B, X₁.warmed, X', hpost, fun target h => hstep₁ _ fun acts => by rw [doInvoke_state]; exact hsteps.trans h⟩
theorem vx_runSW {y : MethodName} {bytes cc : ByteArray} {maxL nL mc ms n index : Nat} {ret : Option FieldType} {hh : List (Nat × Nat × Nat × Nat)} {ws : List Cond} {rm : Room} {Pc : Array Value → State → Prop} {Qc : Array Value → State → Outcome → State → Prop} {free : Addr → Prop} {Ts : List Cond} {own : String} {As rest : List Value} {g : JFrame}
    (S : CallFix p m c cc nL s args Ts own) (hM : Met l y ws rm Pc Qc mc ms free) (cw : vx_CSW R s args own index y bytes maxL ret hh ws rm mc ms n) (hp : PreS s H Pc As)
    (hg : g.method = m) (hn : As.length = n) (hsize : g.locals.size = nL) (hstack : g.stack = As.reverse ++ rest) (hW : 2 * g.monitorRoom + (rest.map fun v => v.category).sum ≤ 8) (hdg : decode cc g.pc = .ok (.invokestatic index, 3)) (hf : cells + mc ≤ R.cells ∧ slots + ms ≤ R.slots) :
    va_Run p l e R s m args below meth c H locs cells slots mc ms g rest (Qc As.toArray) (free) := by
  obtain ⟨⟨hrc, hrs, hfr, hlo, hws, hcw⟩, hcode, hini, hy, hlen, hl, hstt⟩ := cw
  have hK : Back l R p e below s args y 3 8 (PreOf R mc ms Pc) (PostOf Qc mc ms free) := va_backW (hh := hh) (bytes := bytes) (maxL := maxL) (ret := ret) hM hp.1 hrc hrs hfr hlo hws hcw (fun a' U hW => word_at hW (Or.inl (by first | rfl | simp [Cond.onTables, Cond.keeps, Cond.steady])) hini)
  obtain ⟨hx, hb, hml, ho, -⟩ := S
  intro T hT X
  obtain ⟨v, vm₁, ⟨U', l2, c2, s2⟩, hW₁, X', ⟨g', mk, t, L, e1, e2, hq, h1, hL, h2, h3⟩, st⟩ := vx_callSW X hx (hh := hh) (bytes := bytes) (maxL := maxL) (ret := ret) ho hl hstt hini hcode hy hK hg (hsize.trans hml.symm) (argsL := As) (rest := rest) (fun sig h => hn.trans (hlen sig h)) hstack hW (by rw [hb]; exact hdg)
    (fun vm₁ hW₁ => ⟨hf.1, hf.2, hp.2 (T.setVm vm₁) hT hW₁⟩)
  dsimp only [Pt.U, Pt.locs, Pt.cells, Pt.slots] at X' e1 e2 h1 h2 h3 st
  subst h1; subst h2; subst h3
  exact ⟨v, (T.setVm vm₁).calling g' mk As.toArray, t, U', L, hT, X', hL, e1, e2, hq, st⟩
/-- not caught here, past rows that name other classes: it goes on to the caller -/
theorem vx_outP {p : Program} {l : Launch} {e : Env} {R : Room} {s : State} {m : MethodId} {args : Array Value} {below : List Frame} {meth : Method} {c : Code} {H : Heap} {locs : List Loc} {cells slots : Nat} {free : Addr → Prop} {ls : Array Slot} {rest : List Value} {Qc : Array Value → State → Outcome → State → Prop} {XC : String → State → State → Prop}
    {pc : Nat} {own E : String} {ce : Cell} {q : Addr} {mc ms : Nat} (hown : s.vm.findClass own = some m.cls) (hlocks : meth.locks = false)
    (hpass : ∀ z ∈ c.exceptionTable.toList, covers z pc = false ∨ (z.catchType ≠ 0 ∧ ∃ nm : String, (Cond.classLink own z.catchType nm).before args s = true ∧ va_Nc E nm s)) (hcell : H[q]? = some ce) (hv : ce.vm = .none) (hcl : s.vm.findClass E = some ce.cls)
    (hx : ∀ t : State, t.heap = H → s.vm.Alike t.vm → XC E s t) (hf : ∀ z ∈ locs, free z.base) (hc : cells ≤ mc) (hs : slots ≤ ms) :
    vx_W p l e R s m args below meth c H locs cells slots (vx_MQ below Qc XC args s mc ms free) (F0 m pc ls rest) q := by
  intro T hT X
  have hpl : e.platform.magicAccessors = ({} : Platform).magicAccessors := by rw [X.admits.platform]
  obtain ⟨vm', hW', X', st⟩ := X.outThrough hlocks q (g := F0 m pc ls rest) rfl rfl rfl (cell := ce) (by rw [hT]; exact hcell) (by rw [hv]; rfl)
    (by obtain ⟨k9, h9, -⟩ := Vm.findClass_spec hcl; exact ⟨k9, h9⟩) (fun z hz => by
      rcases hpass z hz with h | ⟨hz0, nm, hl1, hn1⟩
      · exact Or.inl h
      · obtain ⟨c6, hc6, hcl6⟩ := Cond.classLink_spec hown hl1 e.platform hpl
        obtain ⟨a8, b8, h1, h2, h3⟩ := hn1
        cases Option.some.inj (h1.symm.trans hcl)
        cases Option.some.inj (h2.symm.trans hc6)
        exact Or.inr ⟨hz0, _, hcl6, h3⟩)
  obtain ⟨g₀, hfr⟩ := X'.frames_eq
  have hcell9 : ((T.setVm vm').setFrames (.throwing q :: below)).heap[q]? = some ce := by
    show T.heap[q]? = some ce
    rw [hT]; exact hcell
  have hend : Ended ((T.setVm vm').setFrames (.throwing q :: below)) below (.threw q) := State.frames_setFrames _ (State.cur_lt_of_frames hfr)
  refine ⟨(T.setVm vm').setFrames (.throwing q :: below), ?_, .threw q, X'.here.running, hend, Or.inr ⟨q, rfl, E, ce, locs, hx _ hT (X'.ends _).1.alike, hcell9, hv, hcl, (X'.ends _).1, (X'.ends _).2.mono hc hs, hf⟩⟩
  rw [X.pushThrowing_eq]
  exact st
/-- a thing of a world lies in the heap -/
theorem vx_lt {D : va_G} {cl : List vw_C} {ws : va_W} {H1 : Heap} (h : va_P D cl ws H1) {k : Nat} {q : Nat × va_E} (hk : ws[k]? = some q) : q.1 < H1.size := (h k q hk).lt
end VXS
/-! ===== END ===== -/
/-! ===== BEGIN methods with a table of their own: called by a name, returning or throwing ===== -/
section VXH
/-! vx_backW, vx_callVX, vx_callSX, vx_callVW, vx_runVW, vx_runVX, vx_runSX, vx_ofWH follow the same proofs as their sisters above (Free/Laws.lean, Shelf42/LK1.lean); vx_outP calls Shelf42/NT130.lean (outThrough). -/
section
variable {l : Launch} {R : Room} {p : Program} {e : Env} {below : List Frame} {s : State} {sargs : Array Value} {y : MethodName} {len W9 : Nat}
theorem vx_backW {ws : List Cond} {rm : Room} {Pc : Array Value → State → Prop} {Qc : Array Value → State → Outcome → State → Prop} {XC : String → State → State → Prop} {mc ms : Nat} {free : Addr → Prop} {bytes : ByteArray} {maxL : Nat} {ret : Option FieldType} {hh : List (Nat × Nat × Nat × Nat)}
    (hM : vx_Met l y ws rm Pc Qc XC mc ms free) (hblind : FrameBlind Pc) (hrc : rm.cells = mc) (hrs : rm.slots = ms)
    (hframes : rm.frames + 1 ≤ R.frames) (hlocals : W9 + (maxL + 11) + rm.locals ≤ R.locals)
    (hws : ∀ w ∈ ws, ∀ a' U, s.WarmedH U.vm → w.before a' U = true) (hcode : Cond.codeWith y bytes maxL ret hh ∈ ws) (hinit : ∀ a' U, s.WarmedH U.vm → (Cond.initialized y.cls).before a' U = true) :
    vx_Back l R p e below s sargs y len W9 (PreOf R mc ms Pc) (PostOf Qc mc ms free) (vx_Post XC mc ms free) := by
  intro m meth c A g ig mk a X hg hsize hdg hW hn hp
  have h1 : (headSpec ws rm).pre.before a A.U = true := atoms_intro fun w hw => hws w hw _ _ X.warmed
  have h2 : (Cond.codeWith y bytes maxL ret hh).before a A.U = true := hws _ hcode _ _ X.warmed
  have h3 : (Cond.initialized y.cls).before a A.U = true := hinit _ _ X.warmed
  have h4 : A.cells + (headSpec ws rm).room.cells ≤ R.cells := by rw [show (headSpec ws rm).room.cells = mc from hrc]; exact hp.1
  have h5 : A.slots + (headSpec ws rm).room.slots ≤ R.slots := by rw [show (headSpec ws rm).room.slots = ms from hrs]; exact hp.2.1
  have hPc : Pc a (A.U.calling g mk a) := hblind _ _ _ _ hp.2.2
  obtain ⟨U, Ls, c0, s0⟩ := A
  dsimp only [Pt.U, Pt.locs, Pt.cells, Pt.slots] at h1 h2 h3 h4 h5 X hn hPc ⊢
  obtain ⟨m9, methY, cY, hn9, hmY, hcY, -, hlY, -⟩ := Cond.codeWith_spec h2
  cases Option.some.inj (hn9.symm.trans hn)
  obtain ⟨kY, hkY, -⟩ := className_of_methodNamed hn
  have hinitY : kY.init = .initialized := Cond.initialized_spec (findClass_of_methodNamed hn) hkY h3
  have h : At U g.method c below := by rw [hg]; exact X.here
  have hlocals9 : W9 + (maxL + 11) + (headSpec ws rm).room.locals ≤ R.locals := hlocals
  have happ : (headSpec ws rm).appliesLoose y e.platform (U.calling g mk a) = true :=
    Spec.appliesLoose_calling (g := g) h hdg hn hkY hinitY
      (X.room_calling (g := g) (R' := (headSpec ws rm).room) hsize hmY hcY hframes (by rw [hlY]; omega) h4 h5) h1
  obtain ⟨mid, hmid⟩ := h.above
  have hfr : (U.setTop g).frames = (.java g :: mid) ++ below := by rw [State.frames_setTop' g h.top, hmid]; rfl
  obtain ⟨o, s₂, hsteps, -, hend, hq⟩ := Steps.callFree hM p X.admits X.cas X.clock (acts := []) hfr happ hPc trivial
  have hq' : vx_Q Qc XC mc ms free a (U.calling g mk a) o s₂ := hq
  rw [State.frames_setTop' g h.top] at hend
  obtain ⟨g₀, hg0⟩ := Option.isSome_iff_exists.mp h.top
  obtain ⟨r, hr⟩ := State.topJava?_eq_some.mp hg0
  have hr' : (({ U with heap := s₂.heap, slotsUsed := s₂.slotsUsed } : State).setVm s₂.vm).frames = .java g₀ :: r := hr
  rcases hq' with ⟨hqc, L, hfe, hL⟩ | ⟨q, rfl, E, ce, L, hx, hce, hcv, hcl, hW₂, hsm, hL⟩
  · obtain ⟨⟨v, rfl⟩, hW₂, e2, q2, q3, q4, q5, q6⟩ := id hfe
    have e3 : s₂ = ({ (U.calling g mk a).setFrames s₂.frames with heap := s₂.heap, slotsUsed := s₂.slotsUsed } : State).setVm s₂.vm := by
      have : s₂ = ({ s₂ with vm := (U.calling g mk a).vm } : State).setVm s₂.vm := rfl
      rw [e2] at this
      exact this
    obtain ⟨c₂, i₂, len₂, hc₂, hd₂, hf₂⟩ := hend
    have hW' : U.WarmedH s₂.vm := hW₂
    have hcc : c₂ = c := by
      have h1 : s₂.code? g.method = U.code? g.method := by
        rw [State.code?_eq, State.code?_eq, hW'.alike.method?]
      exact Option.some.inj (hc₂.symm.trans (h1.trans h.code))
    subst hcc
    have hlen : len₂ = len := by rw [hdg] at hd₂; cases hd₂; rfl
    subst hlen
    have hs₂ : s₂ = (({ U with heap := s₂.heap, slotsUsed := s₂.slotsUsed } : State).setVm s₂.vm).setTop { g with pc := g.pc + len₂, stack := v.toList ++ g.stack } := by
      refine e3.trans ?_
      rw [hf₂, State.calling_eq h.top, State.setFrames_setFrames, State.setTop_of_frames _ hr', hr]
      rfl
    have hsame : U.sameButNew ({ U with heap := s₂.heap, slotsUsed := s₂.slotsUsed } : State) L mc ms := by
      refine ⟨?_, q2, q3, q4, q5, q6⟩
      obtain ⟨t, ht, -⟩ := State.frames_cons hr
      show ({ U with heap := s₂.heap, slotsUsed := s₂.slotsUsed } : State) = { U.setFrames U.frames with heap := s₂.heap, slotsUsed := s₂.slotsUsed }
      rw [State.setFrames_self ht]
    subst hg
    refine Or.inl ⟨v, ⟨(({ U with heap := s₂.heap, slotsUsed := s₂.slotsUsed } : State).setVm s₂.vm), Ls ++ L, c0 + mc, s0 + ms⟩,
      ⟨X.admits, X.cas, X.clock, X.frames, X.room, X.hears, X.method, X.code, (X.here.setHeapUsed s₂.heap s₂.slotsUsed).setVm hW'.alike, X.tail, State.WarmedH.trans X.warmed hW', X.limits, X.bytes, X.same.trans (hsame.setVm s.vm)⟩,
      ⟨g, mk, s₂, L, rfl, rfl, hqc, rfl, hL, rfl, rfl⟩, ?_⟩
    show Steps p.tables e below _ ((({ U with heap := s₂.heap, slotsUsed := s₂.slotsUsed } : State).setVm s₂.vm).setTop { g with pc := g.pc + len₂, stack := v.toList ++ g.stack })
    rw [← hs₂]
    exact hsteps
  · obtain ⟨e2, q2, q3, q4, q5, q6⟩ := id hsm
    have e3 : s₂ = ({ (U.calling g mk a).setFrames s₂.frames with heap := s₂.heap, slotsUsed := s₂.slotsUsed } : State).setVm s₂.vm := by
      have : s₂ = ({ s₂ with vm := (U.calling g mk a).vm } : State).setVm s₂.vm := rfl
      rw [e2] at this
      exact this
    have hf₂ : s₂.frames = .throwing q :: .java g :: U.frames.tail := hend
    have hW' : U.WarmedH s₂.vm := hW₂
    have hs₂ : s₂ = ((({ U with heap := s₂.heap, slotsUsed := s₂.slotsUsed } : State).setVm s₂.vm).setTop g).pushFrame (.throwing q) := by
      refine e3.trans ?_
      rw [hf₂, State.calling_eq h.top, State.setFrames_setFrames, State.pushFrame, State.frames_setTop _ hr', State.setTop_of_frames _ hr', State.setFrames_setFrames, hr]
      rfl
    have hsame : U.sameButNew ({ U with heap := s₂.heap, slotsUsed := s₂.slotsUsed } : State) L mc ms := by
      refine ⟨?_, q2, q3, q4, q5, q6⟩
      obtain ⟨t, ht, -⟩ := State.frames_cons hr
      show ({ U with heap := s₂.heap, slotsUsed := s₂.slotsUsed } : State) = { U.setFrames U.frames with heap := s₂.heap, slotsUsed := s₂.slotsUsed }
      rw [State.setFrames_self ht]
    subst hg
    refine Or.inr ⟨q, ⟨(({ U with heap := s₂.heap, slotsUsed := s₂.slotsUsed } : State).setVm s₂.vm), Ls ++ L, c0 + mc, s0 + ms⟩,
      ⟨X.admits, X.cas, X.clock, X.frames, X.room, X.hears, X.method, X.code, (X.here.setHeapUsed s₂.heap s₂.slotsUsed).setVm hW'.alike, X.tail, State.WarmedH.trans X.warmed hW', X.limits, X.bytes, X.same.trans (hsame.setVm s.vm)⟩,
      ⟨g, mk, s₂, L, E, ce, rfl, rfl, hx, hce, hcv, hcl, rfl, hL, rfl, rfl⟩, ?_⟩
    show Steps p.tables e below _ (((({ U with heap := s₂.heap, slotsUsed := s₂.slotsUsed } : State).setVm s₂.vm).setTop g).pushFrame (.throwing q))
    rw [← hs₂]
    exact hsteps
end
variable {p : Program} {l : Launch} {e : Env} {R : Room} {s : State} {m : MethodId} {args : Array Value} {below : List Frame} {meth : Method} {c : Code} {T : State} {H : Heap} {locs : List Loc} {cells slots : Nat}
theorem vx_callVX (X : Stand p l e R s m args below meth c T locs cells slots) (hexec : p.tables.exec = Jvm.exec) {own C : String} {index : Nat} {y : MethodName} {bytes : ByteArray} {maxL : Nat} {ret : Option FieldType} {hh : List (Nat × Nat × Nat × Nat)}
    (hown : s.vm.findClass own = some m.cls) (hlink : (Cond.methodLink own index y).before args s = true) (hinst : (Cond.instanceMethod y).before args s = true) (hsel : (Cond.selects C y y).before args s = true)
    (hcode : (Cond.codeWith y bytes maxL ret hh).before args s = true) (hy : y.cls ≠ "java/lang/invoke/MethodHandle" ∧ y.cls ≠ "java/lang/invoke/VarHandle")
    {W9 : Nat} {Pre : Pt → Array Value → Prop} {Post : Pt → Array Value → Option Value → Pt → Prop} {PostX : Pt → Array Value → Addr → Pt → Prop} (hK : vx_Back l R p e below s args y 3 W9 Pre Post PostX)
    {b : Addr} {cellB : Cell} (hcell : T.heap[b]? = some cellB) (hobj : cellB.vm.isStatics = false) (hcls : s.vm.findClass C = some cellB.cls)
    {g : JFrame} (hg : g.method = m) (hsize : g.locals.size = c.maxLocals) {argsL rest : List Value} (hlen : ∀ sig, parseMethodDescriptor y.desc = some sig → argsL.length = sig.parameters.length)
    (hstack : g.stack = argsL.reverse ++ .ref b :: rest) (hW : 2 * g.monitorRoom + (rest.map fun v => v.category).sum ≤ W9) (hdg : decode c.code g.pc = .ok (.invokevirtual index, 3))
    (hpre : ∀ vm₁, s.WarmedH vm₁ → Pre ⟨T.setVm vm₁, locs, cells, slots⟩ (Value.ref b :: argsL).toArray) :
    (∃ (v : Option Value) (vm₁ : Vm) (B : Pt), s.WarmedH vm₁ ∧ Stand p l e R s m args below meth c B.U B.locs B.cells B.slots ∧ Post ⟨T.setVm vm₁, locs, cells, slots⟩ (Value.ref b :: argsL).toArray v B ∧
      ∀ target, Steps p.tables e below (B.U.setTop { g with pc := g.pc + 3, stack := v.toList ++ rest }) target → Steps p.tables e below (T.setTop g) target) ∨
    (∃ (q : Addr) (vm₁ : Vm) (B : Pt), s.WarmedH vm₁ ∧ Stand p l e R s m args below meth c B.U B.locs B.cells B.slots ∧ PostX ⟨T.setVm vm₁, locs, cells, slots⟩ (Value.ref b :: argsL).toArray q B ∧
      Steps p.tables e below (T.setTop g) ((B.U.setTop { g with stack := rest }).pushFrame (.throwing q))) := by
  obtain ⟨mk, methM, hnamed, hmethM, hstM, habM⟩ := Cond.instanceMethod_spec hinst
  obtain ⟨m8, methM', cM, hn8, hmethM', -, -, -, -, -, -, hsigM⟩ := Cond.codeWith_spec hcode
  cases Option.some.inj (hn8.symm.trans hnamed)
  cases hmethM.symm.trans hmethM'
  obtain ⟨c2, r2, m2, q1, q2, q3, q4, kP, hkP, hkPi⟩ := Cond.selects_spec hsel
  cases hcls.symm.trans q1
  cases (State.methodFound?_of_named hnamed hy).symm.trans q2
  cases hnamed.symm.trans q3
  have hselP : selectMethod e.platform s.vm cellB.cls mk = .method mk := by rw [Launch.admits_selectMethod X.admits]; exact q4
  obtain ⟨vm₁, X₁, hstep₁⟩ := X.invokevirtual hexec hown hlink hnamed hmethM hstM hkP hkPi hy (a := b) (cell := cellB) hcell
    (fun z h => by rw [h] at hobj; cases hobj) hselP hmethM habM hkP hkPi (g := g) hg (argsL := argsL) (rest := rest) (hlen _ hsigM) hstack hdg
  rcases hK m meth c ⟨T.setVm vm₁, locs, cells, slots⟩ { g with stack := rest } (.invokevirtual index) mk (Value.ref b :: argsL).toArray X₁ hg hsize hdg hW (X₁.named hnamed) (hpre vm₁ X₁.warmed) with ⟨v, B, X', hpost, hsteps⟩ | ⟨q, B, X', hpost, hsteps⟩
  · exact Or.inl ⟨v, vm₁, B, X₁.warmed, X', hpost, fun target h => hstep₁ _ fun acts => by rw [doInvoke_state]; exact hsteps.trans h⟩
  · exact Or.inr ⟨q, vm₁, B, X₁.warmed, X', hpost, hstep₁ _ fun acts => by rw [doInvoke_state]; exact hsteps⟩
theorem vx_callSX (X : Stand p l e R s m args below meth c T locs cells slots) (hexec : p.tables.exec = Jvm.exec) {own : String} {index : Nat} {y : MethodName} {bytes : ByteArray} {maxL : Nat} {ret : Option FieldType} {hh : List (Nat × Nat × Nat × Nat)}
    (hown : s.vm.findClass own = some m.cls) (hlink : (Cond.methodLink own index y).before args s = true) (hstat : (Cond.static y).before args s = true) (hinit : (Cond.initialized y.cls).before args s = true)
    (hcode : (Cond.codeWith y bytes maxL ret hh).before args s = true) (hy : y.cls ≠ "java/lang/invoke/MethodHandle" ∧ y.cls ≠ "java/lang/invoke/VarHandle")
    {W9 : Nat} {Pre : Pt → Array Value → Prop} {Post : Pt → Array Value → Option Value → Pt → Prop} {PostX : Pt → Array Value → Addr → Pt → Prop} (hK : vx_Back l R p e below s args y 3 W9 Pre Post PostX)
    {g : JFrame} (hg : g.method = m) (hsize : g.locals.size = c.maxLocals) {argsL rest : List Value} (hlen : ∀ sig, parseMethodDescriptor y.desc = some sig → argsL.length = sig.parameters.length)
    (hstack : g.stack = argsL.reverse ++ rest) (hW : 2 * g.monitorRoom + (rest.map fun v => v.category).sum ≤ W9) (hdg : decode c.code g.pc = .ok (.invokestatic index, 3))
    (hpre : ∀ vm₁, s.WarmedH vm₁ → Pre ⟨T.setVm vm₁, locs, cells, slots⟩ argsL.toArray) :
    (∃ (v : Option Value) (vm₁ : Vm) (B : Pt), s.WarmedH vm₁ ∧ Stand p l e R s m args below meth c B.U B.locs B.cells B.slots ∧ Post ⟨T.setVm vm₁, locs, cells, slots⟩ argsL.toArray v B ∧
      ∀ target, Steps p.tables e below (B.U.setTop { g with pc := g.pc + 3, stack := v.toList ++ rest }) target → Steps p.tables e below (T.setTop g) target) ∨
    (∃ (q : Addr) (vm₁ : Vm) (B : Pt), s.WarmedH vm₁ ∧ Stand p l e R s m args below meth c B.U B.locs B.cells B.slots ∧ PostX ⟨T.setVm vm₁, locs, cells, slots⟩ argsL.toArray q B ∧
      Steps p.tables e below (T.setTop g) ((B.U.setTop { g with stack := rest }).pushFrame (.throwing q))) := by
  obtain ⟨mk, methM, cM, hnamed, hmethM, -, -, -, -, -, -, hsigM⟩ := Cond.codeWith_spec hcode
  have hstatic : methM.isStatic = true := Cond.static_spec hnamed hmethM hstat
  obtain ⟨kP, hkP, -⟩ := className_of_methodNamed hnamed
  have hinitP : kP.init = .initialized := Cond.initialized_spec (findClass_of_methodNamed hnamed) hkP hinit
  obtain ⟨vm₁, X₁, hstep₁⟩ := X.invokestatic hexec hown hlink hnamed hmethM hstatic hkP hinitP hy (g := g) hg (argsL := argsL) (rest := rest) (hlen _ hsigM) hstack hdg
  rcases hK m meth c ⟨T.setVm vm₁, locs, cells, slots⟩ { g with stack := rest } (.invokestatic index) mk argsL.toArray X₁ hg hsize hdg hW (X₁.named hnamed) (hpre vm₁ X₁.warmed) with ⟨v, B, X', hpost, hsteps⟩ | ⟨q, B, X', hpost, hsteps⟩
  · exact Or.inl ⟨v, vm₁, B, X₁.warmed, X', hpost, fun target h => hstep₁ _ fun acts => by rw [doInvoke_state]; exact hsteps.trans h⟩
  · exact Or.inr ⟨q, vm₁, B, X₁.warmed, X', hpost, hstep₁ _ fun acts => by rw [doInvoke_state]; exact hsteps⟩
theorem vx_callVW (X : Stand p l e R s m args below meth c T locs cells slots) (hexec : p.tables.exec = Jvm.exec) {own C : String} {index : Nat} {y : MethodName} {bytes : ByteArray} {maxL : Nat} {ret : Option FieldType} {hh : List (Nat × Nat × Nat × Nat)}
    (hown : s.vm.findClass own = some m.cls) (hlink : (Cond.methodLink own index y).before args s = true) (hinst : (Cond.instanceMethod y).before args s = true) (hsel : (Cond.selects C y y).before args s = true)
    (hcode : (Cond.codeWith y bytes maxL ret hh).before args s = true) (hy : y.cls ≠ "java/lang/invoke/MethodHandle" ∧ y.cls ≠ "java/lang/invoke/VarHandle")
    {W9 : Nat} {Pre : Pt → Array Value → Prop} {Post : Pt → Array Value → Option Value → Pt → Prop} (hK : Back l R p e below s args y 3 W9 Pre Post)
    {b : Addr} {cellB : Cell} (hcell : T.heap[b]? = some cellB) (hobj : cellB.vm.isStatics = false) (hcls : s.vm.findClass C = some cellB.cls)
    {g : JFrame} (hg : g.method = m) (hsize : g.locals.size = c.maxLocals) {argsL rest : List Value} (hlen : ∀ sig, parseMethodDescriptor y.desc = some sig → argsL.length = sig.parameters.length)
    (hstack : g.stack = argsL.reverse ++ .ref b :: rest) (hW : 2 * g.monitorRoom + (rest.map fun v => v.category).sum ≤ W9) (hdg : decode c.code g.pc = .ok (.invokevirtual index, 3))
    (hpre : ∀ vm₁, s.WarmedH vm₁ → Pre ⟨T.setVm vm₁, locs, cells, slots⟩ (Value.ref b :: argsL).toArray) :
    ∃ (v : Option Value) (vm₁ : Vm) (B : Pt), s.WarmedH vm₁ ∧ Stand p l e R s m args below meth c B.U B.locs B.cells B.slots ∧ Post ⟨T.setVm vm₁, locs, cells, slots⟩ (Value.ref b :: argsL).toArray v B ∧
      ∀ target, Steps p.tables e below (B.U.setTop { g with pc := g.pc + 3, stack := v.toList ++ rest }) target → Steps p.tables e below (T.setTop g) target := by
  obtain ⟨mk, methM, hnamed, hmethM, hstM, habM⟩ := Cond.instanceMethod_spec hinst
  obtain ⟨m8, methM', cM, hn8, hmethM', -, -, -, -, -, -, hsigM⟩ := Cond.codeWith_spec hcode
  cases Option.some.inj (hn8.symm.trans hnamed)
  cases hmethM.symm.trans hmethM'
  obtain ⟨c2, r2, m2, q1, q2, q3, q4, kP, hkP, hkPi⟩ := Cond.selects_spec hsel
  cases hcls.symm.trans q1
  cases (State.methodFound?_of_named hnamed hy).symm.trans q2
  cases hnamed.symm.trans q3
  have hselP : selectMethod e.platform s.vm cellB.cls mk = .method mk := by rw [Launch.admits_selectMethod X.admits]; exact q4
  obtain ⟨vm₁, X₁, hstep₁⟩ := X.invokevirtual hexec hown hlink hnamed hmethM hstM hkP hkPi hy (a := b) (cell := cellB) hcell
    (fun z h => by rw [h] at hobj; cases hobj) hselP hmethM habM hkP hkPi (g := g) hg (argsL := argsL) (rest := rest) (hlen _ hsigM) hstack hdg
  obtain ⟨v, B, X', hpost, hsteps⟩ := hK m meth c ⟨T.setVm vm₁, locs, cells, slots⟩ { g with stack := rest } (.invokevirtual index) mk (Value.ref b :: argsL).toArray X₁ hg hsize hdg hW (X₁.named hnamed) (hpre vm₁ X₁.warmed)
  exact ⟨v, vm₁, B, X₁.warmed, X', hpost, fun target h => hstep₁ _ fun acts => by rw [doInvoke_state]; exact hsteps.trans h⟩
abbrev vx_CVW (R : Room) (s : State) (args : Array Value) (own C : String) (index : Nat) (y : MethodName) (bytes : ByteArray) (maxL : Nat) (ret : Option FieldType) (hh : List (Nat × Nat × Nat × Nat)) (ws : List Cond) (rm : Room) (mc ms n : Nat) : Prop :=
  (rm.cells = mc ∧ rm.slots = ms ∧ rm.frames + 1 ≤ R.frames ∧ 8 + (maxL + 11) + rm.locals ≤ R.locals ∧ (∀ w ∈ ws, ∀ (a' : Array Value) (U : State), s.WarmedH U.vm → w.before a' U = true) ∧ Cond.codeWith y bytes maxL ret hh ∈ ws) ∧
  (Cond.codeWith y bytes maxL ret hh).before args s = true ∧ (Cond.initialized y.cls).before args s = true ∧ (y.cls ≠ "java/lang/invoke/MethodHandle" ∧ y.cls ≠ "java/lang/invoke/VarHandle") ∧
  (∀ sig, parseMethodDescriptor y.desc = some sig → n = sig.parameters.length) ∧ (Cond.methodLink own index y).before args s = true ∧ (Cond.instanceMethod y).before args s = true ∧ (Cond.selects C y y).before args s = true
theorem vx_cwVW {own C : String} {index maxL mc ms : Nat} {y : MethodName} {bytes : ByteArray} {ret : Option FieldType} {hh : List (Nat × Nat × Nat × Nat)} {Ts ws ws' : List Cond} {rm : Room} (n : Nat) (ht : ∀ w ∈ Ts, w.before args s = true) (hT : GoodIn Ts (wsV own index C y ws)) (hw : ws = Cond.codeWith y bytes maxL ret hh :: ws') (hrc : rm.cells = mc) (hrs : rm.slots = ms)
    (hd : y.cls = C ∧ y.cls ≠ "java/lang/invoke/MethodHandle" ∧ y.cls ≠ "java/lang/invoke/VarHandle" ∧ (parseMethodDescriptor y.desc).map (fun d => d.parameters.length) = some n) (hR : rm.frames + 1 ≤ R.frames ∧ 8 + (maxL + 11) + rm.locals ≤ R.locals) :
    vx_CVW R s args own C index y bytes maxL ret hh ws rm mc ms n := by
  obtain ⟨hC, hd⟩ := hd
  subst hC
  have ok : ∀ w ∈ wsV own index y.cls y ws, w.before args s = true := fun w h => ht w (hT w h).1
  have hG : GoodIn Ts ws := fun w h => hT w (by unfold wsV; exact List.mem_append_right _ h)
  have hc : Cond.codeWith y bytes maxL ret hh ∈ ws := by rw [hw]; exact List.mem_cons_self
  refine ⟨⟨hrc, hrs, hR.1, hR.2, pay_in ht hG, hc⟩, ht _ (hG _ hc).1, ok _ (by simp [wsV]), ⟨hd.1, hd.2.1⟩, fun sig h => ?_, ok _ (by simp [wsV]), ok _ (by simp [wsV]), ok _ (by simp [wsV])⟩
  have h2 := hd.2.2
  rw [h] at h2
  exact (Option.some.inj h2).symm
theorem vx_runVW {y : MethodName} {bytes cc : ByteArray} {maxL nL mc ms n index : Nat} {ret : Option FieldType} {hh : List (Nat × Nat × Nat × Nat)} {ws : List Cond} {rm : Room} {Pc : Array Value → State → Prop} {Qc : Array Value → State → Outcome → State → Prop} {free : Addr → Prop} {Ts : List Cond} {own C : String} {b : Addr} {As rest : List Value} {g : JFrame}
    (S : CallFix p m c cc nL s args Ts own) (hM : Met l y ws rm Pc Qc mc ms free) (cw : vx_CVW R s args own C index y bytes maxL ret hh ws rm mc ms n) (hp : PreV s H C b Pc As)
    (hg : g.method = m) (hn : As.length = n) (hsize : g.locals.size = nL) (hstack : g.stack = As.reverse ++ .ref b :: rest) (hW : 2 * g.monitorRoom + (rest.map fun v => v.category).sum ≤ 8) (hdg : decode cc g.pc = .ok (.invokevirtual index, 3)) (hf : cells + mc ≤ R.cells ∧ slots + ms ≤ R.slots) :
    va_Run p l e R s m args below meth c H locs cells slots mc ms g rest (Qc (Value.ref b :: As).toArray) free := by
  obtain ⟨⟨hrc, hrs, hfr, hlo, hws, hcw⟩, hcode, hini, hy, hlen, hl, hin, hse⟩ := cw
  have hK : Back l R p e below s args y 3 8 (PreOf R mc ms Pc) (PostOf Qc mc ms free) := va_backW (hh := hh) (bytes := bytes) (maxL := maxL) (ret := ret) hM hp.1 hrc hrs hfr hlo hws hcw (fun a' U hW => word_at hW (Or.inl (by first | rfl | simp [Cond.onTables, Cond.keeps, Cond.steady])) hini)
  obtain ⟨hx, hb, hml, ho, -⟩ := S
  obtain ⟨-, ⟨cellB, hcB, hoB, hclB⟩, hPc⟩ := hp
  intro T hT X
  obtain ⟨v, vm₁, ⟨U', l2, c2, s2⟩, hW₁, X', ⟨g', mk, t, L, e1, e2, hq, h1, hL, h2, h3⟩, st⟩ := vx_callVW X hx (C := C) (hh := hh) (bytes := bytes) (maxL := maxL) (ret := ret) ho hl hin hse hcode hy hK (by rw [hT]; exact hcB) hoB hclB hg (hsize.trans hml.symm) (argsL := As) (rest := rest) (fun sig h => hn.trans (hlen sig h)) hstack hW (by rw [hb]; exact hdg)
    (fun vm₁ hW₁ => ⟨hf.1, hf.2, hPc (T.setVm vm₁) hT hW₁⟩)
  dsimp only [Pt.U, Pt.locs, Pt.cells, Pt.slots] at X' e1 e2 h1 h2 h3 st
  subst h1; subst h2; subst h3
  exact ⟨v, (T.setVm vm₁).calling g' mk (Value.ref b :: As).toArray, t, U', L, hT, X', hL, e1, e2, hq, st⟩
section
variable {y : MethodName} {bytes cc : ByteArray} {maxL nL mc ms n index : Nat} {ret : Option FieldType} {ws : List Cond} {rm : Room} {Pc : Array Value → State → Prop} {Qc : Array Value → State → Outcome → State → Prop} {XC : String → State → State → Prop} {free : Addr → Prop} {Ts : List Cond} {own C : String} {b : Addr} {As rest : List Value} {g : JFrame}
theorem vx_runVX {hh : List (Nat × Nat × Nat × Nat)} (S : CallFix p m c cc nL s args Ts own) (hM : vx_Met l y ws rm Pc Qc XC mc ms free) (cw : vx_CVW R s args own C index y bytes maxL ret hh ws rm mc ms n) (hp : PreV s H C b Pc As)
    (hg : g.method = m) (hn : As.length = n) (hsize : g.locals.size = nL) (hstack : g.stack = As.reverse ++ .ref b :: rest) (hW : 2 * g.monitorRoom + (rest.map fun v => v.category).sum ≤ 8) (hdg : decode cc g.pc = .ok (.invokevirtual index, 3)) (hf : cells + mc ≤ R.cells ∧ slots + ms ≤ R.slots) :
    vx_Run p l e R s m args below meth c H locs cells slots mc ms g rest (Qc (Value.ref b :: As).toArray) XC free := by
  obtain ⟨⟨hrc, hrs, hfr, hlo, hws, hcw⟩, hcode, hini, hy, hlen, hl, hin, hse⟩ := cw
  have hK : vx_Back l R p e below s args y 3 8 (PreOf R mc ms Pc) (PostOf Qc mc ms free) (vx_Post XC mc ms free) := vx_backW (hh := hh) (bytes := bytes) (maxL := maxL) (ret := ret) hM hp.1 hrc hrs hfr hlo hws hcw (fun a' U hW => word_at hW (Or.inl (by first | rfl | simp [Cond.onTables, Cond.keeps, Cond.steady])) hini)
  obtain ⟨hx, hb, hml, ho, -⟩ := S
  obtain ⟨-, ⟨cellB, hcB, hoB, hclB⟩, hPc⟩ := hp
  intro T hT X
  rcases vx_callVX X hx (C := C) (hh := hh) (bytes := bytes) (maxL := maxL) (ret := ret) ho hl hin hse hcode hy hK (by rw [hT]; exact hcB) hoB hclB hg (hsize.trans hml.symm) (argsL := As) (rest := rest) (fun sig h => hn.trans (hlen sig h)) hstack hW (by rw [hb]; exact hdg)
    (fun vm₁ hW₁ => ⟨hf.1, hf.2, hPc (T.setVm vm₁) hT hW₁⟩) with ⟨v, vm₁, ⟨U', l2, c2, s2⟩, hW₁, X', ⟨g', mk, t, L, e1, e2, hq, h1, hL, h2, h3⟩, st⟩ | ⟨q, vm₁, ⟨U', l2, c2, s2⟩, hW₁, X', ⟨g', mk, t, L, E, ce, e1, e2, hq, hce, hcv, hcl, h1, hL, h2, h3⟩, st⟩
  · dsimp only [Pt.U, Pt.locs, Pt.cells, Pt.slots] at X' e1 e2 h1 h2 h3 st
    subst h1; subst h2; subst h3
    exact Or.inl ⟨v, (T.setVm vm₁).calling g' mk (Value.ref b :: As).toArray, t, U', L, hT, X', hL, e1, e2, hq, st⟩
  · dsimp only [Pt.U, Pt.locs, Pt.cells, Pt.slots] at X' e1 e2 h1 h2 h3 st hcl
    subst h1; subst h2; subst h3
    exact Or.inr ⟨q, (T.setVm vm₁).calling g' mk (Value.ref b :: As).toArray, t, U', L, E, ce, hT, X', hL, e1, e2, hq, hce, hcv, vx_cls hW₁ hcl, st⟩
theorem vx_runSX {hh : List (Nat × Nat × Nat × Nat)} (S : CallFix p m c cc nL s args Ts own) (hM : vx_Met l y ws rm Pc Qc XC mc ms free) (cw : vx_CSW R s args own index y bytes maxL ret hh ws rm mc ms n) (hp : PreS s H Pc As)
    (hg : g.method = m) (hn : As.length = n) (hsize : g.locals.size = nL) (hstack : g.stack = As.reverse ++ rest) (hW : 2 * g.monitorRoom + (rest.map fun v => v.category).sum ≤ 8) (hdg : decode cc g.pc = .ok (.invokestatic index, 3)) (hf : cells + mc ≤ R.cells ∧ slots + ms ≤ R.slots) :
    vx_Run p l e R s m args below meth c H locs cells slots mc ms g rest (Qc As.toArray) XC free := by
  obtain ⟨⟨hrc, hrs, hfr, hlo, hws, hcw⟩, hcode, hini, hy, hlen, hl, hstt⟩ := cw
  have hK : vx_Back l R p e below s args y 3 8 (PreOf R mc ms Pc) (PostOf Qc mc ms free) (vx_Post XC mc ms free) := vx_backW (hh := hh) (bytes := bytes) (maxL := maxL) (ret := ret) hM hp.1 hrc hrs hfr hlo hws hcw (fun a' U hW => word_at hW (Or.inl (by first | rfl | simp [Cond.onTables, Cond.keeps, Cond.steady])) hini)
  obtain ⟨hx, hb, hml, ho, -⟩ := S
  intro T hT X
  rcases vx_callSX X hx (hh := hh) (bytes := bytes) (maxL := maxL) (ret := ret) ho hl hstt hini hcode hy hK hg (hsize.trans hml.symm) (argsL := As) (rest := rest) (fun sig h => hn.trans (hlen sig h)) hstack hW (by rw [hb]; exact hdg)
    (fun vm₁ hW₁ => ⟨hf.1, hf.2, hp.2 (T.setVm vm₁) hT hW₁⟩) with ⟨v, vm₁, ⟨U', l2, c2, s2⟩, hW₁, X', ⟨g', mk, t, L, e1, e2, hq, h1, hL, h2, h3⟩, st⟩ | ⟨q, vm₁, ⟨U', l2, c2, s2⟩, hW₁, X', ⟨g', mk, t, L, E, ce, e1, e2, hq, hce, hcv, hcl, h1, hL, h2, h3⟩, st⟩
  · dsimp only [Pt.U, Pt.locs, Pt.cells, Pt.slots] at X' e1 e2 h1 h2 h3 st
    subst h1; subst h2; subst h3
    exact Or.inl ⟨v, (T.setVm vm₁).calling g' mk As.toArray, t, U', L, hT, X', hL, e1, e2, hq, st⟩
  · dsimp only [Pt.U, Pt.locs, Pt.cells, Pt.slots] at X' e1 e2 h1 h2 h3 st hcl
    subst h1; subst h2; subst h3
    exact Or.inr ⟨q, (T.setVm vm₁).calling g' mk As.toArray, t, U', L, E, ce, hT, X', hL, e1, e2, hq, hce, hcv, vx_cls hW₁ hcl, st⟩
end
end VXH
theorem vx_ofWH {l : Launch} {y : MethodName} {ws ws' : List Cond} {rm : Room} {Pc : Array Value → State → Prop} {Qc : Array Value → State → Outcome → State → Prop} {XC : String → State → State → Prop} {mc ms : Nat} {free : Addr → Prop} {cc : ByteArray} {maxL : Nat} {ret : Option FieldType} {hh : List (Nat × Nat × Nat × Nat)}
    (hy : plainName y.cls = true) (hw : ws = Cond.codeWith y cc maxL ret hh :: ws')
    (body : ∀ p e s m args below meth c s₁, BodyLoose p l y (headSpec ws rm) cc maxL ret e s m args below meth c s₁ → c.maxLocals = maxL → Pc args s →
      W p l e (headSpec ws rm).room s m args below meth c s.heap [] 0 0 (vx_MQ below Qc XC args s mc ms free) (entryFrame m args maxL)) : vx_Met l y ws rm Pc Qc XC mc ms free := by
  refine MetFree.of_bodyS (code := cc) (maxLocals := maxL) (ret := ret) hy ?_ ?_
  · intro args s m h hn
    obtain ⟨m9, meth, c, hn9, h1, h2, h3, h4, -, h5, h6, -⟩ := Cond.codeWith_spec (atoms_spec (ws := ws) h _ (by rw [hw]; exact List.mem_cons_self))
    cases hn.symm.trans hn9
    exact ⟨meth, c, h1, h2, h3, h4, h5, h6⟩
  · intro p e s m args below meth c s₁ B hml hP _
    have hh0 : s₁.heap = s.heap := by rw [B.state]; rfl
    obtain ⟨t, a1, o, b1, b2, b3⟩ := body p e s m args below meth c s₁ B hml hP s₁ hh0 (Stand.of_body B)
    exact ⟨t, o, a1, b1, b2, b3⟩
/-! ===== END ===== -/

def RX0 : String := "TunnelControlDesk$History"
def TX0 : u_T := fun k => match k with
  | 0 => ("TunnelControlDesk$History", "count", "I", false)
  | 1 => ("TunnelControlDesk$History", "next", "I", false)
  | _ => ("TunnelControlDesk$History", "saved", "[LTunnelControlDesk$Tunnel;", true)
def tyX0 : Nat → FieldType := fun k => match k with
  | 0 => .int
  | 1 => .int
  | _ => .array (.object "TunnelControlDesk$Tunnel")
abbrev wsX00 : List Cond := u_ws RX0 TX0 3
theorem nmX0 : ∀ a, a < 3 → ∀ b, b < 3 → a ≠ b → (TX0 a).2.1 ≠ (TX0 b).2.1 := by decide +kernel
theorem tyX0_ok : ∀ k, k < 3 → parseFieldDescriptor (TX0 k).2.2.1 = some (tyX0 k) := by decide +kernel
abbrev cX0_init : ByteArray := prog_2_method_1_code
def yX0_init : MethodName := ⟨RX0, "<init>", "(LTunnelControlDesk$Plan;)V"⟩
abbrev cX0_save : ByteArray := prog_2_method_2_code
def yX0_save : MethodName := ⟨RX0, "save", "(LTunnelControlDesk$Tunnel;)V"⟩
abbrev cX0_restore : ByteArray := prog_2_method_3_code
def yX0_restore : MethodName := ⟨RX0, "restore", "(LTunnelControlDesk$Tunnel;)V"⟩
def RX1 : String := "TunnelControlDesk$Input"
def TX1 : u_T := fun k => match k with
  | 0 => ("TunnelControlDesk$Input", "size", "I", false)
  | 1 => ("TunnelControlDesk$Input", "kind", "I", false)
  | 2 => ("TunnelControlDesk$Input", "start", "I", false)
  | 3 => ("TunnelControlDesk$Input", "value", "I", false)
  | 4 => ("TunnelControlDesk$Input", "next", "I", false)
  | 5 => ("TunnelControlDesk$Input", "length", "I", false)
  | _ => ("TunnelControlDesk$Input", "bytes", "[B", true)
def tyX1 : Nat → FieldType := fun k => match k with
  | 0 => .int
  | 1 => .int
  | 2 => .int
  | 3 => .int
  | 4 => .int
  | 5 => .int
  | _ => .array .byte
abbrev wsX10 : List Cond := u_ws RX1 TX1 7
theorem nmX1 : ∀ a, a < 7 → ∀ b, b < 7 → a ≠ b → (TX1 a).2.1 ≠ (TX1 b).2.1 := by decide +kernel
theorem tyX1_ok : ∀ k, k < 7 → parseFieldDescriptor (TX1 k).2.2.1 = some (tyX1 k) := by decide +kernel
abbrev cX1_init : ByteArray := prog_3_method_1_code
def yX1_init : MethodName := ⟨RX1, "<init>", "()V"⟩
abbrev cX1_putWord : ByteArray := prog_3_method_2_code
def yX1_putWord : MethodName := ⟨RX1, "putWord", "(I)V"⟩
abbrev cX1_begin : ByteArray := prog_3_method_3_code
def yX1_begin : MethodName := ⟨RX1, "begin", "(I)V"⟩
abbrev cX1_advance : ByteArray := prog_3_method_4_code
def yX1_advance : MethodName := ⟨RX1, "advance", "()V"⟩
abbrev cX1_isWord : ByteArray := prog_3_method_5_code
def yX1_isWord : MethodName := ⟨RX1, "isWord", "(Ljava/lang/String;)Z"⟩
def RX2 : String := "TunnelControlDesk$Plan"
def TX2 : u_T := fun k => match k with
  | 0 => ("TunnelControlDesk$Plan", "sections", "I", false)
  | 1 => ("TunnelControlDesk$Plan", "capacity", "I", false)
  | 2 => ("TunnelControlDesk$Plan", "draft", "I", false)
  | 3 => ("TunnelControlDesk$Plan", "cars", "I", false)
  | 4 => ("TunnelControlDesk$Plan", "vent", "[I", true)
  | 5 => ("TunnelControlDesk$Plan", "hasFan", "[Z", true)
  | _ => ("TunnelControlDesk$Plan", "rateProgram", "LTunnelControlDesk$RateProgram;", false)
def tyX2 : Nat → FieldType := fun k => match k with
  | 0 => .int
  | 1 => .int
  | 2 => .int
  | 3 => .int
  | 4 => .array .int
  | 5 => .array .boolean
  | _ => .object "TunnelControlDesk$RateProgram"
abbrev wsX20 : List Cond := u_ws RX2 TX2 7
theorem nmX2 : ∀ a, a < 7 → ∀ b, b < 7 → a ≠ b → (TX2 a).2.1 ≠ (TX2 b).2.1 := by decide +kernel
theorem tyX2_ok : ∀ k, k < 7 → parseFieldDescriptor (TX2 k).2.2.1 = some (tyX2 k) := by decide +kernel
abbrev cX2_init : ByteArray := prog_4_method_1_code
def yX2_init : MethodName := ⟨RX2, "<init>", "()V"⟩
def RX3 : String := "TunnelControlDesk$RateProgram"
def TX3 : u_T := fun k => match k with
  | 0 => ("TunnelControlDesk$RateProgram", "codes", "[I", true)
  | _ => ("TunnelControlDesk$RateProgram", "stack", "[J", true)
def tyX3 : Nat → FieldType := fun k => match k with
  | 0 => .array .int
  | _ => .array .long
abbrev wsX30 : List Cond := u_ws RX3 TX3 2
theorem nmX3 : ∀ a, a < 2 → ∀ b, b < 2 → a ≠ b → (TX3 a).2.1 ≠ (TX3 b).2.1 := by decide +kernel
theorem tyX3_ok : ∀ k, k < 2 → parseFieldDescriptor (TX3 k).2.2.1 = some (tyX3 k) := by decide +kernel
abbrev cX3_init : ByteArray := prog_5_method_1_code
def yX3_init : MethodName := ⟨RX3, "<init>", "([I)V"⟩
abbrev cX3_valueAt : ByteArray := prog_5_method_2_code
def yX3_valueAt : MethodName := ⟨RX3, "valueAt", "(III)J"⟩
abbrev cX3_operand : ByteArray := prog_5_method_3_code
def yX3_operand : MethodName := ⟨RX3, "operand", "(IIII)J"⟩
abbrev cX3_result : ByteArray := prog_5_method_4_code
def yX3_result : MethodName := ⟨RX3, "result", "(IJJ)J"⟩
def RX4 : String := "TunnelControlDesk$SetupReader"
def TX4 : u_T := fun k => match k with
  | 0 => ("TunnelControlDesk$SetupReader", "input", "LTunnelControlDesk$Input;", true)
  | 1 => ("TunnelControlDesk$SetupReader", "tunnel", "LTunnelControlDesk$Tunnel;", true)
  | 2 => ("TunnelControlDesk$SetupReader", "errorCode", "I", false)
  | 3 => ("TunnelControlDesk$SetupReader", "errorOffset", "I", false)
  | 4 => ("TunnelControlDesk$SetupReader", "number", "I", false)
  | 5 => ("TunnelControlDesk$SetupReader", "numberOffset", "I", false)
  | 6 => ("TunnelControlDesk$SetupReader", "way", "I", false)
  | 7 => ("TunnelControlDesk$SetupReader", "bays", "I", false)
  | 8 => ("TunnelControlDesk$SetupReader", "fireRead", "Z", false)
  | 9 => ("TunnelControlDesk$SetupReader", "draftRead", "Z", false)
  | 10 => ("TunnelControlDesk$SetupReader", "rateRead", "Z", false)
  | 11 => ("TunnelControlDesk$SetupReader", "codeCount", "I", false)
  | _ => ("TunnelControlDesk$SetupReader", "codes", "[I", true)
def tyX4 : Nat → FieldType := fun k => match k with
  | 0 => .object "TunnelControlDesk$Input"
  | 1 => .object "TunnelControlDesk$Tunnel"
  | 2 => .int
  | 3 => .int
  | 4 => .int
  | 5 => .int
  | 6 => .int
  | 7 => .int
  | 8 => .boolean
  | 9 => .boolean
  | 10 => .boolean
  | 11 => .int
  | _ => .array .int
abbrev wsX40 : List Cond := u_ws RX4 TX4 13
theorem nmX4 : ∀ a, a < 13 → ∀ b, b < 13 → a ≠ b → (TX4 a).2.1 ≠ (TX4 b).2.1 := by decide +kernel
theorem tyX4_ok : ∀ k, k < 13 → parseFieldDescriptor (TX4 k).2.2.1 = some (tyX4 k) := by decide +kernel
abbrev cX4_init : ByteArray := prog_6_method_1_code
def yX4_init : MethodName := ⟨RX4, "<init>", "(LTunnelControlDesk$Plan;)V"⟩
abbrev cX4_readSetup : ByteArray := prog_6_method_2_code
def yX4_readSetup : MethodName := ⟨RX4, "readSetup", "(I)Z"⟩
abbrev cX4_readTunnel : ByteArray := prog_6_method_3_code
def yX4_readTunnel : MethodName := ⟨RX4, "readTunnel", "()Z"⟩
abbrev cX4_readStatement : ByteArray := prog_6_method_4_code
def yX4_readStatement : MethodName := ⟨RX4, "readStatement", "()Z"⟩
abbrev cX4_readBay : ByteArray := prog_6_method_5_code
def yX4_readBay : MethodName := ⟨RX4, "readBay", "()Z"⟩
abbrev cX4_readVent : ByteArray := prog_6_method_6_code
def yX4_readVent : MethodName := ⟨RX4, "readVent", "()Z"⟩
abbrev cX4_readFan : ByteArray := prog_6_method_7_code
def yX4_readFan : MethodName := ⟨RX4, "readFan", "()Z"⟩
abbrev cX4_readCar : ByteArray := prog_6_method_8_code
def yX4_readCar : MethodName := ⟨RX4, "readCar", "()Z"⟩
abbrev cX4_readFire : ByteArray := prog_6_method_9_code
def yX4_readFire : MethodName := ⟨RX4, "readFire", "()Z"⟩
abbrev cX4_readDraft : ByteArray := prog_6_method_10_code
def yX4_readDraft : MethodName := ⟨RX4, "readDraft", "()Z"⟩
abbrev cX4_readRed : ByteArray := prog_6_method_11_code
def yX4_readRed : MethodName := ⟨RX4, "readRed", "()Z"⟩
abbrev cX4_beginRate : ByteArray := prog_6_method_12_code
def yX4_beginRate : MethodName := ⟨RX4, "beginRate", "()Z"⟩
abbrev cX4_endRate : ByteArray := prog_6_method_13_code
def yX4_endRate : MethodName := ⟨RX4, "endRate", "()Z"⟩
abbrev cX4_readSum : ByteArray := prog_6_method_14_code
def yX4_readSum : MethodName := ⟨RX4, "readSum", "(I)Z"⟩
abbrev cX4_readTerm : ByteArray := prog_6_method_15_code
def yX4_readTerm : MethodName := ⟨RX4, "readTerm", "(I)Z"⟩
abbrev cX4_readFactor : ByteArray := prog_6_method_16_code
def yX4_readFactor : MethodName := ⟨RX4, "readFactor", "(I)Z"⟩
abbrev cX4_putCode : ByteArray := prog_6_method_17_code
def yX4_putCode : MethodName := ⟨RX4, "putCode", "(I)V"⟩
abbrev cX4_readSection : ByteArray := prog_6_method_18_code
def yX4_readSection : MethodName := ⟨RX4, "readSection", "()Z"⟩
abbrev cX4_readSetting : ByteArray := prog_6_method_19_code
def yX4_readSetting : MethodName := ⟨RX4, "readSetting", "(I)Z"⟩
abbrev cX4_readNumber : ByteArray := prog_6_method_20_code
def yX4_readNumber : MethodName := ⟨RX4, "readNumber", "(II)Z"⟩
abbrev cX4_readWay : ByteArray := prog_6_method_21_code
def yX4_readWay : MethodName := ⟨RX4, "readWay", "()Z"⟩
abbrev cX4_readSign : ByteArray := prog_6_method_22_code
def yX4_readSign : MethodName := ⟨RX4, "readSign", "(I)Z"⟩
abbrev cX4_fail : ByteArray := prog_6_method_23_code
def yX4_fail : MethodName := ⟨RX4, "fail", "(II)Z"⟩
def RX5 : String := "TunnelControlDesk$Tunnel"
def TX5 : u_T := fun k => match k with
  | 0 => ("TunnelControlDesk$Tunnel", "plan", "LTunnelControlDesk$Plan;", false)
  | 1 => ("TunnelControlDesk$Tunnel", "clock", "I", false)
  | 2 => ("TunnelControlDesk$Tunnel", "fire", "I", false)
  | 3 => ("TunnelControlDesk$Tunnel", "inside", "I", false)
  | 4 => ("TunnelControlDesk$Tunnel", "smokeLeft", "J", false)
  | 5 => ("TunnelControlDesk$Tunnel", "smokeRemoved", "J", false)
  | 6 => ("TunnelControlDesk$Tunnel", "smoke", "[J", true)
  | 7 => ("TunnelControlDesk$Tunnel", "fan", "[I", true)
  | 8 => ("TunnelControlDesk$Tunnel", "bay", "[I", true)
  | 9 => ("TunnelControlDesk$Tunnel", "red", "[Z", true)
  | 10 => ("TunnelControlDesk$Tunnel", "laneCars", "[I", true)
  | 11 => ("TunnelControlDesk$Tunnel", "carSection", "[I", true)
  | 12 => ("TunnelControlDesk$Tunnel", "carDirection", "[I", true)
  | _ => ("TunnelControlDesk$Tunnel", "exposure", "[J", true)
def tyX5 : Nat → FieldType := fun k => match k with
  | 0 => .object "TunnelControlDesk$Plan"
  | 1 => .int
  | 2 => .int
  | 3 => .int
  | 4 => .long
  | 5 => .long
  | 6 => .array .long
  | 7 => .array .int
  | 8 => .array .int
  | 9 => .array .boolean
  | 10 => .array .int
  | 11 => .array .int
  | 12 => .array .int
  | _ => .array .long
abbrev wsX50 : List Cond := u_ws RX5 TX5 14
theorem nmX5 : ∀ a, a < 14 → ∀ b, b < 14 → a ≠ b → (TX5 a).2.1 ≠ (TX5 b).2.1 := by decide +kernel
theorem tyX5_ok : ∀ k, k < 14 → parseFieldDescriptor (TX5 k).2.2.1 = some (tyX5 k) := by decide +kernel
abbrev cX5_init : ByteArray := prog_7_method_1_code
def yX5_init : MethodName := ⟨RX5, "<init>", "(LTunnelControlDesk$Plan;)V"⟩
abbrev cX5_clear : ByteArray := prog_7_method_2_code
def yX5_clear : MethodName := ⟨RX5, "clear", "(LTunnelControlDesk$Plan;)V"⟩
abbrev cX5_copyFrom : ByteArray := prog_7_method_3_code
def yX5_copyFrom : MethodName := ⟨RX5, "copyFrom", "(LTunnelControlDesk$Tunnel;)V"⟩
abbrev cX5_hasRoom : ByteArray := prog_7_method_4_code
def yX5_hasRoom : MethodName := ⟨RX5, "hasRoom", "(II)Z"⟩
abbrev cX5_addCar : ByteArray := prog_7_method_5_code
def yX5_addCar : MethodName := ⟨RX5, "addCar", "(II)V"⟩
abbrev cX5_airFlow : ByteArray := prog_7_method_6_code
def yX5_airFlow : MethodName := ⟨RX5, "airFlow", "()I"⟩
abbrev cX5_fireRate : ByteArray := prog_7_method_7_code
def yX5_fireRate : MethodName := ⟨RX5, "fireRate", "()I"⟩
abbrev cX5_smokeInside : ByteArray := prog_7_method_8_code
def yX5_smokeInside : MethodName := ⟨RX5, "smokeInside", "()J"⟩
abbrev cX5_tick : ByteArray := prog_7_method_9_code
def yX5_tick : MethodName := ⟨RX5, "tick", "()V"⟩
abbrev cX5_moveSmoke : ByteArray := prog_7_method_10_code
def yX5_moveSmoke : MethodName := ⟨RX5, "moveSmoke", "(I)V"⟩
abbrev cX5_moveCars : ByteArray := prog_7_method_11_code
def yX5_moveCars : MethodName := ⟨RX5, "moveCars", "()Z"⟩
abbrev cX5_driveLanes : ByteArray := prog_7_method_12_code
def yX5_driveLanes : MethodName := ⟨RX5, "driveLanes", "(I)I"⟩
abbrev cX5_driveCar : ByteArray := prog_7_method_13_code
def yX5_driveCar : MethodName := ⟨RX5, "driveCar", "(III)Z"⟩
abbrev cX5_turnCars : ByteArray := prog_7_method_14_code
def yX5_turnCars : MethodName := ⟨RX5, "turnCars", "(I)Z"⟩
abbrev cX5_isFireAhead : ByteArray := prog_7_method_15_code
def yX5_isFireAhead : MethodName := ⟨RX5, "isFireAhead", "(II)Z"⟩
abbrev cX5_exposeCars : ByteArray := prog_7_method_16_code
def yX5_exposeCars : MethodName := ⟨RX5, "exposeCars", "()V"⟩
abbrev cX5_ticksUntilClear : ByteArray := prog_7_method_17_code
def yX5_ticksUntilClear : MethodName := ⟨RX5, "ticksUntilClear", "(I)I"⟩
abbrev cX5_baySet : ByteArray := prog_7_method_18_code
def yX5_baySet : MethodName := ⟨RX5, "baySet", "()I"⟩
abbrev cX5_openExactly : ByteArray := prog_7_method_19_code
def yX5_openExactly : MethodName := ⟨RX5, "openExactly", "(I)V"⟩
abbrev cX5_setAllFans : ByteArray := prog_7_method_20_code
def yX5_setAllFans : MethodName := ⟨RX5, "setAllFans", "(I)V"⟩
abbrev cX5_exposureIncrease : ByteArray := prog_7_method_21_code
def yX5_exposureIncrease : MethodName := ⟨RX5, "exposureIncrease", "(I)J"⟩
abbrev cX5_exposureSum : ByteArray := prog_7_method_22_code
def yX5_exposureSum : MethodName := ⟨RX5, "exposureSum", "()J"⟩
def RX6 : String := "TunnelControlDesk"
def TX6 : u_T := fun k => match k with
  | 0 => ("TunnelControlDesk", "reader", "LTunnelControlDesk$SetupReader;", true)
  | 1 => ("TunnelControlDesk", "history", "LTunnelControlDesk$History;", true)
  | 2 => ("TunnelControlDesk", "current", "LTunnelControlDesk$Tunnel;", true)
  | 3 => ("TunnelControlDesk", "trial", "LTunnelControlDesk$Tunnel;", true)
  | _ => ("TunnelControlDesk", "latestErrorOffset", "I", false)
def tyX6 : Nat → FieldType := fun k => match k with
  | 0 => .object "TunnelControlDesk$SetupReader"
  | 1 => .object "TunnelControlDesk$History"
  | 2 => .object "TunnelControlDesk$Tunnel"
  | 3 => .object "TunnelControlDesk$Tunnel"
  | _ => .int
abbrev wsX60 : List Cond := u_ws RX6 TX6 5
theorem nmX6 : ∀ a, a < 5 → ∀ b, b < 5 → a ≠ b → (TX6 a).2.1 ≠ (TX6 b).2.1 := by decide +kernel
theorem tyX6_ok : ∀ k, k < 5 → parseFieldDescriptor (TX6 k).2.2.1 = some (tyX6 k) := by decide +kernel
abbrev cX6_init : ByteArray := prog_1_method_1_code
def yX6_init : MethodName := ⟨RX6, "<init>", "()V"⟩
abbrev cX6_append : ByteArray := prog_1_method_2_code
def yX6_append : MethodName := ⟨RX6, "append", "(IIIII)I"⟩
abbrev cX6_load : ByteArray := prog_1_method_3_code
def yX6_load : MethodName := ⟨RX6, "load", "(I)I"⟩
abbrev cX6_errorOffset : ByteArray := prog_1_method_4_code
def yX6_errorOffset : MethodName := ⟨RX6, "errorOffset", "()I"⟩
abbrev cX6_sectionCount : ByteArray := prog_1_method_5_code
def yX6_sectionCount : MethodName := ⟨RX6, "sectionCount", "()I"⟩
abbrev cX6_carCount : ByteArray := prog_1_method_6_code
def yX6_carCount : MethodName := ⟨RX6, "carCount", "()I"⟩
abbrev cX6_clock : ByteArray := prog_1_method_7_code
def yX6_clock : MethodName := ⟨RX6, "clock", "()I"⟩
abbrev cX6_flow : ByteArray := prog_1_method_8_code
def yX6_flow : MethodName := ⟨RX6, "flow", "()I"⟩
abbrev cX6_rate : ByteArray := prog_1_method_9_code
def yX6_rate : MethodName := ⟨RX6, "rate", "()I"⟩
abbrev cX6_fireSection : ByteArray := prog_1_method_10_code
def yX6_fireSection : MethodName := ⟨RX6, "fireSection", "()I"⟩
abbrev cX6_smoke : ByteArray := prog_1_method_11_code
def yX6_smoke : MethodName := ⟨RX6, "smoke", "(I)I"⟩
abbrev cX6_total : ByteArray := prog_1_method_12_code
def yX6_total : MethodName := ⟨RX6, "total", "(I)J"⟩
abbrev cX6_fan : ByteArray := prog_1_method_13_code
def yX6_fan : MethodName := ⟨RX6, "fan", "(I)I"⟩
abbrev cX6_bay : ByteArray := prog_1_method_14_code
def yX6_bay : MethodName := ⟨RX6, "bay", "(I)I"⟩
abbrev cX6_isRed : ByteArray := prog_1_method_15_code
def yX6_isRed : MethodName := ⟨RX6, "isRed", "(II)Z"⟩
abbrev cX6_carSection : ByteArray := prog_1_method_16_code
def yX6_carSection : MethodName := ⟨RX6, "carSection", "(I)I"⟩
abbrev cX6_carDirection : ByteArray := prog_1_method_17_code
def yX6_carDirection : MethodName := ⟨RX6, "carDirection", "(I)I"⟩
abbrev cX6_exposure : ByteArray := prog_1_method_18_code
def yX6_exposure : MethodName := ⟨RX6, "exposure", "(I)J"⟩
abbrev cX6_carsIn : ByteArray := prog_1_method_19_code
def yX6_carsIn : MethodName := ⟨RX6, "carsIn", "(II)I"⟩
abbrev cX6_inside : ByteArray := prog_1_method_20_code
def yX6_inside : MethodName := ⟨RX6, "inside", "()I"⟩
abbrev cX6_clearingTime : ByteArray := prog_1_method_21_code
def yX6_clearingTime : MethodName := ⟨RX6, "clearingTime", "(I)I"⟩
abbrev cX6_bestBays : ByteArray := prog_1_method_22_code
def yX6_bestBays : MethodName := ⟨RX6, "bestBays", "()I"⟩
abbrev cX6_bestBayTime : ByteArray := prog_1_method_23_code
def yX6_bestBayTime : MethodName := ⟨RX6, "bestBayTime", "()I"⟩
abbrev cX6_exposureWith : ByteArray := prog_1_method_24_code
def yX6_exposureWith : MethodName := ⟨RX6, "exposureWith", "(II)J"⟩
abbrev cX6_bestSetting : ByteArray := prog_1_method_25_code
def yX6_bestSetting : MethodName := ⟨RX6, "bestSetting", "(I)I"⟩
abbrev cX6_run : ByteArray := prog_1_method_26_code
def yX6_run : MethodName := ⟨RX6, "run", "(I)I"⟩
abbrev cX6_setFan : ByteArray := prog_1_method_27_code
def yX6_setFan : MethodName := ⟨RX6, "setFan", "(II)I"⟩
abbrev cX6_setFire : ByteArray := prog_1_method_28_code
def yX6_setFire : MethodName := ⟨RX6, "setFire", "(I)I"⟩
abbrev cX6_setSignal : ByteArray := prog_1_method_29_code
def yX6_setSignal : MethodName := ⟨RX6, "setSignal", "(IIZ)Z"⟩
abbrev cX6_setBay : ByteArray := prog_1_method_30_code
def yX6_setBay : MethodName := ⟨RX6, "setBay", "(IZ)Z"⟩
abbrev cX6_undo : ByteArray := prog_1_method_31_code
def yX6_undo : MethodName := ⟨RX6, "undo", "()I"⟩
abbrev cX6_checksum : ByteArray := prog_1_method_32_code
def yX6_checksum : MethodName := ⟨RX6, "checksum", "()J"⟩
abbrev cX6_requireSection : ByteArray := prog_1_method_33_code
def yX6_requireSection : MethodName := ⟨RX6, "requireSection", "(I)V"⟩
abbrev cX6_requireCar : ByteArray := prog_1_method_34_code
def yX6_requireCar : MethodName := ⟨RX6, "requireCar", "(I)V"⟩
abbrev cX6_requireFan : ByteArray := prog_1_method_35_code
def yX6_requireFan : MethodName := ⟨RX6, "requireFan", "(I)V"⟩
abbrev cX6_requireDirection : ByteArray := prog_1_method_36_code
def yX6_requireDirection : MethodName := ⟨RX6, "requireDirection", "(I)V"⟩
abbrev cX6_laneIndex : ByteArray := prog_1_method_37_code
def yX6_laneIndex : MethodName := ⟨RX6, "laneIndex", "(II)I"⟩
def RX7 : String := "TunnelControlDeskModel"
def TX7 : u_T := fun k => match k with
  | 0 => ("TunnelControlDeskModel", "thrown", "I", false)
  | 1 => ("TunnelControlDeskModel", "buffer", "[I", true)
  | 2 => ("TunnelControlDeskModel", "bufferLength", "I", false)
  | 3 => ("TunnelControlDeskModel", "textLength", "I", false)
  | 4 => ("TunnelControlDeskModel", "position", "I", false)
  | 5 => ("TunnelControlDeskModel", "error", "I", false)
  | 6 => ("TunnelControlDeskModel", "errorAt", "I", false)
  | 7 => ("TunnelControlDeskModel", "errorOffset", "I", false)
  | 8 => ("TunnelControlDeskModel", "data", "[I", true)
  | 9 => ("TunnelControlDeskModel", "draft", "[I", true)
  | 10 => ("TunnelControlDeskModel", "future", "[I", true)
  | 11 => ("TunnelControlDeskModel", "history", "[[I", true)
  | 12 => ("TunnelControlDeskModel", "undoDepth", "I", false)
  | 13 => ("TunnelControlDeskModel", "numberStart", "I", false)
  | 14 => ("TunnelControlDeskModel", "nesting", "I", false)
  | 15 => ("TunnelControlDeskModel", "seen", "I", false)
  | 16 => ("TunnelControlDeskModel", "bays", "I", false)
  | 17 => ("TunnelControlDeskModel", "stack", "[J", true)
  | 18 => ("TunnelControlDeskModel", "rests", "[I", true)
  | 19 => ("TunnelControlDeskModel", "stayed", "[Z", true)
  | 20 => ("TunnelControlDeskModel", "driven", "[Z", true)
  | 21 => ("TunnelControlDeskModel", "bestSet", "I", false)
  | _ => ("TunnelControlDeskModel", "bestTime", "I", false)
def tyX7 : Nat → FieldType := fun k => match k with
  | 0 => .int
  | 1 => .array .int
  | 2 => .int
  | 3 => .int
  | 4 => .int
  | 5 => .int
  | 6 => .int
  | 7 => .int
  | 8 => .array .int
  | 9 => .array .int
  | 10 => .array .int
  | 11 => .array (.array .int)
  | 12 => .int
  | 13 => .int
  | 14 => .int
  | 15 => .int
  | 16 => .int
  | 17 => .array .long
  | 18 => .array .int
  | 19 => .array .boolean
  | 20 => .array .boolean
  | 21 => .int
  | _ => .int
abbrev wsX70 : List Cond := u_ws RX7 TX7 23
theorem nmX7 : ∀ a, a < 23 → ∀ b, b < 23 → a ≠ b → (TX7 a).2.1 ≠ (TX7 b).2.1 := by decide +kernel
theorem tyX7_ok : ∀ k, k < 23 → parseFieldDescriptor (TX7 k).2.2.1 = some (tyX7 k) := by decide +kernel
abbrev cX7_init : ByteArray := prog_9_method_1_code
def yX7_init : MethodName := ⟨RX7, "<init>", "()V"⟩
abbrev cX7_thrown : ByteArray := prog_9_method_2_code
def yX7_thrown : MethodName := ⟨RX7, "thrown", "()I"⟩
abbrev cX7_fails : ByteArray := prog_9_method_3_code
def yX7_fails : MethodName := ⟨RX7, "fails", "(ZI)Z"⟩
abbrev cX7_in : ByteArray := prog_9_method_4_code
def yX7_in : MethodName := ⟨RX7, "in", "(III)Z"⟩
abbrev cX7_min : ByteArray := prog_9_method_5_code
def yX7_min : MethodName := ⟨RX7, "min", "(II)I"⟩
abbrev cX7_copy : ByteArray := prog_9_method_6_code
def yX7_copy : MethodName := ⟨RX7, "copy", "([I[I)V"⟩
abbrev cX7_section : ByteArray := prog_9_method_7_code
def yX7_section : MethodName := ⟨RX7, "section", "(I)I"⟩
abbrev cX7_car : ByteArray := prog_9_method_8_code
def yX7_car : MethodName := ⟨RX7, "car", "(I)I"⟩
abbrev cX7_append : ByteArray := prog_9_method_9_code
def yX7_append : MethodName := ⟨RX7, "append", "(IIIII)I"⟩
abbrev cX7_byteAt : ByteArray := prog_9_method_10_code
def yX7_byteAt : MethodName := ⟨RX7, "byteAt", "(I)I"⟩
abbrev cX7_next : ByteArray := prog_9_method_11_code
def yX7_next : MethodName := ⟨RX7, "next", "()I"⟩
abbrev cX7_isGood : ByteArray := prog_9_method_12_code
def yX7_isGood : MethodName := ⟨RX7, "isGood", "()Z"⟩
abbrev cX7_report : ByteArray := prog_9_method_13_code
def yX7_report : MethodName := ⟨RX7, "report", "(II)V"⟩
abbrev cX7_isDigit : ByteArray := prog_9_method_14_code
def yX7_isDigit : MethodName := ⟨RX7, "isDigit", "(I)Z"⟩
abbrev cX7_takeWord : ByteArray := prog_9_method_15_code
def yX7_takeWord : MethodName := ⟨RX7, "takeWord", "(Ljava/lang/String;)Z"⟩
abbrev cX7_expect : ByteArray := prog_9_method_16_code
def yX7_expect : MethodName := ⟨RX7, "expect", "(I)V"⟩
abbrev cX7_number : ByteArray := prog_9_method_17_code
def yX7_number : MethodName := ⟨RX7, "number", "(II)I"⟩
abbrev cX7_setting : ByteArray := prog_9_method_18_code
def yX7_setting : MethodName := ⟨RX7, "setting", "(I)I"⟩
abbrev cX7_way : ByteArray := prog_9_method_19_code
def yX7_way : MethodName := ⟨RX7, "way", "()I"⟩
abbrev cX7_emit : ByteArray := prog_9_method_20_code
def yX7_emit : MethodName := ⟨RX7, "emit", "(I)V"⟩
abbrev cX7_factor : ByteArray := prog_9_method_21_code
def yX7_factor : MethodName := ⟨RX7, "factor", "()V"⟩
abbrev cX7_term : ByteArray := prog_9_method_22_code
def yX7_term : MethodName := ⟨RX7, "term", "()V"⟩
abbrev cX7_sum : ByteArray := prog_9_method_23_code
def yX7_sum : MethodName := ⟨RX7, "sum", "()V"⟩
abbrev cX7_freshSection : ByteArray := prog_9_method_24_code
def yX7_freshSection : MethodName := ⟨RX7, "freshSection", "(II)I"⟩
abbrev cX7_readSection : ByteArray := prog_9_method_25_code
def yX7_readSection : MethodName := ⟨RX7, "readSection", "()I"⟩
abbrev cX7_readBay : ByteArray := prog_9_method_26_code
def yX7_readBay : MethodName := ⟨RX7, "readBay", "(I)V"⟩
abbrev cX7_readFan : ByteArray := prog_9_method_27_code
def yX7_readFan : MethodName := ⟨RX7, "readFan", "()V"⟩
abbrev cX7_readCar : ByteArray := prog_9_method_28_code
def yX7_readCar : MethodName := ⟨RX7, "readCar", "(I)V"⟩
abbrev cX7_once : ByteArray := prog_9_method_29_code
def yX7_once : MethodName := ⟨RX7, "once", "(II)V"⟩
abbrev cX7_statement : ByteArray := prog_9_method_30_code
def yX7_statement : MethodName := ⟨RX7, "statement", "()V"⟩
abbrev cX7_load : ByteArray := prog_9_method_31_code
def yX7_load : MethodName := ⟨RX7, "load", "(I)I"⟩
abbrev cX7_errorOffset : ByteArray := prog_9_method_32_code
def yX7_errorOffset : MethodName := ⟨RX7, "errorOffset", "()I"⟩
abbrev cX7_flowOf : ByteArray := prog_9_method_33_code
def yX7_flowOf : MethodName := ⟨RX7, "flowOf", "([I)I"⟩
abbrev cX7_insideOf : ByteArray := prog_9_method_34_code
def yX7_insideOf : MethodName := ⟨RX7, "insideOf", "([I)I"⟩
abbrev cX7_limited : ByteArray := prog_9_method_35_code
def yX7_limited : MethodName := ⟨RX7, "limited", "(J)J"⟩
abbrev cX7_operate : ByteArray := prog_9_method_36_code
def yX7_operate : MethodName := ⟨RX7, "operate", "(IJJ)J"⟩
abbrev cX7_rateOf : ByteArray := prog_9_method_37_code
def yX7_rateOf : MethodName := ⟨RX7, "rateOf", "([I)I"⟩
abbrev cX7_sectionCount : ByteArray := prog_9_method_38_code
def yX7_sectionCount : MethodName := ⟨RX7, "sectionCount", "()I"⟩
abbrev cX7_carCount : ByteArray := prog_9_method_39_code
def yX7_carCount : MethodName := ⟨RX7, "carCount", "()I"⟩
abbrev cX7_clock : ByteArray := prog_9_method_40_code
def yX7_clock : MethodName := ⟨RX7, "clock", "()I"⟩
abbrev cX7_flow : ByteArray := prog_9_method_41_code
def yX7_flow : MethodName := ⟨RX7, "flow", "()I"⟩
abbrev cX7_rate : ByteArray := prog_9_method_42_code
def yX7_rate : MethodName := ⟨RX7, "rate", "()I"⟩
abbrev cX7_fireSection : ByteArray := prog_9_method_43_code
def yX7_fireSection : MethodName := ⟨RX7, "fireSection", "()I"⟩
abbrev cX7_inside : ByteArray := prog_9_method_44_code
def yX7_inside : MethodName := ⟨RX7, "inside", "()I"⟩
abbrev cX7_lane : ByteArray := prog_9_method_45_code
def yX7_lane : MethodName := ⟨RX7, "lane", "([III)I"⟩
abbrev cX7_smoulder : ByteArray := prog_9_method_46_code
def yX7_smoulder : MethodName := ⟨RX7, "smoulder", "([II)V"⟩
abbrev cX7_drive : ByteArray := prog_9_method_47_code
def yX7_drive : MethodName := ⟨RX7, "drive", "([II)V"⟩
abbrev cX7_driveFrom : ByteArray := prog_9_method_48_code
def yX7_driveFrom : MethodName := ⟨RX7, "driveFrom", "([III)V"⟩
abbrev cX7_turn : ByteArray := prog_9_method_49_code
def yX7_turn : MethodName := ⟨RX7, "turn", "([II)V"⟩
abbrev cX7_exposed : ByteArray := prog_9_method_50_code
def yX7_exposed : MethodName := ⟨RX7, "exposed", "([II)J"⟩
abbrev cX7_expose : ByteArray := prog_9_method_51_code
def yX7_expose : MethodName := ⟨RX7, "expose", "([III)V"⟩
abbrev cX7_tick : ByteArray := prog_9_method_52_code
def yX7_tick : MethodName := ⟨RX7, "tick", "([I)V"⟩
abbrev cX7_noSection : ByteArray := prog_9_method_53_code
def yX7_noSection : MethodName := ⟨RX7, "noSection", "(I)Z"⟩
abbrev cX7_noCar : ByteArray := prog_9_method_54_code
def yX7_noCar : MethodName := ⟨RX7, "noCar", "(I)Z"⟩
abbrev cX7_noWay : ByteArray := prog_9_method_55_code
def yX7_noWay : MethodName := ⟨RX7, "noWay", "(I)Z"⟩
abbrev cX7_signal : ByteArray := prog_9_method_56_code
def yX7_signal : MethodName := ⟨RX7, "signal", "(II)I"⟩
abbrev cX7_smoke : ByteArray := prog_9_method_57_code
def yX7_smoke : MethodName := ⟨RX7, "smoke", "(I)I"⟩
abbrev cX7_total : ByteArray := prog_9_method_58_code
def yX7_total : MethodName := ⟨RX7, "total", "(I)J"⟩
abbrev cX7_fan : ByteArray := prog_9_method_59_code
def yX7_fan : MethodName := ⟨RX7, "fan", "(I)I"⟩
abbrev cX7_bay : ByteArray := prog_9_method_60_code
def yX7_bay : MethodName := ⟨RX7, "bay", "(I)I"⟩
abbrev cX7_isRed : ByteArray := prog_9_method_61_code
def yX7_isRed : MethodName := ⟨RX7, "isRed", "(II)Z"⟩
abbrev cX7_carSection : ByteArray := prog_9_method_62_code
def yX7_carSection : MethodName := ⟨RX7, "carSection", "(I)I"⟩
abbrev cX7_carDirection : ByteArray := prog_9_method_63_code
def yX7_carDirection : MethodName := ⟨RX7, "carDirection", "(I)I"⟩
abbrev cX7_exposure : ByteArray := prog_9_method_64_code
def yX7_exposure : MethodName := ⟨RX7, "exposure", "(I)J"⟩
abbrev cX7_carsIn : ByteArray := prog_9_method_65_code
def yX7_carsIn : MethodName := ⟨RX7, "carsIn", "(II)I"⟩
abbrev cX7_clears : ByteArray := prog_9_method_66_code
def yX7_clears : MethodName := ⟨RX7, "clears", "(I)I"⟩
abbrev cX7_clearingTime : ByteArray := prog_9_method_67_code
def yX7_clearingTime : MethodName := ⟨RX7, "clearingTime", "(I)I"⟩
abbrev cX7_ones : ByteArray := prog_9_method_68_code
def yX7_ones : MethodName := ⟨RX7, "ones", "(I)I"⟩
abbrev cX7_findBays : ByteArray := prog_9_method_69_code
def yX7_findBays : MethodName := ⟨RX7, "findBays", "()V"⟩
abbrev cX7_bestBays : ByteArray := prog_9_method_70_code
def yX7_bestBays : MethodName := ⟨RX7, "bestBays", "()I"⟩
abbrev cX7_bestBayTime : ByteArray := prog_9_method_71_code
def yX7_bestBayTime : MethodName := ⟨RX7, "bestBayTime", "()I"⟩
abbrev cX7_exposes : ByteArray := prog_9_method_72_code
def yX7_exposes : MethodName := ⟨RX7, "exposes", "(II)J"⟩
abbrev cX7_exposureWith : ByteArray := prog_9_method_73_code
def yX7_exposureWith : MethodName := ⟨RX7, "exposureWith", "(II)J"⟩
abbrev cX7_bestSetting : ByteArray := prog_9_method_74_code
def yX7_bestSetting : MethodName := ⟨RX7, "bestSetting", "(I)I"⟩
abbrev cX7_remember : ByteArray := prog_9_method_75_code
def yX7_remember : MethodName := ⟨RX7, "remember", "()V"⟩
abbrev cX7_run : ByteArray := prog_9_method_76_code
def yX7_run : MethodName := ⟨RX7, "run", "(I)I"⟩
abbrev cX7_setFan : ByteArray := prog_9_method_77_code
def yX7_setFan : MethodName := ⟨RX7, "setFan", "(II)I"⟩
abbrev cX7_setFire : ByteArray := prog_9_method_78_code
def yX7_setFire : MethodName := ⟨RX7, "setFire", "(I)I"⟩
abbrev cX7_setSignal : ByteArray := prog_9_method_79_code
def yX7_setSignal : MethodName := ⟨RX7, "setSignal", "(IIZ)Z"⟩
abbrev cX7_setBay : ByteArray := prog_9_method_80_code
def yX7_setBay : MethodName := ⟨RX7, "setBay", "(IZ)Z"⟩
abbrev cX7_undo : ByteArray := prog_9_method_81_code
def yX7_undo : MethodName := ⟨RX7, "undo", "()I"⟩
abbrev cX7_checksum : ByteArray := prog_9_method_82_code
def yX7_checksum : MethodName := ⟨RX7, "checksum", "()J"⟩
def RJ6 : String := "java/lang/Integer"
def TJ6 : u_T := fun k => match k with
  | _ => ("", "", "", false)
def tyJ6 : Nat → FieldType := fun k => match k with
  | _ => .int
abbrev wsJ60 : List Cond := u_ws RJ6 TJ6 0
theorem nmJ6 : ∀ a, a < 0 → ∀ b, b < 0 → a ≠ b → (TJ6 a).2.1 ≠ (TJ6 b).2.1 := by decide +kernel
theorem tyJ6_ok : ∀ k, k < 0 → parseFieldDescriptor (TJ6 k).2.2.1 = some (tyJ6 k) := by decide +kernel
abbrev cJ6_bitCount_0f7a4 : ByteArray := prog_14_method_49_code
def yJ6_bitCount_0f7a4 : MethodName := ⟨RJ6, "bitCount", "(I)I"⟩
def RJ9 : String := "java/lang/Math"
def TJ9 : u_T := fun k => match k with
  | _ => ("", "", "", false)
def tyJ9 : Nat → FieldType := fun k => match k with
  | _ => .int
abbrev wsJ90 : List Cond := u_ws RJ9 TJ9 0
theorem nmJ9 : ∀ a, a < 0 → ∀ b, b < 0 → a ≠ b → (TJ9 a).2.1 ≠ (TJ9 b).2.1 := by decide +kernel
theorem tyJ9_ok : ∀ k, k < 0 → parseFieldDescriptor (TJ9 k).2.2.1 = some (tyJ9 k) := by decide +kernel
abbrev cJ9_abs_0f7a4 : ByteArray := prog_15_method_59_code
def yJ9_abs_0f7a4 : MethodName := ⟨RJ9, "abs", "(I)I"⟩
abbrev cJ9_max_7cf53 : ByteArray := prog_15_method_65_code
def yJ9_max_7cf53 : MethodName := ⟨RJ9, "max", "(II)I"⟩
abbrev cJ9_max_f86c9 : ByteArray := prog_15_method_66_code
def yJ9_max_f86c9 : MethodName := ⟨RJ9, "max", "(JJ)J"⟩
abbrev cJ9_min_7cf53 : ByteArray := prog_15_method_69_code
def yJ9_min_7cf53 : MethodName := ⟨RJ9, "min", "(II)I"⟩
abbrev cJ9_min_f86c9 : ByteArray := prog_15_method_70_code
def yJ9_min_f86c9 : MethodName := ⟨RJ9, "min", "(JJ)J"⟩
def RJ0 : String := "java/lang/String"
def TJ0 : u_T := fun k => match k with
  | _ => ("", "", "", false)
def tyJ0 : Nat → FieldType := fun k => match k with
  | _ => .int
abbrev wsJ00 : List Cond := u_ws RJ0 TJ0 0
theorem nmJ0 : ∀ a, a < 0 → ∀ b, b < 0 → a ≠ b → (TJ0 a).2.1 ≠ (TJ0 b).2.1 := by decide +kernel
theorem tyJ0_ok : ∀ k, k < 0 → parseFieldDescriptor (TJ0 k).2.2.1 = some (tyJ0 k) := by decide +kernel
abbrev cJ0_length_8abf5 : ByteArray := prog_17_method_54_code
def yJ0_length_8abf5 : MethodName := ⟨RJ0, "length", "()I"⟩
abbrev cJ0_charAt_5068e : ByteArray := prog_17_method_56_code
def yJ0_charAt_5068e : MethodName := ⟨RJ0, "charAt", "(I)C"⟩
abbrev cJ0_coder_7d493 : ByteArray := prog_17_method_152_code
def yJ0_coder_7d493 : MethodName := ⟨RJ0, "coder", "()B"⟩
abbrev cJ0_isLatin1_aae02 : ByteArray := prog_17_method_154_code
def yJ0_isLatin1_aae02 : MethodName := ⟨RJ0, "isLatin1", "()Z"⟩
abbrev cJ0_checkIndex_df160 : ByteArray := prog_17_method_155_code
def yJ0_checkIndex_df160 : MethodName := ⟨RJ0, "checkIndex", "(II)V"⟩
def RJ1 : String := "java/lang/StringLatin1"
def TJ1 : u_T := fun k => match k with
  | _ => ("", "", "", false)
def tyJ1 : Nat → FieldType := fun k => match k with
  | _ => .int
abbrev wsJ10 : List Cond := u_ws RJ1 TJ1 0
theorem nmJ1 : ∀ a, a < 0 → ∀ b, b < 0 → a ≠ b → (TJ1 a).2.1 ≠ (TJ1 b).2.1 := by decide +kernel
theorem tyJ1_ok : ∀ k, k < 0 → parseFieldDescriptor (TJ1 k).2.2.1 = some (tyJ1 k) := by decide +kernel
abbrev cJ1_charAt_3b067 : ByteArray := prog_18_method_2_code
def yJ1_charAt_3b067 : MethodName := ⟨RJ1, "charAt", "([BI)C"⟩
def RJ2 : String := "java/lang/StringUTF16"
def TJ2 : u_T := fun k => match k with
  | _ => ("", "", "", false)
def tyJ2 : Nat → FieldType := fun k => match k with
  | _ => .int
abbrev wsJ20 : List Cond := u_ws RJ2 TJ2 0
theorem nmJ2 : ∀ a, a < 0 → ∀ b, b < 0 → a ≠ b → (TJ2 a).2.1 ≠ (TJ2 b).2.1 := by decide +kernel
theorem tyJ2_ok : ∀ k, k < 0 → parseFieldDescriptor (TJ2 k).2.2.1 = some (tyJ2 k) := by decide +kernel
abbrev cJ2_getChar_3b067 : ByteArray := prog_19_method_5_code
def yJ2_getChar_3b067 : MethodName := ⟨RJ2, "getChar", "([BI)C"⟩
abbrev cJ2_length_9d52b : ByteArray := prog_19_method_6_code
def yJ2_length_9d52b : MethodName := ⟨RJ2, "length", "([B)I"⟩
abbrev cJ2_charAt_3b067 : ByteArray := prog_19_method_83_code
def yJ2_charAt_3b067 : MethodName := ⟨RJ2, "charAt", "([BI)C"⟩
abbrev cJ2_checkIndex_2214a : ByteArray := prog_19_method_91_code
def yJ2_checkIndex_2214a : MethodName := ⟨RJ2, "checkIndex", "(I[B)V"⟩
def RJ10 : String := "java/lang/System"
def TJ10 : u_T := fun k => match k with
  | _ => ("", "", "", false)
def tyJ10 : Nat → FieldType := fun k => match k with
  | _ => .int
abbrev wsJ100 : List Cond := u_ws RJ10 TJ10 0
theorem nmJ10 : ∀ a, a < 0 → ∀ b, b < 0 → a ≠ b → (TJ10 a).2.1 ≠ (TJ10 b).2.1 := by decide +kernel
theorem tyJ10_ok : ∀ k, k < 0 → parseFieldDescriptor (TJ10 k).2.2.1 = some (tyJ10 k) := by decide +kernel
def RJ3 : String := "jdk/internal/util/Preconditions"
def TJ3 : u_T := fun k => match k with
  | _ => ("", "", "", false)
def tyJ3 : Nat → FieldType := fun k => match k with
  | _ => .int
abbrev wsJ30 : List Cond := u_ws RJ3 TJ3 0
theorem nmJ3 : ∀ a, a < 0 → ∀ b, b < 0 → a ≠ b → (TJ3 a).2.1 ≠ (TJ3 b).2.1 := by decide +kernel
theorem tyJ3_ok : ∀ k, k < 0 → parseFieldDescriptor (TJ3 k).2.2.1 = some (tyJ3 k) := by decide +kernel
abbrev cJ3_checkIndex_8e157 : ByteArray := prog_22_method_11_code
def yJ3_checkIndex_8e157 : MethodName := ⟨RJ3, "checkIndex", "(IILjava/util/function/BiFunction;)I"⟩
def RL : String := "TunnelControlDeskLaw"
abbrev cL_load : ByteArray := method_3_code
def yL_load : MethodName := ⟨RL, "load", "(LTunnelControlDesk;I[J)I"⟩
abbrev cL_smoke : ByteArray := method_4_code
def yL_smoke : MethodName := ⟨RL, "smoke", "(LTunnelControlDesk;I[J)I"⟩
abbrev cL_total : ByteArray := method_5_code
def yL_total : MethodName := ⟨RL, "total", "(LTunnelControlDesk;I[J)I"⟩
abbrev cL_fan : ByteArray := method_6_code
def yL_fan : MethodName := ⟨RL, "fan", "(LTunnelControlDesk;I[J)I"⟩
abbrev cL_bay : ByteArray := method_7_code
def yL_bay : MethodName := ⟨RL, "bay", "(LTunnelControlDesk;I[J)I"⟩
abbrev cL_isRed : ByteArray := method_8_code
def yL_isRed : MethodName := ⟨RL, "isRed", "(LTunnelControlDesk;II[J)I"⟩
abbrev cL_carSection : ByteArray := method_9_code
def yL_carSection : MethodName := ⟨RL, "carSection", "(LTunnelControlDesk;I[J)I"⟩
abbrev cL_carDirection : ByteArray := method_10_code
def yL_carDirection : MethodName := ⟨RL, "carDirection", "(LTunnelControlDesk;I[J)I"⟩
abbrev cL_exposure : ByteArray := method_11_code
def yL_exposure : MethodName := ⟨RL, "exposure", "(LTunnelControlDesk;I[J)I"⟩
abbrev cL_carsIn : ByteArray := method_12_code
def yL_carsIn : MethodName := ⟨RL, "carsIn", "(LTunnelControlDesk;II[J)I"⟩
abbrev cL_clearingTime : ByteArray := method_13_code
def yL_clearingTime : MethodName := ⟨RL, "clearingTime", "(LTunnelControlDesk;I[J)I"⟩
abbrev cL_exposureWith : ByteArray := method_14_code
def yL_exposureWith : MethodName := ⟨RL, "exposureWith", "(LTunnelControlDesk;II[J)I"⟩
abbrev cL_bestSetting : ByteArray := method_15_code
def yL_bestSetting : MethodName := ⟨RL, "bestSetting", "(LTunnelControlDesk;I[J)I"⟩
abbrev cL_run : ByteArray := method_16_code
def yL_run : MethodName := ⟨RL, "run", "(LTunnelControlDesk;I[J)I"⟩
abbrev cL_setFan : ByteArray := method_17_code
def yL_setFan : MethodName := ⟨RL, "setFan", "(LTunnelControlDesk;II[J)I"⟩
abbrev cL_setFire : ByteArray := method_18_code
def yL_setFire : MethodName := ⟨RL, "setFire", "(LTunnelControlDesk;I[J)I"⟩
abbrev cL_setSignal : ByteArray := method_19_code
def yL_setSignal : MethodName := ⟨RL, "setSignal", "(LTunnelControlDesk;IIZ[J)I"⟩
abbrev cL_setBay : ByteArray := method_20_code
def yL_setBay : MethodName := ⟨RL, "setBay", "(LTunnelControlDesk;IZ[J)I"⟩
abbrev cL_law : ByteArray := code
def yL_law : MethodName := ⟨RL, "law", "([I)Z"⟩
abbrev vwCl : List vw_C := [(RX0, TX0, 3), (RX1, TX1, 7), (RX2, TX2, 7), (RX3, TX3, 2), (RX4, TX4, 13), (RX5, TX5, 14), (RX6, TX6, 5), (RX7, TX7, 23)]
end
section
theorem dX0_init_0 : decode cX0_init 0 = .ok (.aload_n 0, 1) := by decide +kernel
theorem dX0_init_1 : decode cX0_init 1 = .ok (.invokespecial 3, 3) := by decide +kernel
theorem dX0_init_4 : decode cX0_init 4 = .ok (.aload_n 0, 1) := by decide +kernel
theorem dX0_init_5 : decode cX0_init 5 = .ok (.bipush 8, 2) := by decide +kernel
theorem dX0_init_7 : decode cX0_init 7 = .ok (.anewarray 9, 3) := by decide +kernel
theorem dX0_init_10 : decode cX0_init 10 = .ok (.putfield 11, 3) := by decide +kernel
theorem dX0_init_13 : decode cX0_init 13 = .ok (.iconst 0, 1) := by decide +kernel
theorem dX0_init_14 : decode cX0_init 14 = .ok (.istore_n 2, 1) := by decide +kernel
theorem dX0_init_15 : decode cX0_init 15 = .ok (.iload_n 2, 1) := by decide +kernel
theorem dX0_init_16 : decode cX0_init 16 = .ok (.bipush 8, 2) := by decide +kernel
theorem dX0_init_18 : decode cX0_init 18 = .ok (.if_icmp .ge 23, 3) := by decide +kernel
theorem dX0_init_21 : decode cX0_init 21 = .ok (.aload_n 0, 1) := by decide +kernel
theorem dX0_init_22 : decode cX0_init 22 = .ok (.getfield 11, 3) := by decide +kernel
theorem dX0_init_25 : decode cX0_init 25 = .ok (.iload_n 2, 1) := by decide +kernel
theorem dX0_init_26 : decode cX0_init 26 = .ok (.new 9, 3) := by decide +kernel
theorem dX0_init_29 : decode cX0_init 29 = .ok (.dup, 1) := by decide +kernel
theorem dX0_init_30 : decode cX0_init 30 = .ok (.aload_n 1, 1) := by decide +kernel
theorem dX0_init_31 : decode cX0_init 31 = .ok (.invokespecial 17, 3) := by decide +kernel
theorem dX0_init_34 : decode cX0_init 34 = .ok (.aastore, 1) := by decide +kernel
theorem dX0_init_35 : decode cX0_init 35 = .ok (.iinc 2 1, 3) := by decide +kernel
theorem dX0_init_38 : decode cX0_init 38 = .ok (.goto (-23), 3) := by decide +kernel
theorem dX0_init_41 : decode cX0_init 41 = .ok (.return_, 1) := by decide +kernel
theorem dX0_save_0 : decode cX0_save 0 = .ok (.aload_n 0, 1) := by decide +kernel
theorem dX0_save_1 : decode cX0_save 1 = .ok (.getfield 11, 3) := by decide +kernel
theorem dX0_save_4 : decode cX0_save 4 = .ok (.aload_n 0, 1) := by decide +kernel
theorem dX0_save_5 : decode cX0_save 5 = .ok (.getfield 20, 3) := by decide +kernel
theorem dX0_save_8 : decode cX0_save 8 = .ok (.aaload, 1) := by decide +kernel
theorem dX0_save_9 : decode cX0_save 9 = .ok (.aload_n 1, 1) := by decide +kernel
theorem dX0_save_10 : decode cX0_save 10 = .ok (.invokevirtual 24, 3) := by decide +kernel
theorem dX0_save_13 : decode cX0_save 13 = .ok (.aload_n 0, 1) := by decide +kernel
theorem dX0_save_14 : decode cX0_save 14 = .ok (.aload_n 0, 1) := by decide +kernel
theorem dX0_save_15 : decode cX0_save 15 = .ok (.getfield 20, 3) := by decide +kernel
theorem dX0_save_18 : decode cX0_save 18 = .ok (.iconst 1, 1) := by decide +kernel
theorem dX0_save_19 : decode cX0_save 19 = .ok (.iadd, 1) := by decide +kernel
theorem dX0_save_20 : decode cX0_save 20 = .ok (.bipush 8, 2) := by decide +kernel
theorem dX0_save_22 : decode cX0_save 22 = .ok (.irem, 1) := by decide +kernel
theorem dX0_save_23 : decode cX0_save 23 = .ok (.putfield 20, 3) := by decide +kernel
theorem dX0_save_26 : decode cX0_save 26 = .ok (.aload_n 0, 1) := by decide +kernel
theorem dX0_save_27 : decode cX0_save 27 = .ok (.aload_n 0, 1) := by decide +kernel
theorem dX0_save_28 : decode cX0_save 28 = .ok (.getfield 28, 3) := by decide +kernel
theorem dX0_save_31 : decode cX0_save 31 = .ok (.iconst 1, 1) := by decide +kernel
theorem dX0_save_32 : decode cX0_save 32 = .ok (.iadd, 1) := by decide +kernel
theorem dX0_save_33 : decode cX0_save 33 = .ok (.bipush 8, 2) := by decide +kernel
theorem dX0_save_35 : decode cX0_save 35 = .ok (.invokestatic 31, 3) := by decide +kernel
theorem dX0_save_38 : decode cX0_save 38 = .ok (.putfield 28, 3) := by decide +kernel
theorem dX0_save_41 : decode cX0_save 41 = .ok (.return_, 1) := by decide +kernel
theorem dX0_restore_0 : decode cX0_restore 0 = .ok (.aload_n 0, 1) := by decide +kernel
theorem dX0_restore_1 : decode cX0_restore 1 = .ok (.aload_n 0, 1) := by decide +kernel
theorem dX0_restore_2 : decode cX0_restore 2 = .ok (.getfield 20, 3) := by decide +kernel
theorem dX0_restore_5 : decode cX0_restore 5 = .ok (.bipush 8, 2) := by decide +kernel
theorem dX0_restore_7 : decode cX0_restore 7 = .ok (.iadd, 1) := by decide +kernel
theorem dX0_restore_8 : decode cX0_restore 8 = .ok (.iconst 1, 1) := by decide +kernel
theorem dX0_restore_9 : decode cX0_restore 9 = .ok (.isub, 1) := by decide +kernel
theorem dX0_restore_10 : decode cX0_restore 10 = .ok (.bipush 8, 2) := by decide +kernel
theorem dX0_restore_12 : decode cX0_restore 12 = .ok (.irem, 1) := by decide +kernel
theorem dX0_restore_13 : decode cX0_restore 13 = .ok (.putfield 20, 3) := by decide +kernel
theorem dX0_restore_16 : decode cX0_restore 16 = .ok (.aload_n 0, 1) := by decide +kernel
theorem dX0_restore_17 : decode cX0_restore 17 = .ok (.dup, 1) := by decide +kernel
theorem dX0_restore_18 : decode cX0_restore 18 = .ok (.getfield 28, 3) := by decide +kernel
theorem dX0_restore_21 : decode cX0_restore 21 = .ok (.iconst 1, 1) := by decide +kernel
theorem dX0_restore_22 : decode cX0_restore 22 = .ok (.isub, 1) := by decide +kernel
theorem dX0_restore_23 : decode cX0_restore 23 = .ok (.putfield 28, 3) := by decide +kernel
theorem dX0_restore_26 : decode cX0_restore 26 = .ok (.aload_n 1, 1) := by decide +kernel
theorem dX0_restore_27 : decode cX0_restore 27 = .ok (.aload_n 0, 1) := by decide +kernel
theorem dX0_restore_28 : decode cX0_restore 28 = .ok (.getfield 11, 3) := by decide +kernel
theorem dX0_restore_31 : decode cX0_restore 31 = .ok (.aload_n 0, 1) := by decide +kernel
theorem dX0_restore_32 : decode cX0_restore 32 = .ok (.getfield 20, 3) := by decide +kernel
theorem dX0_restore_35 : decode cX0_restore 35 = .ok (.aaload, 1) := by decide +kernel
theorem dX0_restore_36 : decode cX0_restore 36 = .ok (.invokevirtual 24, 3) := by decide +kernel
theorem dX0_restore_39 : decode cX0_restore 39 = .ok (.return_, 1) := by decide +kernel
theorem dX1_init_0 : decode cX1_init 0 = .ok (.aload_n 0, 1) := by decide +kernel
theorem dX1_init_1 : decode cX1_init 1 = .ok (.invokespecial 3, 3) := by decide +kernel
theorem dX1_init_4 : decode cX1_init 4 = .ok (.aload_n 0, 1) := by decide +kernel
theorem dX1_init_5 : decode cX1_init 5 = .ok (.sipush 800, 3) := by decide +kernel
theorem dX1_init_8 : decode cX1_init 8 = .ok (.newarray .byte, 2) := by decide +kernel
theorem dX1_init_10 : decode cX1_init 10 = .ok (.putfield 9, 3) := by decide +kernel
theorem dX1_init_13 : decode cX1_init 13 = .ok (.return_, 1) := by decide +kernel
theorem dX1_putWord_0 : decode cX1_putWord 0 = .ok (.bipush 24, 2) := by decide +kernel
theorem dX1_putWord_2 : decode cX1_putWord 2 = .ok (.istore_n 2, 1) := by decide +kernel
theorem dX1_putWord_3 : decode cX1_putWord 3 = .ok (.iload_n 2, 1) := by decide +kernel
theorem dX1_putWord_4 : decode cX1_putWord 4 = .ok (.ifCond .lt 42, 3) := by decide +kernel
theorem dX1_putWord_7 : decode cX1_putWord 7 = .ok (.aload_n 0, 1) := by decide +kernel
theorem dX1_putWord_8 : decode cX1_putWord 8 = .ok (.getfield 15, 3) := by decide +kernel
theorem dX1_putWord_11 : decode cX1_putWord 11 = .ok (.sipush 800, 3) := by decide +kernel
theorem dX1_putWord_14 : decode cX1_putWord 14 = .ok (.if_icmp .ge 32, 3) := by decide +kernel
theorem dX1_putWord_17 : decode cX1_putWord 17 = .ok (.aload_n 0, 1) := by decide +kernel
theorem dX1_putWord_18 : decode cX1_putWord 18 = .ok (.getfield 9, 3) := by decide +kernel
theorem dX1_putWord_21 : decode cX1_putWord 21 = .ok (.aload_n 0, 1) := by decide +kernel
theorem dX1_putWord_22 : decode cX1_putWord 22 = .ok (.getfield 15, 3) := by decide +kernel
theorem dX1_putWord_25 : decode cX1_putWord 25 = .ok (.iload_n 1, 1) := by decide +kernel
theorem dX1_putWord_26 : decode cX1_putWord 26 = .ok (.iload_n 2, 1) := by decide +kernel
theorem dX1_putWord_27 : decode cX1_putWord 27 = .ok (.iushr, 1) := by decide +kernel
theorem dX1_putWord_28 : decode cX1_putWord 28 = .ok (.i2b, 1) := by decide +kernel
theorem dX1_putWord_29 : decode cX1_putWord 29 = .ok (.bastore, 1) := by decide +kernel
theorem dX1_putWord_30 : decode cX1_putWord 30 = .ok (.aload_n 0, 1) := by decide +kernel
theorem dX1_putWord_31 : decode cX1_putWord 31 = .ok (.dup, 1) := by decide +kernel
theorem dX1_putWord_32 : decode cX1_putWord 32 = .ok (.getfield 15, 3) := by decide +kernel
theorem dX1_putWord_35 : decode cX1_putWord 35 = .ok (.iconst 1, 1) := by decide +kernel
theorem dX1_putWord_36 : decode cX1_putWord 36 = .ok (.iadd, 1) := by decide +kernel
theorem dX1_putWord_37 : decode cX1_putWord 37 = .ok (.putfield 15, 3) := by decide +kernel
theorem dX1_putWord_40 : decode cX1_putWord 40 = .ok (.iinc 2 (-8), 3) := by decide +kernel
theorem dX1_putWord_43 : decode cX1_putWord 43 = .ok (.goto (-40), 3) := by decide +kernel
theorem dX1_putWord_46 : decode cX1_putWord 46 = .ok (.return_, 1) := by decide +kernel
theorem dX1_begin_0 : decode cX1_begin 0 = .ok (.aload_n 0, 1) := by decide +kernel
theorem dX1_begin_1 : decode cX1_begin 1 = .ok (.iload_n 1, 1) := by decide +kernel
theorem dX1_begin_2 : decode cX1_begin 2 = .ok (.putfield 19, 3) := by decide +kernel
theorem dX1_begin_5 : decode cX1_begin 5 = .ok (.aload_n 0, 1) := by decide +kernel
theorem dX1_begin_6 : decode cX1_begin 6 = .ok (.iconst 0, 1) := by decide +kernel
theorem dX1_begin_7 : decode cX1_begin 7 = .ok (.putfield 22, 3) := by decide +kernel
theorem dX1_begin_10 : decode cX1_begin 10 = .ok (.aload_n 0, 1) := by decide +kernel
theorem dX1_begin_11 : decode cX1_begin 11 = .ok (.invokevirtual 25, 3) := by decide +kernel
theorem dX1_begin_14 : decode cX1_begin 14 = .ok (.return_, 1) := by decide +kernel
theorem dX1_advance_0 : decode cX1_advance 0 = .ok (.aload_n 0, 1) := by decide +kernel
theorem dX1_advance_1 : decode cX1_advance 1 = .ok (.getfield 22, 3) := by decide +kernel
theorem dX1_advance_4 : decode cX1_advance 4 = .ok (.aload_n 0, 1) := by decide +kernel
theorem dX1_advance_5 : decode cX1_advance 5 = .ok (.getfield 19, 3) := by decide +kernel
theorem dX1_advance_8 : decode cX1_advance 8 = .ok (.if_icmp .ge 30, 3) := by decide +kernel
theorem dX1_advance_11 : decode cX1_advance 11 = .ok (.aload_n 0, 1) := by decide +kernel
theorem dX1_advance_12 : decode cX1_advance 12 = .ok (.getfield 9, 3) := by decide +kernel
theorem dX1_advance_15 : decode cX1_advance 15 = .ok (.aload_n 0, 1) := by decide +kernel
theorem dX1_advance_16 : decode cX1_advance 16 = .ok (.getfield 22, 3) := by decide +kernel
theorem dX1_advance_19 : decode cX1_advance 19 = .ok (.baload, 1) := by decide +kernel
theorem dX1_advance_20 : decode cX1_advance 20 = .ok (.bipush 32, 2) := by decide +kernel
theorem dX1_advance_22 : decode cX1_advance 22 = .ok (.if_icmp .ne 16, 3) := by decide +kernel
theorem dX1_advance_25 : decode cX1_advance 25 = .ok (.aload_n 0, 1) := by decide +kernel
theorem dX1_advance_26 : decode cX1_advance 26 = .ok (.dup, 1) := by decide +kernel
theorem dX1_advance_27 : decode cX1_advance 27 = .ok (.getfield 22, 3) := by decide +kernel
theorem dX1_advance_30 : decode cX1_advance 30 = .ok (.iconst 1, 1) := by decide +kernel
theorem dX1_advance_31 : decode cX1_advance 31 = .ok (.iadd, 1) := by decide +kernel
theorem dX1_advance_32 : decode cX1_advance 32 = .ok (.putfield 22, 3) := by decide +kernel
theorem dX1_advance_35 : decode cX1_advance 35 = .ok (.goto (-35), 3) := by decide +kernel
theorem dX1_advance_38 : decode cX1_advance 38 = .ok (.aload_n 0, 1) := by decide +kernel
theorem dX1_advance_39 : decode cX1_advance 39 = .ok (.aload_n 0, 1) := by decide +kernel
theorem dX1_advance_40 : decode cX1_advance 40 = .ok (.getfield 22, 3) := by decide +kernel
theorem dX1_advance_43 : decode cX1_advance 43 = .ok (.putfield 28, 3) := by decide +kernel
theorem dX1_advance_46 : decode cX1_advance 46 = .ok (.aload_n 0, 1) := by decide +kernel
theorem dX1_advance_47 : decode cX1_advance 47 = .ok (.getfield 22, 3) := by decide +kernel
theorem dX1_advance_50 : decode cX1_advance 50 = .ok (.aload_n 0, 1) := by decide +kernel
theorem dX1_advance_51 : decode cX1_advance 51 = .ok (.getfield 19, 3) := by decide +kernel
theorem dX1_advance_54 : decode cX1_advance 54 = .ok (.if_icmp .lt 13, 3) := by decide +kernel
theorem dX1_advance_57 : decode cX1_advance 57 = .ok (.aload_n 0, 1) := by decide +kernel
theorem dX1_advance_58 : decode cX1_advance 58 = .ok (.sipush 258, 3) := by decide +kernel
theorem dX1_advance_61 : decode cX1_advance 61 = .ok (.putfield 31, 3) := by decide +kernel
theorem dX1_advance_64 : decode cX1_advance 64 = .ok (.goto 245, 3) := by decide +kernel
theorem dX1_advance_67 : decode cX1_advance 67 = .ok (.aload_n 0, 1) := by decide +kernel
theorem dX1_advance_68 : decode cX1_advance 68 = .ok (.getfield 9, 3) := by decide +kernel
theorem dX1_advance_71 : decode cX1_advance 71 = .ok (.aload_n 0, 1) := by decide +kernel
theorem dX1_advance_72 : decode cX1_advance 72 = .ok (.getfield 22, 3) := by decide +kernel
theorem dX1_advance_75 : decode cX1_advance 75 = .ok (.baload, 1) := by decide +kernel
theorem dX1_advance_76 : decode cX1_advance 76 = .ok (.bipush 48, 2) := by decide +kernel
theorem dX1_advance_78 : decode cX1_advance 78 = .ok (.if_icmp .lt 121, 3) := by decide +kernel
theorem dX1_advance_81 : decode cX1_advance 81 = .ok (.aload_n 0, 1) := by decide +kernel
theorem dX1_advance_82 : decode cX1_advance 82 = .ok (.getfield 9, 3) := by decide +kernel
theorem dX1_advance_85 : decode cX1_advance 85 = .ok (.aload_n 0, 1) := by decide +kernel
theorem dX1_advance_86 : decode cX1_advance 86 = .ok (.getfield 22, 3) := by decide +kernel
theorem dX1_advance_89 : decode cX1_advance 89 = .ok (.baload, 1) := by decide +kernel
theorem dX1_advance_90 : decode cX1_advance 90 = .ok (.bipush 57, 2) := by decide +kernel
theorem dX1_advance_92 : decode cX1_advance 92 = .ok (.if_icmp .gt 107, 3) := by decide +kernel
theorem dX1_advance_95 : decode cX1_advance 95 = .ok (.aload_n 0, 1) := by decide +kernel
theorem dX1_advance_96 : decode cX1_advance 96 = .ok (.sipush 256, 3) := by decide +kernel
theorem dX1_advance_99 : decode cX1_advance 99 = .ok (.putfield 31, 3) := by decide +kernel
theorem dX1_advance_102 : decode cX1_advance 102 = .ok (.aload_n 0, 1) := by decide +kernel
theorem dX1_advance_103 : decode cX1_advance 103 = .ok (.iconst 0, 1) := by decide +kernel
theorem dX1_advance_104 : decode cX1_advance 104 = .ok (.putfield 34, 3) := by decide +kernel
theorem dX1_advance_107 : decode cX1_advance 107 = .ok (.aload_n 0, 1) := by decide +kernel
theorem dX1_advance_108 : decode cX1_advance 108 = .ok (.getfield 22, 3) := by decide +kernel
theorem dX1_advance_111 : decode cX1_advance 111 = .ok (.aload_n 0, 1) := by decide +kernel
theorem dX1_advance_112 : decode cX1_advance 112 = .ok (.getfield 19, 3) := by decide +kernel
theorem dX1_advance_115 : decode cX1_advance 115 = .ok (.if_icmp .ge 194, 3) := by decide +kernel
theorem dX1_advance_118 : decode cX1_advance 118 = .ok (.aload_n 0, 1) := by decide +kernel
theorem dX1_advance_119 : decode cX1_advance 119 = .ok (.getfield 9, 3) := by decide +kernel
theorem dX1_advance_122 : decode cX1_advance 122 = .ok (.aload_n 0, 1) := by decide +kernel
theorem dX1_advance_123 : decode cX1_advance 123 = .ok (.getfield 22, 3) := by decide +kernel
theorem dX1_advance_126 : decode cX1_advance 126 = .ok (.baload, 1) := by decide +kernel
theorem dX1_advance_127 : decode cX1_advance 127 = .ok (.bipush 48, 2) := by decide +kernel
theorem dX1_advance_129 : decode cX1_advance 129 = .ok (.if_icmp .lt 180, 3) := by decide +kernel
theorem dX1_advance_132 : decode cX1_advance 132 = .ok (.aload_n 0, 1) := by decide +kernel
theorem dX1_advance_133 : decode cX1_advance 133 = .ok (.getfield 9, 3) := by decide +kernel
theorem dX1_advance_136 : decode cX1_advance 136 = .ok (.aload_n 0, 1) := by decide +kernel
theorem dX1_advance_137 : decode cX1_advance 137 = .ok (.getfield 22, 3) := by decide +kernel
theorem dX1_advance_140 : decode cX1_advance 140 = .ok (.baload, 1) := by decide +kernel
theorem dX1_advance_141 : decode cX1_advance 141 = .ok (.bipush 57, 2) := by decide +kernel
theorem dX1_advance_143 : decode cX1_advance 143 = .ok (.if_icmp .gt 166, 3) := by decide +kernel
theorem dX1_advance_146 : decode cX1_advance 146 = .ok (.aload_n 0, 1) := by decide +kernel
theorem dX1_advance_147 : decode cX1_advance 147 = .ok (.aload_n 0, 1) := by decide +kernel
theorem dX1_advance_148 : decode cX1_advance 148 = .ok (.getfield 34, 3) := by decide +kernel
theorem dX1_advance_151 : decode cX1_advance 151 = .ok (.ldc 37, 2) := by decide +kernel
theorem dX1_advance_153 : decode cX1_advance 153 = .ok (.if_icmp .le 10, 3) := by decide +kernel
theorem dX1_advance_156 : decode cX1_advance 156 = .ok (.aload_n 0, 1) := by decide +kernel
theorem dX1_advance_157 : decode cX1_advance 157 = .ok (.getfield 34, 3) := by decide +kernel
theorem dX1_advance_160 : decode cX1_advance 160 = .ok (.goto 23, 3) := by decide +kernel
theorem dX1_advance_163 : decode cX1_advance 163 = .ok (.bipush 10, 2) := by decide +kernel
theorem dX1_advance_165 : decode cX1_advance 165 = .ok (.aload_n 0, 1) := by decide +kernel
theorem dX1_advance_166 : decode cX1_advance 166 = .ok (.getfield 34, 3) := by decide +kernel
theorem dX1_advance_169 : decode cX1_advance 169 = .ok (.imul, 1) := by decide +kernel
theorem dX1_advance_170 : decode cX1_advance 170 = .ok (.aload_n 0, 1) := by decide +kernel
theorem dX1_advance_171 : decode cX1_advance 171 = .ok (.getfield 9, 3) := by decide +kernel
theorem dX1_advance_174 : decode cX1_advance 174 = .ok (.aload_n 0, 1) := by decide +kernel
theorem dX1_advance_175 : decode cX1_advance 175 = .ok (.getfield 22, 3) := by decide +kernel
theorem dX1_advance_178 : decode cX1_advance 178 = .ok (.baload, 1) := by decide +kernel
theorem dX1_advance_179 : decode cX1_advance 179 = .ok (.iadd, 1) := by decide +kernel
theorem dX1_advance_180 : decode cX1_advance 180 = .ok (.bipush 48, 2) := by decide +kernel
theorem dX1_advance_182 : decode cX1_advance 182 = .ok (.isub, 1) := by decide +kernel
theorem dX1_advance_183 : decode cX1_advance 183 = .ok (.putfield 34, 3) := by decide +kernel
theorem dX1_advance_186 : decode cX1_advance 186 = .ok (.aload_n 0, 1) := by decide +kernel
theorem dX1_advance_187 : decode cX1_advance 187 = .ok (.dup, 1) := by decide +kernel
theorem dX1_advance_188 : decode cX1_advance 188 = .ok (.getfield 22, 3) := by decide +kernel
theorem dX1_advance_191 : decode cX1_advance 191 = .ok (.iconst 1, 1) := by decide +kernel
theorem dX1_advance_192 : decode cX1_advance 192 = .ok (.iadd, 1) := by decide +kernel
theorem dX1_advance_193 : decode cX1_advance 193 = .ok (.putfield 22, 3) := by decide +kernel
theorem dX1_advance_196 : decode cX1_advance 196 = .ok (.goto (-89), 3) := by decide +kernel
theorem dX1_advance_199 : decode cX1_advance 199 = .ok (.aload_n 0, 1) := by decide +kernel
theorem dX1_advance_200 : decode cX1_advance 200 = .ok (.getfield 9, 3) := by decide +kernel
theorem dX1_advance_203 : decode cX1_advance 203 = .ok (.aload_n 0, 1) := by decide +kernel
theorem dX1_advance_204 : decode cX1_advance 204 = .ok (.getfield 22, 3) := by decide +kernel
theorem dX1_advance_207 : decode cX1_advance 207 = .ok (.baload, 1) := by decide +kernel
theorem dX1_advance_208 : decode cX1_advance 208 = .ok (.bipush 97, 2) := by decide +kernel
theorem dX1_advance_210 : decode cX1_advance 210 = .ok (.if_icmp .lt 76, 3) := by decide +kernel
theorem dX1_advance_213 : decode cX1_advance 213 = .ok (.aload_n 0, 1) := by decide +kernel
theorem dX1_advance_214 : decode cX1_advance 214 = .ok (.getfield 9, 3) := by decide +kernel
theorem dX1_advance_217 : decode cX1_advance 217 = .ok (.aload_n 0, 1) := by decide +kernel
theorem dX1_advance_218 : decode cX1_advance 218 = .ok (.getfield 22, 3) := by decide +kernel
theorem dX1_advance_221 : decode cX1_advance 221 = .ok (.baload, 1) := by decide +kernel
theorem dX1_advance_222 : decode cX1_advance 222 = .ok (.bipush 122, 2) := by decide +kernel
theorem dX1_advance_224 : decode cX1_advance 224 = .ok (.if_icmp .gt 62, 3) := by decide +kernel
theorem dX1_advance_227 : decode cX1_advance 227 = .ok (.aload_n 0, 1) := by decide +kernel
theorem dX1_advance_228 : decode cX1_advance 228 = .ok (.sipush 257, 3) := by decide +kernel
theorem dX1_advance_231 : decode cX1_advance 231 = .ok (.putfield 31, 3) := by decide +kernel
theorem dX1_advance_234 : decode cX1_advance 234 = .ok (.aload_n 0, 1) := by decide +kernel
theorem dX1_advance_235 : decode cX1_advance 235 = .ok (.getfield 22, 3) := by decide +kernel
theorem dX1_advance_238 : decode cX1_advance 238 = .ok (.aload_n 0, 1) := by decide +kernel
theorem dX1_advance_239 : decode cX1_advance 239 = .ok (.getfield 19, 3) := by decide +kernel
theorem dX1_advance_242 : decode cX1_advance 242 = .ok (.if_icmp .ge 67, 3) := by decide +kernel
theorem dX1_advance_245 : decode cX1_advance 245 = .ok (.aload_n 0, 1) := by decide +kernel
theorem dX1_advance_246 : decode cX1_advance 246 = .ok (.getfield 9, 3) := by decide +kernel
theorem dX1_advance_249 : decode cX1_advance 249 = .ok (.aload_n 0, 1) := by decide +kernel
theorem dX1_advance_250 : decode cX1_advance 250 = .ok (.getfield 22, 3) := by decide +kernel
theorem dX1_advance_253 : decode cX1_advance 253 = .ok (.baload, 1) := by decide +kernel
theorem dX1_advance_254 : decode cX1_advance 254 = .ok (.bipush 97, 2) := by decide +kernel
theorem dX1_advance_256 : decode cX1_advance 256 = .ok (.if_icmp .lt 53, 3) := by decide +kernel
theorem dX1_advance_259 : decode cX1_advance 259 = .ok (.aload_n 0, 1) := by decide +kernel
theorem dX1_advance_260 : decode cX1_advance 260 = .ok (.getfield 9, 3) := by decide +kernel
theorem dX1_advance_263 : decode cX1_advance 263 = .ok (.aload_n 0, 1) := by decide +kernel
theorem dX1_advance_264 : decode cX1_advance 264 = .ok (.getfield 22, 3) := by decide +kernel
theorem dX1_advance_267 : decode cX1_advance 267 = .ok (.baload, 1) := by decide +kernel
theorem dX1_advance_268 : decode cX1_advance 268 = .ok (.bipush 122, 2) := by decide +kernel
theorem dX1_advance_270 : decode cX1_advance 270 = .ok (.if_icmp .gt 39, 3) := by decide +kernel
theorem dX1_advance_273 : decode cX1_advance 273 = .ok (.aload_n 0, 1) := by decide +kernel
theorem dX1_advance_274 : decode cX1_advance 274 = .ok (.dup, 1) := by decide +kernel
theorem dX1_advance_275 : decode cX1_advance 275 = .ok (.getfield 22, 3) := by decide +kernel
theorem dX1_advance_278 : decode cX1_advance 278 = .ok (.iconst 1, 1) := by decide +kernel
theorem dX1_advance_279 : decode cX1_advance 279 = .ok (.iadd, 1) := by decide +kernel
theorem dX1_advance_280 : decode cX1_advance 280 = .ok (.putfield 22, 3) := by decide +kernel
theorem dX1_advance_283 : decode cX1_advance 283 = .ok (.goto (-49), 3) := by decide +kernel
theorem dX1_advance_286 : decode cX1_advance 286 = .ok (.aload_n 0, 1) := by decide +kernel
theorem dX1_advance_287 : decode cX1_advance 287 = .ok (.aload_n 0, 1) := by decide +kernel
theorem dX1_advance_288 : decode cX1_advance 288 = .ok (.getfield 9, 3) := by decide +kernel
theorem dX1_advance_291 : decode cX1_advance 291 = .ok (.aload_n 0, 1) := by decide +kernel
theorem dX1_advance_292 : decode cX1_advance 292 = .ok (.getfield 22, 3) := by decide +kernel
theorem dX1_advance_295 : decode cX1_advance 295 = .ok (.baload, 1) := by decide +kernel
theorem dX1_advance_296 : decode cX1_advance 296 = .ok (.putfield 31, 3) := by decide +kernel
theorem dX1_advance_299 : decode cX1_advance 299 = .ok (.aload_n 0, 1) := by decide +kernel
theorem dX1_advance_300 : decode cX1_advance 300 = .ok (.dup, 1) := by decide +kernel
theorem dX1_advance_301 : decode cX1_advance 301 = .ok (.getfield 22, 3) := by decide +kernel
theorem dX1_advance_304 : decode cX1_advance 304 = .ok (.iconst 1, 1) := by decide +kernel
theorem dX1_advance_305 : decode cX1_advance 305 = .ok (.iadd, 1) := by decide +kernel
theorem dX1_advance_306 : decode cX1_advance 306 = .ok (.putfield 22, 3) := by decide +kernel
theorem dX1_advance_309 : decode cX1_advance 309 = .ok (.return_, 1) := by decide +kernel
theorem dX1_isWord_0 : decode cX1_isWord 0 = .ok (.aload_n 0, 1) := by decide +kernel
theorem dX1_isWord_1 : decode cX1_isWord 1 = .ok (.getfield 31, 3) := by decide +kernel
theorem dX1_isWord_4 : decode cX1_isWord 4 = .ok (.sipush 257, 3) := by decide +kernel
theorem dX1_isWord_7 : decode cX1_isWord 7 = .ok (.if_icmp .ne 19, 3) := by decide +kernel
theorem dX1_isWord_10 : decode cX1_isWord 10 = .ok (.aload_n 0, 1) := by decide +kernel
theorem dX1_isWord_11 : decode cX1_isWord 11 = .ok (.getfield 22, 3) := by decide +kernel
theorem dX1_isWord_14 : decode cX1_isWord 14 = .ok (.aload_n 0, 1) := by decide +kernel
theorem dX1_isWord_15 : decode cX1_isWord 15 = .ok (.getfield 28, 3) := by decide +kernel
theorem dX1_isWord_18 : decode cX1_isWord 18 = .ok (.isub, 1) := by decide +kernel
theorem dX1_isWord_19 : decode cX1_isWord 19 = .ok (.aload_n 1, 1) := by decide +kernel
theorem dX1_isWord_20 : decode cX1_isWord 20 = .ok (.invokevirtual 38, 3) := by decide +kernel
theorem dX1_isWord_23 : decode cX1_isWord 23 = .ok (.if_icmp .eq 5, 3) := by decide +kernel
theorem dX1_isWord_26 : decode cX1_isWord 26 = .ok (.iconst 0, 1) := by decide +kernel
theorem dX1_isWord_27 : decode cX1_isWord 27 = .ok (.ireturn, 1) := by decide +kernel
theorem dX1_isWord_28 : decode cX1_isWord 28 = .ok (.iconst 0, 1) := by decide +kernel
theorem dX1_isWord_29 : decode cX1_isWord 29 = .ok (.istore_n 2, 1) := by decide +kernel
theorem dX1_isWord_30 : decode cX1_isWord 30 = .ok (.iload_n 2, 1) := by decide +kernel
theorem dX1_isWord_31 : decode cX1_isWord 31 = .ok (.aload_n 1, 1) := by decide +kernel
theorem dX1_isWord_32 : decode cX1_isWord 32 = .ok (.invokevirtual 38, 3) := by decide +kernel
theorem dX1_isWord_35 : decode cX1_isWord 35 = .ok (.if_icmp .ge 30, 3) := by decide +kernel
theorem dX1_isWord_38 : decode cX1_isWord 38 = .ok (.aload_n 0, 1) := by decide +kernel
theorem dX1_isWord_39 : decode cX1_isWord 39 = .ok (.getfield 9, 3) := by decide +kernel
theorem dX1_isWord_42 : decode cX1_isWord 42 = .ok (.aload_n 0, 1) := by decide +kernel
theorem dX1_isWord_43 : decode cX1_isWord 43 = .ok (.getfield 28, 3) := by decide +kernel
theorem dX1_isWord_46 : decode cX1_isWord 46 = .ok (.iload_n 2, 1) := by decide +kernel
theorem dX1_isWord_47 : decode cX1_isWord 47 = .ok (.iadd, 1) := by decide +kernel
theorem dX1_isWord_48 : decode cX1_isWord 48 = .ok (.baload, 1) := by decide +kernel
theorem dX1_isWord_49 : decode cX1_isWord 49 = .ok (.aload_n 1, 1) := by decide +kernel
theorem dX1_isWord_50 : decode cX1_isWord 50 = .ok (.iload_n 2, 1) := by decide +kernel
theorem dX1_isWord_51 : decode cX1_isWord 51 = .ok (.invokevirtual 43, 3) := by decide +kernel
theorem dX1_isWord_54 : decode cX1_isWord 54 = .ok (.if_icmp .eq 5, 3) := by decide +kernel
theorem dX1_isWord_57 : decode cX1_isWord 57 = .ok (.iconst 0, 1) := by decide +kernel
theorem dX1_isWord_58 : decode cX1_isWord 58 = .ok (.ireturn, 1) := by decide +kernel
theorem dX1_isWord_59 : decode cX1_isWord 59 = .ok (.iinc 2 1, 3) := by decide +kernel
theorem dX1_isWord_62 : decode cX1_isWord 62 = .ok (.goto (-32), 3) := by decide +kernel
theorem dX1_isWord_65 : decode cX1_isWord 65 = .ok (.iconst 1, 1) := by decide +kernel
theorem dX1_isWord_66 : decode cX1_isWord 66 = .ok (.ireturn, 1) := by decide +kernel
theorem dX2_init_0 : decode cX2_init 0 = .ok (.aload_n 0, 1) := by decide +kernel
theorem dX2_init_1 : decode cX2_init 1 = .ok (.invokespecial 3, 3) := by decide +kernel
theorem dX2_init_4 : decode cX2_init 4 = .ok (.aload_n 0, 1) := by decide +kernel
theorem dX2_init_5 : decode cX2_init 5 = .ok (.bipush 12, 2) := by decide +kernel
theorem dX2_init_7 : decode cX2_init 7 = .ok (.newarray .int, 2) := by decide +kernel
theorem dX2_init_9 : decode cX2_init 9 = .ok (.putfield 9, 3) := by decide +kernel
theorem dX2_init_12 : decode cX2_init 12 = .ok (.aload_n 0, 1) := by decide +kernel
theorem dX2_init_13 : decode cX2_init 13 = .ok (.bipush 12, 2) := by decide +kernel
theorem dX2_init_15 : decode cX2_init 15 = .ok (.newarray .boolean, 2) := by decide +kernel
theorem dX2_init_17 : decode cX2_init 17 = .ok (.putfield 15, 3) := by decide +kernel
theorem dX2_init_20 : decode cX2_init 20 = .ok (.aload_n 0, 1) := by decide +kernel
theorem dX2_init_21 : decode cX2_init 21 = .ok (.new 19, 3) := by decide +kernel
theorem dX2_init_24 : decode cX2_init 24 = .ok (.dup, 1) := by decide +kernel
theorem dX2_init_25 : decode cX2_init 25 = .ok (.iconst 1, 1) := by decide +kernel
theorem dX2_init_26 : decode cX2_init 26 = .ok (.newarray .int, 2) := by decide +kernel
theorem dX2_init_28 : decode cX2_init 28 = .ok (.dup, 1) := by decide +kernel
theorem dX2_init_29 : decode cX2_init 29 = .ok (.iconst 0, 1) := by decide +kernel
theorem dX2_init_30 : decode cX2_init 30 = .ok (.bipush 100, 2) := by decide +kernel
theorem dX2_init_32 : decode cX2_init 32 = .ok (.iastore, 1) := by decide +kernel
theorem dX2_init_33 : decode cX2_init 33 = .ok (.invokespecial 21, 3) := by decide +kernel
theorem dX2_init_36 : decode cX2_init 36 = .ok (.putfield 24, 3) := by decide +kernel
theorem dX2_init_39 : decode cX2_init 39 = .ok (.return_, 1) := by decide +kernel
theorem dX3_init_0 : decode cX3_init 0 = .ok (.aload_n 0, 1) := by decide +kernel
theorem dX3_init_1 : decode cX3_init 1 = .ok (.invokespecial 3, 3) := by decide +kernel
theorem dX3_init_4 : decode cX3_init 4 = .ok (.aload_n 0, 1) := by decide +kernel
theorem dX3_init_5 : decode cX3_init 5 = .ok (.bipush 11, 2) := by decide +kernel
theorem dX3_init_7 : decode cX3_init 7 = .ok (.newarray .long, 2) := by decide +kernel
theorem dX3_init_9 : decode cX3_init 9 = .ok (.putfield 11, 3) := by decide +kernel
theorem dX3_init_12 : decode cX3_init 12 = .ok (.aload_n 0, 1) := by decide +kernel
theorem dX3_init_13 : decode cX3_init 13 = .ok (.aload_n 1, 1) := by decide +kernel
theorem dX3_init_14 : decode cX3_init 14 = .ok (.putfield 15, 3) := by decide +kernel
theorem dX3_init_17 : decode cX3_init 17 = .ok (.return_, 1) := by decide +kernel
theorem dX3_valueAt_0 : decode cX3_valueAt 0 = .ok (.iconst 0, 1) := by decide +kernel
theorem dX3_valueAt_1 : decode cX3_valueAt 1 = .ok (.istore 4, 2) := by decide +kernel
theorem dX3_valueAt_3 : decode cX3_valueAt 3 = .ok (.iconst 0, 1) := by decide +kernel
theorem dX3_valueAt_4 : decode cX3_valueAt 4 = .ok (.istore 5, 2) := by decide +kernel
theorem dX3_valueAt_6 : decode cX3_valueAt 6 = .ok (.iload 5, 2) := by decide +kernel
theorem dX3_valueAt_8 : decode cX3_valueAt 8 = .ok (.aload_n 0, 1) := by decide +kernel
theorem dX3_valueAt_9 : decode cX3_valueAt 9 = .ok (.getfield 15, 3) := by decide +kernel
theorem dX3_valueAt_12 : decode cX3_valueAt 12 = .ok (.arraylength, 1) := by decide +kernel
theorem dX3_valueAt_13 : decode cX3_valueAt 13 = .ok (.if_icmp .ge 92, 3) := by decide +kernel
theorem dX3_valueAt_16 : decode cX3_valueAt 16 = .ok (.aload_n 0, 1) := by decide +kernel
theorem dX3_valueAt_17 : decode cX3_valueAt 17 = .ok (.getfield 15, 3) := by decide +kernel
theorem dX3_valueAt_20 : decode cX3_valueAt 20 = .ok (.iload 5, 2) := by decide +kernel
theorem dX3_valueAt_22 : decode cX3_valueAt 22 = .ok (.iaload, 1) := by decide +kernel
theorem dX3_valueAt_23 : decode cX3_valueAt 23 = .ok (.istore 6, 2) := by decide +kernel
theorem dX3_valueAt_25 : decode cX3_valueAt 25 = .ok (.iload 6, 2) := by decide +kernel
theorem dX3_valueAt_27 : decode cX3_valueAt 27 = .ok (.bipush (-4), 2) := by decide +kernel
theorem dX3_valueAt_29 : decode cX3_valueAt 29 = .ok (.if_icmp .le 31, 3) := by decide +kernel
theorem dX3_valueAt_32 : decode cX3_valueAt 32 = .ok (.iload 4, 2) := by decide +kernel
theorem dX3_valueAt_34 : decode cX3_valueAt 34 = .ok (.bipush 11, 2) := by decide +kernel
theorem dX3_valueAt_36 : decode cX3_valueAt 36 = .ok (.if_icmp .ge 63, 3) := by decide +kernel
theorem dX3_valueAt_39 : decode cX3_valueAt 39 = .ok (.aload_n 0, 1) := by decide +kernel
theorem dX3_valueAt_40 : decode cX3_valueAt 40 = .ok (.getfield 11, 3) := by decide +kernel
theorem dX3_valueAt_43 : decode cX3_valueAt 43 = .ok (.iload 4, 2) := by decide +kernel
theorem dX3_valueAt_45 : decode cX3_valueAt 45 = .ok (.iload 6, 2) := by decide +kernel
theorem dX3_valueAt_47 : decode cX3_valueAt 47 = .ok (.iload_n 1, 1) := by decide +kernel
theorem dX3_valueAt_48 : decode cX3_valueAt 48 = .ok (.iload_n 2, 1) := by decide +kernel
theorem dX3_valueAt_49 : decode cX3_valueAt 49 = .ok (.iload_n 3, 1) := by decide +kernel
theorem dX3_valueAt_50 : decode cX3_valueAt 50 = .ok (.invokestatic 19, 3) := by decide +kernel
theorem dX3_valueAt_53 : decode cX3_valueAt 53 = .ok (.lastore, 1) := by decide +kernel
theorem dX3_valueAt_54 : decode cX3_valueAt 54 = .ok (.iinc 4 1, 3) := by decide +kernel
theorem dX3_valueAt_57 : decode cX3_valueAt 57 = .ok (.goto 42, 3) := by decide +kernel
theorem dX3_valueAt_60 : decode cX3_valueAt 60 = .ok (.iload 4, 2) := by decide +kernel
theorem dX3_valueAt_62 : decode cX3_valueAt 62 = .ok (.iconst 2, 1) := by decide +kernel
theorem dX3_valueAt_63 : decode cX3_valueAt 63 = .ok (.if_icmp .lt 36, 3) := by decide +kernel
theorem dX3_valueAt_66 : decode cX3_valueAt 66 = .ok (.iinc 4 (-1), 3) := by decide +kernel
theorem dX3_valueAt_69 : decode cX3_valueAt 69 = .ok (.aload_n 0, 1) := by decide +kernel
theorem dX3_valueAt_70 : decode cX3_valueAt 70 = .ok (.getfield 11, 3) := by decide +kernel
theorem dX3_valueAt_73 : decode cX3_valueAt 73 = .ok (.iload 4, 2) := by decide +kernel
theorem dX3_valueAt_75 : decode cX3_valueAt 75 = .ok (.iconst 1, 1) := by decide +kernel
theorem dX3_valueAt_76 : decode cX3_valueAt 76 = .ok (.isub, 1) := by decide +kernel
theorem dX3_valueAt_77 : decode cX3_valueAt 77 = .ok (.iload 6, 2) := by decide +kernel
theorem dX3_valueAt_79 : decode cX3_valueAt 79 = .ok (.aload_n 0, 1) := by decide +kernel
theorem dX3_valueAt_80 : decode cX3_valueAt 80 = .ok (.getfield 11, 3) := by decide +kernel
theorem dX3_valueAt_83 : decode cX3_valueAt 83 = .ok (.iload 4, 2) := by decide +kernel
theorem dX3_valueAt_85 : decode cX3_valueAt 85 = .ok (.iconst 1, 1) := by decide +kernel
theorem dX3_valueAt_86 : decode cX3_valueAt 86 = .ok (.isub, 1) := by decide +kernel
theorem dX3_valueAt_87 : decode cX3_valueAt 87 = .ok (.laload, 1) := by decide +kernel
theorem dX3_valueAt_88 : decode cX3_valueAt 88 = .ok (.aload_n 0, 1) := by decide +kernel
theorem dX3_valueAt_89 : decode cX3_valueAt 89 = .ok (.getfield 11, 3) := by decide +kernel
theorem dX3_valueAt_92 : decode cX3_valueAt 92 = .ok (.iload 4, 2) := by decide +kernel
theorem dX3_valueAt_94 : decode cX3_valueAt 94 = .ok (.laload, 1) := by decide +kernel
theorem dX3_valueAt_95 : decode cX3_valueAt 95 = .ok (.invokestatic 23, 3) := by decide +kernel
theorem dX3_valueAt_98 : decode cX3_valueAt 98 = .ok (.lastore, 1) := by decide +kernel
theorem dX3_valueAt_99 : decode cX3_valueAt 99 = .ok (.iinc 5 1, 3) := by decide +kernel
theorem dX3_valueAt_102 : decode cX3_valueAt 102 = .ok (.goto (-96), 3) := by decide +kernel
theorem dX3_valueAt_105 : decode cX3_valueAt 105 = .ok (.aload_n 0, 1) := by decide +kernel
theorem dX3_valueAt_106 : decode cX3_valueAt 106 = .ok (.getfield 11, 3) := by decide +kernel
theorem dX3_valueAt_109 : decode cX3_valueAt 109 = .ok (.iconst 0, 1) := by decide +kernel
theorem dX3_valueAt_110 : decode cX3_valueAt 110 = .ok (.laload, 1) := by decide +kernel
theorem dX3_valueAt_111 : decode cX3_valueAt 111 = .ok (.lreturn, 1) := by decide +kernel
theorem dX3_operand_0 : decode cX3_operand 0 = .ok (.iload_n 0, 1) := by decide +kernel
theorem dX3_operand_1 : decode cX3_operand 1 = .ok (.tableswitch 36 (-3) (-1) #[33, 30, 27], 27) := by decide +kernel
theorem dX3_operand_28 : decode cX3_operand 28 = .ok (.iload_n 1, 1) := by decide +kernel
theorem dX3_operand_29 : decode cX3_operand 29 = .ok (.i2l, 1) := by decide +kernel
theorem dX3_operand_30 : decode cX3_operand 30 = .ok (.lreturn, 1) := by decide +kernel
theorem dX3_operand_31 : decode cX3_operand 31 = .ok (.iload_n 2, 1) := by decide +kernel
theorem dX3_operand_32 : decode cX3_operand 32 = .ok (.i2l, 1) := by decide +kernel
theorem dX3_operand_33 : decode cX3_operand 33 = .ok (.lreturn, 1) := by decide +kernel
theorem dX3_operand_34 : decode cX3_operand 34 = .ok (.iload_n 3, 1) := by decide +kernel
theorem dX3_operand_35 : decode cX3_operand 35 = .ok (.i2l, 1) := by decide +kernel
theorem dX3_operand_36 : decode cX3_operand 36 = .ok (.lreturn, 1) := by decide +kernel
theorem dX3_operand_37 : decode cX3_operand 37 = .ok (.iload_n 0, 1) := by decide +kernel
theorem dX3_operand_38 : decode cX3_operand 38 = .ok (.i2l, 1) := by decide +kernel
theorem dX3_operand_39 : decode cX3_operand 39 = .ok (.lreturn, 1) := by decide +kernel
theorem dX3_result_0 : decode cX3_result 0 = .ok (.iload_n 0, 1) := by decide +kernel
theorem dX3_result_1 : decode cX3_result 1 = .ok (.tableswitch 51 (-6) (-4) #[43, 35, 27], 27) := by decide +kernel
theorem dX3_result_28 : decode cX3_result 28 = .ok (.lload_n 1, 1) := by decide +kernel
theorem dX3_result_29 : decode cX3_result 29 = .ok (.lload_n 3, 1) := by decide +kernel
theorem dX3_result_30 : decode cX3_result 30 = .ok (.ladd, 1) := by decide +kernel
theorem dX3_result_31 : decode cX3_result 31 = .ok (.lstore 5, 2) := by decide +kernel
theorem dX3_result_33 : decode cX3_result 33 = .ok (.goto 34, 3) := by decide +kernel
theorem dX3_result_36 : decode cX3_result 36 = .ok (.lload_n 1, 1) := by decide +kernel
theorem dX3_result_37 : decode cX3_result 37 = .ok (.lload_n 3, 1) := by decide +kernel
theorem dX3_result_38 : decode cX3_result 38 = .ok (.lsub, 1) := by decide +kernel
theorem dX3_result_39 : decode cX3_result 39 = .ok (.lstore 5, 2) := by decide +kernel
theorem dX3_result_41 : decode cX3_result 41 = .ok (.goto 26, 3) := by decide +kernel
theorem dX3_result_44 : decode cX3_result 44 = .ok (.lload_n 1, 1) := by decide +kernel
theorem dX3_result_45 : decode cX3_result 45 = .ok (.lload_n 3, 1) := by decide +kernel
theorem dX3_result_46 : decode cX3_result 46 = .ok (.lmul, 1) := by decide +kernel
theorem dX3_result_47 : decode cX3_result 47 = .ok (.lstore 5, 2) := by decide +kernel
theorem dX3_result_49 : decode cX3_result 49 = .ok (.goto 18, 3) := by decide +kernel
theorem dX3_result_52 : decode cX3_result 52 = .ok (.lload_n 3, 1) := by decide +kernel
theorem dX3_result_53 : decode cX3_result 53 = .ok (.lconst 0, 1) := by decide +kernel
theorem dX3_result_54 : decode cX3_result 54 = .ok (.lcmp, 1) := by decide +kernel
theorem dX3_result_55 : decode cX3_result 55 = .ok (.ifCond .ne 7, 3) := by decide +kernel
theorem dX3_result_58 : decode cX3_result 58 = .ok (.lconst 0, 1) := by decide +kernel
theorem dX3_result_59 : decode cX3_result 59 = .ok (.goto 6, 3) := by decide +kernel
theorem dX3_result_62 : decode cX3_result 62 = .ok (.lload_n 1, 1) := by decide +kernel
theorem dX3_result_63 : decode cX3_result 63 = .ok (.lload_n 3, 1) := by decide +kernel
theorem dX3_result_64 : decode cX3_result 64 = .ok (.ldiv, 1) := by decide +kernel
theorem dX3_result_65 : decode cX3_result 65 = .ok (.lstore 5, 2) := by decide +kernel
theorem dX3_result_67 : decode cX3_result 67 = .ok (.ldc2_w 27, 3) := by decide +kernel
theorem dX3_result_70 : decode cX3_result 70 = .ok (.ldc2_w 29, 3) := by decide +kernel
theorem dX3_result_73 : decode cX3_result 73 = .ok (.lload 5, 2) := by decide +kernel
theorem dX3_result_75 : decode cX3_result 75 = .ok (.invokestatic 31, 3) := by decide +kernel
theorem dX3_result_78 : decode cX3_result 78 = .ok (.invokestatic 37, 3) := by decide +kernel
theorem dX3_result_81 : decode cX3_result 81 = .ok (.lreturn, 1) := by decide +kernel
theorem dX4_init_0 : decode cX4_init 0 = .ok (.aload_n 0, 1) := by decide +kernel
theorem dX4_init_1 : decode cX4_init 1 = .ok (.invokespecial 3, 3) := by decide +kernel
theorem dX4_init_4 : decode cX4_init 4 = .ok (.aload_n 0, 1) := by decide +kernel
theorem dX4_init_5 : decode cX4_init 5 = .ok (.new 9, 3) := by decide +kernel
theorem dX4_init_8 : decode cX4_init 8 = .ok (.dup, 1) := by decide +kernel
theorem dX4_init_9 : decode cX4_init 9 = .ok (.invokespecial 11, 3) := by decide +kernel
theorem dX4_init_12 : decode cX4_init 12 = .ok (.putfield 12, 3) := by decide +kernel
theorem dX4_init_15 : decode cX4_init 15 = .ok (.aload_n 0, 1) := by decide +kernel
theorem dX4_init_16 : decode cX4_init 16 = .ok (.sipush 800, 3) := by decide +kernel
theorem dX4_init_19 : decode cX4_init 19 = .ok (.newarray .int, 2) := by decide +kernel
theorem dX4_init_21 : decode cX4_init 21 = .ok (.putfield 18, 3) := by decide +kernel
theorem dX4_init_24 : decode cX4_init 24 = .ok (.aload_n 0, 1) := by decide +kernel
theorem dX4_init_25 : decode cX4_init 25 = .ok (.new 22, 3) := by decide +kernel
theorem dX4_init_28 : decode cX4_init 28 = .ok (.dup, 1) := by decide +kernel
theorem dX4_init_29 : decode cX4_init 29 = .ok (.aload_n 1, 1) := by decide +kernel
theorem dX4_init_30 : decode cX4_init 30 = .ok (.invokespecial 24, 3) := by decide +kernel
theorem dX4_init_33 : decode cX4_init 33 = .ok (.putfield 27, 3) := by decide +kernel
theorem dX4_init_36 : decode cX4_init 36 = .ok (.return_, 1) := by decide +kernel
theorem dX4_readSetup_0 : decode cX4_readSetup 0 = .ok (.aload_n 0, 1) := by decide +kernel
theorem dX4_readSetup_1 : decode cX4_readSetup 1 = .ok (.getfield 27, 3) := by decide +kernel
theorem dX4_readSetup_4 : decode cX4_readSetup 4 = .ok (.new 31, 3) := by decide +kernel
theorem dX4_readSetup_7 : decode cX4_readSetup 7 = .ok (.dup, 1) := by decide +kernel
theorem dX4_readSetup_8 : decode cX4_readSetup 8 = .ok (.invokespecial 33, 3) := by decide +kernel
theorem dX4_readSetup_11 : decode cX4_readSetup 11 = .ok (.invokevirtual 34, 3) := by decide +kernel
theorem dX4_readSetup_14 : decode cX4_readSetup 14 = .ok (.aload_n 0, 1) := by decide +kernel
theorem dX4_readSetup_15 : decode cX4_readSetup 15 = .ok (.iconst 0, 1) := by decide +kernel
theorem dX4_readSetup_16 : decode cX4_readSetup 16 = .ok (.putfield 37, 3) := by decide +kernel
theorem dX4_readSetup_19 : decode cX4_readSetup 19 = .ok (.aload_n 0, 1) := by decide +kernel
theorem dX4_readSetup_20 : decode cX4_readSetup 20 = .ok (.iconst 0, 1) := by decide +kernel
theorem dX4_readSetup_21 : decode cX4_readSetup 21 = .ok (.putfield 41, 3) := by decide +kernel
theorem dX4_readSetup_24 : decode cX4_readSetup 24 = .ok (.aload_n 0, 1) := by decide +kernel
theorem dX4_readSetup_25 : decode cX4_readSetup 25 = .ok (.iconst 0, 1) := by decide +kernel
theorem dX4_readSetup_26 : decode cX4_readSetup 26 = .ok (.putfield 45, 3) := by decide +kernel
theorem dX4_readSetup_29 : decode cX4_readSetup 29 = .ok (.aload_n 0, 1) := by decide +kernel
theorem dX4_readSetup_30 : decode cX4_readSetup 30 = .ok (.iconst 0, 1) := by decide +kernel
theorem dX4_readSetup_31 : decode cX4_readSetup 31 = .ok (.putfield 48, 3) := by decide +kernel
theorem dX4_readSetup_34 : decode cX4_readSetup 34 = .ok (.aload_n 0, 1) := by decide +kernel
theorem dX4_readSetup_35 : decode cX4_readSetup 35 = .ok (.getfield 12, 3) := by decide +kernel
theorem dX4_readSetup_38 : decode cX4_readSetup 38 = .ok (.iload_n 1, 1) := by decide +kernel
theorem dX4_readSetup_39 : decode cX4_readSetup 39 = .ok (.invokevirtual 51, 3) := by decide +kernel
theorem dX4_readSetup_42 : decode cX4_readSetup 42 = .ok (.aload_n 0, 1) := by decide +kernel
theorem dX4_readSetup_43 : decode cX4_readSetup 43 = .ok (.invokevirtual 55, 3) := by decide +kernel
theorem dX4_readSetup_46 : decode cX4_readSetup 46 = .ok (.ifCond .eq 12, 3) := by decide +kernel
theorem dX4_readSetup_49 : decode cX4_readSetup 49 = .ok (.aload_n 0, 1) := by decide +kernel
theorem dX4_readSetup_50 : decode cX4_readSetup 50 = .ok (.bipush 59, 2) := by decide +kernel
theorem dX4_readSetup_52 : decode cX4_readSetup 52 = .ok (.invokevirtual 59, 3) := by decide +kernel
theorem dX4_readSetup_55 : decode cX4_readSetup 55 = .ok (.ifCond .ne 5, 3) := by decide +kernel
theorem dX4_readSetup_58 : decode cX4_readSetup 58 = .ok (.iconst 0, 1) := by decide +kernel
theorem dX4_readSetup_59 : decode cX4_readSetup 59 = .ok (.ireturn, 1) := by decide +kernel
theorem dX4_readSetup_60 : decode cX4_readSetup 60 = .ok (.iconst 0, 1) := by decide +kernel
theorem dX4_readSetup_61 : decode cX4_readSetup 61 = .ok (.istore_n 2, 1) := by decide +kernel
theorem dX4_readSetup_62 : decode cX4_readSetup 62 = .ok (.iload_n 2, 1) := by decide +kernel
theorem dX4_readSetup_63 : decode cX4_readSetup 63 = .ok (.sipush 800, 3) := by decide +kernel
theorem dX4_readSetup_66 : decode cX4_readSetup 66 = .ok (.if_icmp .ge 40, 3) := by decide +kernel
theorem dX4_readSetup_69 : decode cX4_readSetup 69 = .ok (.aload_n 0, 1) := by decide +kernel
theorem dX4_readSetup_70 : decode cX4_readSetup 70 = .ok (.getfield 12, 3) := by decide +kernel
theorem dX4_readSetup_73 : decode cX4_readSetup 73 = .ok (.getfield 63, 3) := by decide +kernel
theorem dX4_readSetup_76 : decode cX4_readSetup 76 = .ok (.sipush 258, 3) := by decide +kernel
theorem dX4_readSetup_79 : decode cX4_readSetup 79 = .ok (.if_icmp .eq 27, 3) := by decide +kernel
theorem dX4_readSetup_82 : decode cX4_readSetup 82 = .ok (.aload_n 0, 1) := by decide +kernel
theorem dX4_readSetup_83 : decode cX4_readSetup 83 = .ok (.invokevirtual 66, 3) := by decide +kernel
theorem dX4_readSetup_86 : decode cX4_readSetup 86 = .ok (.ifCond .eq 12, 3) := by decide +kernel
theorem dX4_readSetup_89 : decode cX4_readSetup 89 = .ok (.aload_n 0, 1) := by decide +kernel
theorem dX4_readSetup_90 : decode cX4_readSetup 90 = .ok (.bipush 59, 2) := by decide +kernel
theorem dX4_readSetup_92 : decode cX4_readSetup 92 = .ok (.invokevirtual 59, 3) := by decide +kernel
theorem dX4_readSetup_95 : decode cX4_readSetup 95 = .ok (.ifCond .ne 5, 3) := by decide +kernel
theorem dX4_readSetup_98 : decode cX4_readSetup 98 = .ok (.iconst 0, 1) := by decide +kernel
theorem dX4_readSetup_99 : decode cX4_readSetup 99 = .ok (.ireturn, 1) := by decide +kernel
theorem dX4_readSetup_100 : decode cX4_readSetup 100 = .ok (.iinc 2 1, 3) := by decide +kernel
theorem dX4_readSetup_103 : decode cX4_readSetup 103 = .ok (.goto (-41), 3) := by decide +kernel
theorem dX4_readSetup_106 : decode cX4_readSetup 106 = .ok (.iconst 1, 1) := by decide +kernel
theorem dX4_readSetup_107 : decode cX4_readSetup 107 = .ok (.ireturn, 1) := by decide +kernel
theorem dX4_readTunnel_0 : decode cX4_readTunnel 0 = .ok (.aload_n 0, 1) := by decide +kernel
theorem dX4_readTunnel_1 : decode cX4_readTunnel 1 = .ok (.getfield 12, 3) := by decide +kernel
theorem dX4_readTunnel_4 : decode cX4_readTunnel 4 = .ok (.ldc 69, 2) := by decide +kernel
theorem dX4_readTunnel_6 : decode cX4_readTunnel 6 = .ok (.invokevirtual 70, 3) := by decide +kernel
theorem dX4_readTunnel_9 : decode cX4_readTunnel 9 = .ok (.ifCond .ne 17, 3) := by decide +kernel
theorem dX4_readTunnel_12 : decode cX4_readTunnel 12 = .ok (.aload_n 0, 1) := by decide +kernel
theorem dX4_readTunnel_13 : decode cX4_readTunnel 13 = .ok (.bipush (-2), 2) := by decide +kernel
theorem dX4_readTunnel_15 : decode cX4_readTunnel 15 = .ok (.aload_n 0, 1) := by decide +kernel
theorem dX4_readTunnel_16 : decode cX4_readTunnel 16 = .ok (.getfield 12, 3) := by decide +kernel
theorem dX4_readTunnel_19 : decode cX4_readTunnel 19 = .ok (.getfield 74, 3) := by decide +kernel
theorem dX4_readTunnel_22 : decode cX4_readTunnel 22 = .ok (.invokevirtual 77, 3) := by decide +kernel
theorem dX4_readTunnel_25 : decode cX4_readTunnel 25 = .ok (.ireturn, 1) := by decide +kernel
theorem dX4_readTunnel_26 : decode cX4_readTunnel 26 = .ok (.aload_n 0, 1) := by decide +kernel
theorem dX4_readTunnel_27 : decode cX4_readTunnel 27 = .ok (.getfield 12, 3) := by decide +kernel
theorem dX4_readTunnel_30 : decode cX4_readTunnel 30 = .ok (.invokevirtual 81, 3) := by decide +kernel
theorem dX4_readTunnel_33 : decode cX4_readTunnel 33 = .ok (.aload_n 0, 1) := by decide +kernel
theorem dX4_readTunnel_34 : decode cX4_readTunnel 34 = .ok (.iconst 2, 1) := by decide +kernel
theorem dX4_readTunnel_35 : decode cX4_readTunnel 35 = .ok (.bipush 12, 2) := by decide +kernel
theorem dX4_readTunnel_37 : decode cX4_readTunnel 37 = .ok (.invokevirtual 84, 3) := by decide +kernel
theorem dX4_readTunnel_40 : decode cX4_readTunnel 40 = .ok (.ifCond .ne 5, 3) := by decide +kernel
theorem dX4_readTunnel_43 : decode cX4_readTunnel 43 = .ok (.iconst 0, 1) := by decide +kernel
theorem dX4_readTunnel_44 : decode cX4_readTunnel 44 = .ok (.ireturn, 1) := by decide +kernel
theorem dX4_readTunnel_45 : decode cX4_readTunnel 45 = .ok (.aload_n 0, 1) := by decide +kernel
theorem dX4_readTunnel_46 : decode cX4_readTunnel 46 = .ok (.getfield 27, 3) := by decide +kernel
theorem dX4_readTunnel_49 : decode cX4_readTunnel 49 = .ok (.getfield 87, 3) := by decide +kernel
theorem dX4_readTunnel_52 : decode cX4_readTunnel 52 = .ok (.aload_n 0, 1) := by decide +kernel
theorem dX4_readTunnel_53 : decode cX4_readTunnel 53 = .ok (.getfield 91, 3) := by decide +kernel
theorem dX4_readTunnel_56 : decode cX4_readTunnel 56 = .ok (.putfield 94, 3) := by decide +kernel
theorem dX4_readTunnel_59 : decode cX4_readTunnel 59 = .ok (.aload_n 0, 1) := by decide +kernel
theorem dX4_readTunnel_60 : decode cX4_readTunnel 60 = .ok (.iconst 1, 1) := by decide +kernel
theorem dX4_readTunnel_61 : decode cX4_readTunnel 61 = .ok (.iconst 4, 1) := by decide +kernel
theorem dX4_readTunnel_62 : decode cX4_readTunnel 62 = .ok (.invokevirtual 84, 3) := by decide +kernel
theorem dX4_readTunnel_65 : decode cX4_readTunnel 65 = .ok (.ifCond .ne 5, 3) := by decide +kernel
theorem dX4_readTunnel_68 : decode cX4_readTunnel 68 = .ok (.iconst 0, 1) := by decide +kernel
theorem dX4_readTunnel_69 : decode cX4_readTunnel 69 = .ok (.ireturn, 1) := by decide +kernel
theorem dX4_readTunnel_70 : decode cX4_readTunnel 70 = .ok (.aload_n 0, 1) := by decide +kernel
theorem dX4_readTunnel_71 : decode cX4_readTunnel 71 = .ok (.getfield 27, 3) := by decide +kernel
theorem dX4_readTunnel_74 : decode cX4_readTunnel 74 = .ok (.getfield 87, 3) := by decide +kernel
theorem dX4_readTunnel_77 : decode cX4_readTunnel 77 = .ok (.aload_n 0, 1) := by decide +kernel
theorem dX4_readTunnel_78 : decode cX4_readTunnel 78 = .ok (.getfield 91, 3) := by decide +kernel
theorem dX4_readTunnel_81 : decode cX4_readTunnel 81 = .ok (.putfield 97, 3) := by decide +kernel
theorem dX4_readTunnel_84 : decode cX4_readTunnel 84 = .ok (.iconst 1, 1) := by decide +kernel
theorem dX4_readTunnel_85 : decode cX4_readTunnel 85 = .ok (.ireturn, 1) := by decide +kernel
theorem dX4_readStatement_0 : decode cX4_readStatement 0 = .ok (.aload_n 0, 1) := by decide +kernel
theorem dX4_readStatement_1 : decode cX4_readStatement 1 = .ok (.getfield 12, 3) := by decide +kernel
theorem dX4_readStatement_4 : decode cX4_readStatement 4 = .ok (.ldc 100, 2) := by decide +kernel
theorem dX4_readStatement_6 : decode cX4_readStatement 6 = .ok (.invokevirtual 70, 3) := by decide +kernel
theorem dX4_readStatement_9 : decode cX4_readStatement 9 = .ok (.ifCond .eq 8, 3) := by decide +kernel
theorem dX4_readStatement_12 : decode cX4_readStatement 12 = .ok (.aload_n 0, 1) := by decide +kernel
theorem dX4_readStatement_13 : decode cX4_readStatement 13 = .ok (.invokevirtual 102, 3) := by decide +kernel
theorem dX4_readStatement_16 : decode cX4_readStatement 16 = .ok (.ireturn, 1) := by decide +kernel
theorem dX4_readStatement_17 : decode cX4_readStatement 17 = .ok (.aload_n 0, 1) := by decide +kernel
theorem dX4_readStatement_18 : decode cX4_readStatement 18 = .ok (.getfield 12, 3) := by decide +kernel
theorem dX4_readStatement_21 : decode cX4_readStatement 21 = .ok (.ldc 105, 2) := by decide +kernel
theorem dX4_readStatement_23 : decode cX4_readStatement 23 = .ok (.invokevirtual 70, 3) := by decide +kernel
theorem dX4_readStatement_26 : decode cX4_readStatement 26 = .ok (.ifCond .eq 8, 3) := by decide +kernel
theorem dX4_readStatement_29 : decode cX4_readStatement 29 = .ok (.aload_n 0, 1) := by decide +kernel
theorem dX4_readStatement_30 : decode cX4_readStatement 30 = .ok (.invokevirtual 107, 3) := by decide +kernel
theorem dX4_readStatement_33 : decode cX4_readStatement 33 = .ok (.ireturn, 1) := by decide +kernel
theorem dX4_readStatement_34 : decode cX4_readStatement 34 = .ok (.aload_n 0, 1) := by decide +kernel
theorem dX4_readStatement_35 : decode cX4_readStatement 35 = .ok (.getfield 12, 3) := by decide +kernel
theorem dX4_readStatement_38 : decode cX4_readStatement 38 = .ok (.ldc 110, 2) := by decide +kernel
theorem dX4_readStatement_40 : decode cX4_readStatement 40 = .ok (.invokevirtual 70, 3) := by decide +kernel
theorem dX4_readStatement_43 : decode cX4_readStatement 43 = .ok (.ifCond .eq 8, 3) := by decide +kernel
theorem dX4_readStatement_46 : decode cX4_readStatement 46 = .ok (.aload_n 0, 1) := by decide +kernel
theorem dX4_readStatement_47 : decode cX4_readStatement 47 = .ok (.invokevirtual 112, 3) := by decide +kernel
theorem dX4_readStatement_50 : decode cX4_readStatement 50 = .ok (.ireturn, 1) := by decide +kernel
theorem dX4_readStatement_51 : decode cX4_readStatement 51 = .ok (.aload_n 0, 1) := by decide +kernel
theorem dX4_readStatement_52 : decode cX4_readStatement 52 = .ok (.getfield 12, 3) := by decide +kernel
theorem dX4_readStatement_55 : decode cX4_readStatement 55 = .ok (.ldc 115, 2) := by decide +kernel
theorem dX4_readStatement_57 : decode cX4_readStatement 57 = .ok (.invokevirtual 70, 3) := by decide +kernel
theorem dX4_readStatement_60 : decode cX4_readStatement 60 = .ok (.ifCond .eq 8, 3) := by decide +kernel
theorem dX4_readStatement_63 : decode cX4_readStatement 63 = .ok (.aload_n 0, 1) := by decide +kernel
theorem dX4_readStatement_64 : decode cX4_readStatement 64 = .ok (.invokevirtual 117, 3) := by decide +kernel
theorem dX4_readStatement_67 : decode cX4_readStatement 67 = .ok (.ireturn, 1) := by decide +kernel
theorem dX4_readStatement_68 : decode cX4_readStatement 68 = .ok (.aload_n 0, 1) := by decide +kernel
theorem dX4_readStatement_69 : decode cX4_readStatement 69 = .ok (.getfield 12, 3) := by decide +kernel
theorem dX4_readStatement_72 : decode cX4_readStatement 72 = .ok (.ldc 120, 2) := by decide +kernel
theorem dX4_readStatement_74 : decode cX4_readStatement 74 = .ok (.invokevirtual 70, 3) := by decide +kernel
theorem dX4_readStatement_77 : decode cX4_readStatement 77 = .ok (.ifCond .eq 8, 3) := by decide +kernel
theorem dX4_readStatement_80 : decode cX4_readStatement 80 = .ok (.aload_n 0, 1) := by decide +kernel
theorem dX4_readStatement_81 : decode cX4_readStatement 81 = .ok (.invokevirtual 122, 3) := by decide +kernel
theorem dX4_readStatement_84 : decode cX4_readStatement 84 = .ok (.ireturn, 1) := by decide +kernel
theorem dX4_readStatement_85 : decode cX4_readStatement 85 = .ok (.aload_n 0, 1) := by decide +kernel
theorem dX4_readStatement_86 : decode cX4_readStatement 86 = .ok (.getfield 12, 3) := by decide +kernel
theorem dX4_readStatement_89 : decode cX4_readStatement 89 = .ok (.ldc 125, 2) := by decide +kernel
theorem dX4_readStatement_91 : decode cX4_readStatement 91 = .ok (.invokevirtual 70, 3) := by decide +kernel
theorem dX4_readStatement_94 : decode cX4_readStatement 94 = .ok (.ifCond .eq 8, 3) := by decide +kernel
theorem dX4_readStatement_97 : decode cX4_readStatement 97 = .ok (.aload_n 0, 1) := by decide +kernel
theorem dX4_readStatement_98 : decode cX4_readStatement 98 = .ok (.invokevirtual 127, 3) := by decide +kernel
theorem dX4_readStatement_101 : decode cX4_readStatement 101 = .ok (.ireturn, 1) := by decide +kernel
theorem dX4_readStatement_102 : decode cX4_readStatement 102 = .ok (.aload_n 0, 1) := by decide +kernel
theorem dX4_readStatement_103 : decode cX4_readStatement 103 = .ok (.getfield 12, 3) := by decide +kernel
theorem dX4_readStatement_106 : decode cX4_readStatement 106 = .ok (.ldc 130, 2) := by decide +kernel
theorem dX4_readStatement_108 : decode cX4_readStatement 108 = .ok (.invokevirtual 70, 3) := by decide +kernel
theorem dX4_readStatement_111 : decode cX4_readStatement 111 = .ok (.ifCond .eq 8, 3) := by decide +kernel
theorem dX4_readStatement_114 : decode cX4_readStatement 114 = .ok (.aload_n 0, 1) := by decide +kernel
theorem dX4_readStatement_115 : decode cX4_readStatement 115 = .ok (.invokevirtual 132, 3) := by decide +kernel
theorem dX4_readStatement_118 : decode cX4_readStatement 118 = .ok (.ireturn, 1) := by decide +kernel
theorem dX4_readStatement_119 : decode cX4_readStatement 119 = .ok (.aload_n 0, 1) := by decide +kernel
theorem dX4_readStatement_120 : decode cX4_readStatement 120 = .ok (.getfield 12, 3) := by decide +kernel
theorem dX4_readStatement_123 : decode cX4_readStatement 123 = .ok (.ldc 135, 2) := by decide +kernel
theorem dX4_readStatement_125 : decode cX4_readStatement 125 = .ok (.invokevirtual 70, 3) := by decide +kernel
theorem dX4_readStatement_128 : decode cX4_readStatement 128 = .ok (.ifCond .eq 31, 3) := by decide +kernel
theorem dX4_readStatement_131 : decode cX4_readStatement 131 = .ok (.aload_n 0, 1) := by decide +kernel
theorem dX4_readStatement_132 : decode cX4_readStatement 132 = .ok (.invokevirtual 137, 3) := by decide +kernel
theorem dX4_readStatement_135 : decode cX4_readStatement 135 = .ok (.ifCond .eq 22, 3) := by decide +kernel
theorem dX4_readStatement_138 : decode cX4_readStatement 138 = .ok (.aload_n 0, 1) := by decide +kernel
theorem dX4_readStatement_139 : decode cX4_readStatement 139 = .ok (.iconst 0, 1) := by decide +kernel
theorem dX4_readStatement_140 : decode cX4_readStatement 140 = .ok (.invokevirtual 140, 3) := by decide +kernel
theorem dX4_readStatement_143 : decode cX4_readStatement 143 = .ok (.ifCond .eq 14, 3) := by decide +kernel
theorem dX4_readStatement_146 : decode cX4_readStatement 146 = .ok (.aload_n 0, 1) := by decide +kernel
theorem dX4_readStatement_147 : decode cX4_readStatement 147 = .ok (.invokevirtual 143, 3) := by decide +kernel
theorem dX4_readStatement_150 : decode cX4_readStatement 150 = .ok (.ifCond .eq 7, 3) := by decide +kernel
theorem dX4_readStatement_153 : decode cX4_readStatement 153 = .ok (.iconst 1, 1) := by decide +kernel
theorem dX4_readStatement_154 : decode cX4_readStatement 154 = .ok (.goto 4, 3) := by decide +kernel
theorem dX4_readStatement_157 : decode cX4_readStatement 157 = .ok (.iconst 0, 1) := by decide +kernel
theorem dX4_readStatement_158 : decode cX4_readStatement 158 = .ok (.ireturn, 1) := by decide +kernel
theorem dX4_readStatement_159 : decode cX4_readStatement 159 = .ok (.aload_n 0, 1) := by decide +kernel
theorem dX4_readStatement_160 : decode cX4_readStatement 160 = .ok (.bipush (-2), 2) := by decide +kernel
theorem dX4_readStatement_162 : decode cX4_readStatement 162 = .ok (.aload_n 0, 1) := by decide +kernel
theorem dX4_readStatement_163 : decode cX4_readStatement 163 = .ok (.getfield 12, 3) := by decide +kernel
theorem dX4_readStatement_166 : decode cX4_readStatement 166 = .ok (.getfield 74, 3) := by decide +kernel
theorem dX4_readStatement_169 : decode cX4_readStatement 169 = .ok (.invokevirtual 77, 3) := by decide +kernel
theorem dX4_readStatement_172 : decode cX4_readStatement 172 = .ok (.ireturn, 1) := by decide +kernel
theorem dX4_readBay_0 : decode cX4_readBay 0 = .ok (.aload_n 0, 1) := by decide +kernel
theorem dX4_readBay_1 : decode cX4_readBay 1 = .ok (.getfield 37, 3) := by decide +kernel
theorem dX4_readBay_4 : decode cX4_readBay 4 = .ok (.bipush 6, 2) := by decide +kernel
theorem dX4_readBay_6 : decode cX4_readBay 6 = .ok (.if_icmp .lt 17, 3) := by decide +kernel
theorem dX4_readBay_9 : decode cX4_readBay 9 = .ok (.aload_n 0, 1) := by decide +kernel
theorem dX4_readBay_10 : decode cX4_readBay 10 = .ok (.bipush (-4), 2) := by decide +kernel
theorem dX4_readBay_12 : decode cX4_readBay 12 = .ok (.aload_n 0, 1) := by decide +kernel
theorem dX4_readBay_13 : decode cX4_readBay 13 = .ok (.getfield 12, 3) := by decide +kernel
theorem dX4_readBay_16 : decode cX4_readBay 16 = .ok (.getfield 74, 3) := by decide +kernel
theorem dX4_readBay_19 : decode cX4_readBay 19 = .ok (.invokevirtual 77, 3) := by decide +kernel
theorem dX4_readBay_22 : decode cX4_readBay 22 = .ok (.ireturn, 1) := by decide +kernel
theorem dX4_readBay_23 : decode cX4_readBay 23 = .ok (.aload_n 0, 1) := by decide +kernel
theorem dX4_readBay_24 : decode cX4_readBay 24 = .ok (.getfield 12, 3) := by decide +kernel
theorem dX4_readBay_27 : decode cX4_readBay 27 = .ok (.invokevirtual 81, 3) := by decide +kernel
theorem dX4_readBay_30 : decode cX4_readBay 30 = .ok (.aload_n 0, 1) := by decide +kernel
theorem dX4_readBay_31 : decode cX4_readBay 31 = .ok (.invokevirtual 146, 3) := by decide +kernel
theorem dX4_readBay_34 : decode cX4_readBay 34 = .ok (.ifCond .ne 5, 3) := by decide +kernel
theorem dX4_readBay_37 : decode cX4_readBay 37 = .ok (.iconst 0, 1) := by decide +kernel
theorem dX4_readBay_38 : decode cX4_readBay 38 = .ok (.ireturn, 1) := by decide +kernel
theorem dX4_readBay_39 : decode cX4_readBay 39 = .ok (.aload_n 0, 1) := by decide +kernel
theorem dX4_readBay_40 : decode cX4_readBay 40 = .ok (.getfield 27, 3) := by decide +kernel
theorem dX4_readBay_43 : decode cX4_readBay 43 = .ok (.getfield 149, 3) := by decide +kernel
theorem dX4_readBay_46 : decode cX4_readBay 46 = .ok (.aload_n 0, 1) := by decide +kernel
theorem dX4_readBay_47 : decode cX4_readBay 47 = .ok (.getfield 91, 3) := by decide +kernel
theorem dX4_readBay_50 : decode cX4_readBay 50 = .ok (.iaload, 1) := by decide +kernel
theorem dX4_readBay_51 : decode cX4_readBay 51 = .ok (.iconst (-1), 1) := by decide +kernel
theorem dX4_readBay_52 : decode cX4_readBay 52 = .ok (.if_icmp .eq 14, 3) := by decide +kernel
theorem dX4_readBay_55 : decode cX4_readBay 55 = .ok (.aload_n 0, 1) := by decide +kernel
theorem dX4_readBay_56 : decode cX4_readBay 56 = .ok (.bipush (-3), 2) := by decide +kernel
theorem dX4_readBay_58 : decode cX4_readBay 58 = .ok (.aload_n 0, 1) := by decide +kernel
theorem dX4_readBay_59 : decode cX4_readBay 59 = .ok (.getfield 151, 3) := by decide +kernel
theorem dX4_readBay_62 : decode cX4_readBay 62 = .ok (.invokevirtual 77, 3) := by decide +kernel
theorem dX4_readBay_65 : decode cX4_readBay 65 = .ok (.ireturn, 1) := by decide +kernel
theorem dX4_readBay_66 : decode cX4_readBay 66 = .ok (.aload_n 0, 1) := by decide +kernel
theorem dX4_readBay_67 : decode cX4_readBay 67 = .ok (.getfield 27, 3) := by decide +kernel
theorem dX4_readBay_70 : decode cX4_readBay 70 = .ok (.getfield 149, 3) := by decide +kernel
theorem dX4_readBay_73 : decode cX4_readBay 73 = .ok (.aload_n 0, 1) := by decide +kernel
theorem dX4_readBay_74 : decode cX4_readBay 74 = .ok (.getfield 91, 3) := by decide +kernel
theorem dX4_readBay_77 : decode cX4_readBay 77 = .ok (.iconst 1, 1) := by decide +kernel
theorem dX4_readBay_78 : decode cX4_readBay 78 = .ok (.iastore, 1) := by decide +kernel
theorem dX4_readBay_79 : decode cX4_readBay 79 = .ok (.aload_n 0, 1) := by decide +kernel
theorem dX4_readBay_80 : decode cX4_readBay 80 = .ok (.dup, 1) := by decide +kernel
theorem dX4_readBay_81 : decode cX4_readBay 81 = .ok (.getfield 37, 3) := by decide +kernel
theorem dX4_readBay_84 : decode cX4_readBay 84 = .ok (.iconst 1, 1) := by decide +kernel
theorem dX4_readBay_85 : decode cX4_readBay 85 = .ok (.iadd, 1) := by decide +kernel
theorem dX4_readBay_86 : decode cX4_readBay 86 = .ok (.putfield 37, 3) := by decide +kernel
theorem dX4_readBay_89 : decode cX4_readBay 89 = .ok (.iconst 1, 1) := by decide +kernel
theorem dX4_readBay_90 : decode cX4_readBay 90 = .ok (.ireturn, 1) := by decide +kernel
theorem dX4_readVent_0 : decode cX4_readVent 0 = .ok (.aload_n 0, 1) := by decide +kernel
theorem dX4_readVent_1 : decode cX4_readVent 1 = .ok (.getfield 12, 3) := by decide +kernel
theorem dX4_readVent_4 : decode cX4_readVent 4 = .ok (.invokevirtual 81, 3) := by decide +kernel
theorem dX4_readVent_7 : decode cX4_readVent 7 = .ok (.aload_n 0, 1) := by decide +kernel
theorem dX4_readVent_8 : decode cX4_readVent 8 = .ok (.invokevirtual 146, 3) := by decide +kernel
theorem dX4_readVent_11 : decode cX4_readVent 11 = .ok (.ifCond .ne 5, 3) := by decide +kernel
theorem dX4_readVent_14 : decode cX4_readVent 14 = .ok (.iconst 0, 1) := by decide +kernel
theorem dX4_readVent_15 : decode cX4_readVent 15 = .ok (.ireturn, 1) := by decide +kernel
theorem dX4_readVent_16 : decode cX4_readVent 16 = .ok (.aload_n 0, 1) := by decide +kernel
theorem dX4_readVent_17 : decode cX4_readVent 17 = .ok (.getfield 91, 3) := by decide +kernel
theorem dX4_readVent_20 : decode cX4_readVent 20 = .ok (.istore_n 1, 1) := by decide +kernel
theorem dX4_readVent_21 : decode cX4_readVent 21 = .ok (.aload_n 0, 1) := by decide +kernel
theorem dX4_readVent_22 : decode cX4_readVent 22 = .ok (.getfield 27, 3) := by decide +kernel
theorem dX4_readVent_25 : decode cX4_readVent 25 = .ok (.getfield 87, 3) := by decide +kernel
theorem dX4_readVent_28 : decode cX4_readVent 28 = .ok (.getfield 154, 3) := by decide +kernel
theorem dX4_readVent_31 : decode cX4_readVent 31 = .ok (.iload_n 1, 1) := by decide +kernel
theorem dX4_readVent_32 : decode cX4_readVent 32 = .ok (.iaload, 1) := by decide +kernel
theorem dX4_readVent_33 : decode cX4_readVent 33 = .ok (.ifCond .eq 14, 3) := by decide +kernel
theorem dX4_readVent_36 : decode cX4_readVent 36 = .ok (.aload_n 0, 1) := by decide +kernel
theorem dX4_readVent_37 : decode cX4_readVent 37 = .ok (.bipush (-3), 2) := by decide +kernel
theorem dX4_readVent_39 : decode cX4_readVent 39 = .ok (.aload_n 0, 1) := by decide +kernel
theorem dX4_readVent_40 : decode cX4_readVent 40 = .ok (.getfield 151, 3) := by decide +kernel
theorem dX4_readVent_43 : decode cX4_readVent 43 = .ok (.invokevirtual 77, 3) := by decide +kernel
theorem dX4_readVent_46 : decode cX4_readVent 46 = .ok (.ireturn, 1) := by decide +kernel
theorem dX4_readVent_47 : decode cX4_readVent 47 = .ok (.aload_n 0, 1) := by decide +kernel
theorem dX4_readVent_48 : decode cX4_readVent 48 = .ok (.iconst 1, 1) := by decide +kernel
theorem dX4_readVent_49 : decode cX4_readVent 49 = .ok (.bipush 100, 2) := by decide +kernel
theorem dX4_readVent_51 : decode cX4_readVent 51 = .ok (.invokevirtual 84, 3) := by decide +kernel
theorem dX4_readVent_54 : decode cX4_readVent 54 = .ok (.ifCond .ne 5, 3) := by decide +kernel
theorem dX4_readVent_57 : decode cX4_readVent 57 = .ok (.iconst 0, 1) := by decide +kernel
theorem dX4_readVent_58 : decode cX4_readVent 58 = .ok (.ireturn, 1) := by decide +kernel
theorem dX4_readVent_59 : decode cX4_readVent 59 = .ok (.aload_n 0, 1) := by decide +kernel
theorem dX4_readVent_60 : decode cX4_readVent 60 = .ok (.getfield 27, 3) := by decide +kernel
theorem dX4_readVent_63 : decode cX4_readVent 63 = .ok (.getfield 87, 3) := by decide +kernel
theorem dX4_readVent_66 : decode cX4_readVent 66 = .ok (.getfield 154, 3) := by decide +kernel
theorem dX4_readVent_69 : decode cX4_readVent 69 = .ok (.iload_n 1, 1) := by decide +kernel
theorem dX4_readVent_70 : decode cX4_readVent 70 = .ok (.aload_n 0, 1) := by decide +kernel
theorem dX4_readVent_71 : decode cX4_readVent 71 = .ok (.getfield 91, 3) := by decide +kernel
theorem dX4_readVent_74 : decode cX4_readVent 74 = .ok (.iastore, 1) := by decide +kernel
theorem dX4_readVent_75 : decode cX4_readVent 75 = .ok (.iconst 1, 1) := by decide +kernel
theorem dX4_readVent_76 : decode cX4_readVent 76 = .ok (.ireturn, 1) := by decide +kernel
theorem dX4_readFan_0 : decode cX4_readFan 0 = .ok (.aload_n 0, 1) := by decide +kernel
theorem dX4_readFan_1 : decode cX4_readFan 1 = .ok (.getfield 12, 3) := by decide +kernel
theorem dX4_readFan_4 : decode cX4_readFan 4 = .ok (.invokevirtual 81, 3) := by decide +kernel
theorem dX4_readFan_7 : decode cX4_readFan 7 = .ok (.aload_n 0, 1) := by decide +kernel
theorem dX4_readFan_8 : decode cX4_readFan 8 = .ok (.invokevirtual 146, 3) := by decide +kernel
theorem dX4_readFan_11 : decode cX4_readFan 11 = .ok (.ifCond .ne 5, 3) := by decide +kernel
theorem dX4_readFan_14 : decode cX4_readFan 14 = .ok (.iconst 0, 1) := by decide +kernel
theorem dX4_readFan_15 : decode cX4_readFan 15 = .ok (.ireturn, 1) := by decide +kernel
theorem dX4_readFan_16 : decode cX4_readFan 16 = .ok (.aload_n 0, 1) := by decide +kernel
theorem dX4_readFan_17 : decode cX4_readFan 17 = .ok (.getfield 91, 3) := by decide +kernel
theorem dX4_readFan_20 : decode cX4_readFan 20 = .ok (.istore_n 1, 1) := by decide +kernel
theorem dX4_readFan_21 : decode cX4_readFan 21 = .ok (.aload_n 0, 1) := by decide +kernel
theorem dX4_readFan_22 : decode cX4_readFan 22 = .ok (.getfield 27, 3) := by decide +kernel
theorem dX4_readFan_25 : decode cX4_readFan 25 = .ok (.getfield 87, 3) := by decide +kernel
theorem dX4_readFan_28 : decode cX4_readFan 28 = .ok (.getfield 156, 3) := by decide +kernel
theorem dX4_readFan_31 : decode cX4_readFan 31 = .ok (.iload_n 1, 1) := by decide +kernel
theorem dX4_readFan_32 : decode cX4_readFan 32 = .ok (.baload, 1) := by decide +kernel
theorem dX4_readFan_33 : decode cX4_readFan 33 = .ok (.ifCond .eq 14, 3) := by decide +kernel
theorem dX4_readFan_36 : decode cX4_readFan 36 = .ok (.aload_n 0, 1) := by decide +kernel
theorem dX4_readFan_37 : decode cX4_readFan 37 = .ok (.bipush (-3), 2) := by decide +kernel
theorem dX4_readFan_39 : decode cX4_readFan 39 = .ok (.aload_n 0, 1) := by decide +kernel
theorem dX4_readFan_40 : decode cX4_readFan 40 = .ok (.getfield 151, 3) := by decide +kernel
theorem dX4_readFan_43 : decode cX4_readFan 43 = .ok (.invokevirtual 77, 3) := by decide +kernel
theorem dX4_readFan_46 : decode cX4_readFan 46 = .ok (.ireturn, 1) := by decide +kernel
theorem dX4_readFan_47 : decode cX4_readFan 47 = .ok (.aload_n 0, 1) := by decide +kernel
theorem dX4_readFan_48 : decode cX4_readFan 48 = .ok (.bipush 10, 2) := by decide +kernel
theorem dX4_readFan_50 : decode cX4_readFan 50 = .ok (.invokevirtual 160, 3) := by decide +kernel
theorem dX4_readFan_53 : decode cX4_readFan 53 = .ok (.ifCond .ne 5, 3) := by decide +kernel
theorem dX4_readFan_56 : decode cX4_readFan 56 = .ok (.iconst 0, 1) := by decide +kernel
theorem dX4_readFan_57 : decode cX4_readFan 57 = .ok (.ireturn, 1) := by decide +kernel
theorem dX4_readFan_58 : decode cX4_readFan 58 = .ok (.aload_n 0, 1) := by decide +kernel
theorem dX4_readFan_59 : decode cX4_readFan 59 = .ok (.getfield 27, 3) := by decide +kernel
theorem dX4_readFan_62 : decode cX4_readFan 62 = .ok (.getfield 87, 3) := by decide +kernel
theorem dX4_readFan_65 : decode cX4_readFan 65 = .ok (.getfield 156, 3) := by decide +kernel
theorem dX4_readFan_68 : decode cX4_readFan 68 = .ok (.iload_n 1, 1) := by decide +kernel
theorem dX4_readFan_69 : decode cX4_readFan 69 = .ok (.iconst 1, 1) := by decide +kernel
theorem dX4_readFan_70 : decode cX4_readFan 70 = .ok (.bastore, 1) := by decide +kernel
theorem dX4_readFan_71 : decode cX4_readFan 71 = .ok (.aload_n 0, 1) := by decide +kernel
theorem dX4_readFan_72 : decode cX4_readFan 72 = .ok (.getfield 27, 3) := by decide +kernel
theorem dX4_readFan_75 : decode cX4_readFan 75 = .ok (.getfield 163, 3) := by decide +kernel
theorem dX4_readFan_78 : decode cX4_readFan 78 = .ok (.iload_n 1, 1) := by decide +kernel
theorem dX4_readFan_79 : decode cX4_readFan 79 = .ok (.aload_n 0, 1) := by decide +kernel
theorem dX4_readFan_80 : decode cX4_readFan 80 = .ok (.getfield 91, 3) := by decide +kernel
theorem dX4_readFan_83 : decode cX4_readFan 83 = .ok (.iastore, 1) := by decide +kernel
theorem dX4_readFan_84 : decode cX4_readFan 84 = .ok (.iconst 1, 1) := by decide +kernel
theorem dX4_readFan_85 : decode cX4_readFan 85 = .ok (.ireturn, 1) := by decide +kernel
theorem dX4_readCar_0 : decode cX4_readCar 0 = .ok (.aload_n 0, 1) := by decide +kernel
theorem dX4_readCar_1 : decode cX4_readCar 1 = .ok (.getfield 27, 3) := by decide +kernel
theorem dX4_readCar_4 : decode cX4_readCar 4 = .ok (.getfield 87, 3) := by decide +kernel
theorem dX4_readCar_7 : decode cX4_readCar 7 = .ok (.getfield 165, 3) := by decide +kernel
theorem dX4_readCar_10 : decode cX4_readCar 10 = .ok (.bipush 20, 2) := by decide +kernel
theorem dX4_readCar_12 : decode cX4_readCar 12 = .ok (.if_icmp .lt 17, 3) := by decide +kernel
theorem dX4_readCar_15 : decode cX4_readCar 15 = .ok (.aload_n 0, 1) := by decide +kernel
theorem dX4_readCar_16 : decode cX4_readCar 16 = .ok (.bipush (-4), 2) := by decide +kernel
theorem dX4_readCar_18 : decode cX4_readCar 18 = .ok (.aload_n 0, 1) := by decide +kernel
theorem dX4_readCar_19 : decode cX4_readCar 19 = .ok (.getfield 12, 3) := by decide +kernel
theorem dX4_readCar_22 : decode cX4_readCar 22 = .ok (.getfield 74, 3) := by decide +kernel
theorem dX4_readCar_25 : decode cX4_readCar 25 = .ok (.invokevirtual 77, 3) := by decide +kernel
theorem dX4_readCar_28 : decode cX4_readCar 28 = .ok (.ireturn, 1) := by decide +kernel
theorem dX4_readCar_29 : decode cX4_readCar 29 = .ok (.aload_n 0, 1) := by decide +kernel
theorem dX4_readCar_30 : decode cX4_readCar 30 = .ok (.getfield 12, 3) := by decide +kernel
theorem dX4_readCar_33 : decode cX4_readCar 33 = .ok (.invokevirtual 81, 3) := by decide +kernel
theorem dX4_readCar_36 : decode cX4_readCar 36 = .ok (.aload_n 0, 1) := by decide +kernel
theorem dX4_readCar_37 : decode cX4_readCar 37 = .ok (.invokevirtual 146, 3) := by decide +kernel
theorem dX4_readCar_40 : decode cX4_readCar 40 = .ok (.ifCond .eq 10, 3) := by decide +kernel
theorem dX4_readCar_43 : decode cX4_readCar 43 = .ok (.aload_n 0, 1) := by decide +kernel
theorem dX4_readCar_44 : decode cX4_readCar 44 = .ok (.invokevirtual 168, 3) := by decide +kernel
theorem dX4_readCar_47 : decode cX4_readCar 47 = .ok (.ifCond .ne 5, 3) := by decide +kernel
theorem dX4_readCar_50 : decode cX4_readCar 50 = .ok (.iconst 0, 1) := by decide +kernel
theorem dX4_readCar_51 : decode cX4_readCar 51 = .ok (.ireturn, 1) := by decide +kernel
theorem dX4_readCar_52 : decode cX4_readCar 52 = .ok (.aload_n 0, 1) := by decide +kernel
theorem dX4_readCar_53 : decode cX4_readCar 53 = .ok (.getfield 27, 3) := by decide +kernel
theorem dX4_readCar_56 : decode cX4_readCar 56 = .ok (.aload_n 0, 1) := by decide +kernel
theorem dX4_readCar_57 : decode cX4_readCar 57 = .ok (.getfield 91, 3) := by decide +kernel
theorem dX4_readCar_60 : decode cX4_readCar 60 = .ok (.aload_n 0, 1) := by decide +kernel
theorem dX4_readCar_61 : decode cX4_readCar 61 = .ok (.getfield 171, 3) := by decide +kernel
theorem dX4_readCar_64 : decode cX4_readCar 64 = .ok (.invokevirtual 174, 3) := by decide +kernel
theorem dX4_readCar_67 : decode cX4_readCar 67 = .ok (.ifCond .ne 14, 3) := by decide +kernel
theorem dX4_readCar_70 : decode cX4_readCar 70 = .ok (.aload_n 0, 1) := by decide +kernel
theorem dX4_readCar_71 : decode cX4_readCar 71 = .ok (.bipush (-3), 2) := by decide +kernel
theorem dX4_readCar_73 : decode cX4_readCar 73 = .ok (.aload_n 0, 1) := by decide +kernel
theorem dX4_readCar_74 : decode cX4_readCar 74 = .ok (.getfield 151, 3) := by decide +kernel
theorem dX4_readCar_77 : decode cX4_readCar 77 = .ok (.invokevirtual 77, 3) := by decide +kernel
theorem dX4_readCar_80 : decode cX4_readCar 80 = .ok (.ireturn, 1) := by decide +kernel
theorem dX4_readCar_81 : decode cX4_readCar 81 = .ok (.aload_n 0, 1) := by decide +kernel
theorem dX4_readCar_82 : decode cX4_readCar 82 = .ok (.getfield 27, 3) := by decide +kernel
theorem dX4_readCar_85 : decode cX4_readCar 85 = .ok (.aload_n 0, 1) := by decide +kernel
theorem dX4_readCar_86 : decode cX4_readCar 86 = .ok (.getfield 91, 3) := by decide +kernel
theorem dX4_readCar_89 : decode cX4_readCar 89 = .ok (.aload_n 0, 1) := by decide +kernel
theorem dX4_readCar_90 : decode cX4_readCar 90 = .ok (.getfield 171, 3) := by decide +kernel
theorem dX4_readCar_93 : decode cX4_readCar 93 = .ok (.invokevirtual 177, 3) := by decide +kernel
theorem dX4_readCar_96 : decode cX4_readCar 96 = .ok (.iconst 1, 1) := by decide +kernel
theorem dX4_readCar_97 : decode cX4_readCar 97 = .ok (.ireturn, 1) := by decide +kernel
theorem dX4_readFire_0 : decode cX4_readFire 0 = .ok (.aload_n 0, 1) := by decide +kernel
theorem dX4_readFire_1 : decode cX4_readFire 1 = .ok (.getfield 41, 3) := by decide +kernel
theorem dX4_readFire_4 : decode cX4_readFire 4 = .ok (.ifCond .eq 17, 3) := by decide +kernel
theorem dX4_readFire_7 : decode cX4_readFire 7 = .ok (.aload_n 0, 1) := by decide +kernel
theorem dX4_readFire_8 : decode cX4_readFire 8 = .ok (.bipush (-2), 2) := by decide +kernel
theorem dX4_readFire_10 : decode cX4_readFire 10 = .ok (.aload_n 0, 1) := by decide +kernel
theorem dX4_readFire_11 : decode cX4_readFire 11 = .ok (.getfield 12, 3) := by decide +kernel
theorem dX4_readFire_14 : decode cX4_readFire 14 = .ok (.getfield 74, 3) := by decide +kernel
theorem dX4_readFire_17 : decode cX4_readFire 17 = .ok (.invokevirtual 77, 3) := by decide +kernel
theorem dX4_readFire_20 : decode cX4_readFire 20 = .ok (.ireturn, 1) := by decide +kernel
theorem dX4_readFire_21 : decode cX4_readFire 21 = .ok (.aload_n 0, 1) := by decide +kernel
theorem dX4_readFire_22 : decode cX4_readFire 22 = .ok (.iconst 1, 1) := by decide +kernel
theorem dX4_readFire_23 : decode cX4_readFire 23 = .ok (.putfield 41, 3) := by decide +kernel
theorem dX4_readFire_26 : decode cX4_readFire 26 = .ok (.aload_n 0, 1) := by decide +kernel
theorem dX4_readFire_27 : decode cX4_readFire 27 = .ok (.getfield 12, 3) := by decide +kernel
theorem dX4_readFire_30 : decode cX4_readFire 30 = .ok (.invokevirtual 81, 3) := by decide +kernel
theorem dX4_readFire_33 : decode cX4_readFire 33 = .ok (.aload_n 0, 1) := by decide +kernel
theorem dX4_readFire_34 : decode cX4_readFire 34 = .ok (.invokevirtual 146, 3) := by decide +kernel
theorem dX4_readFire_37 : decode cX4_readFire 37 = .ok (.ifCond .ne 5, 3) := by decide +kernel
theorem dX4_readFire_40 : decode cX4_readFire 40 = .ok (.iconst 0, 1) := by decide +kernel
theorem dX4_readFire_41 : decode cX4_readFire 41 = .ok (.ireturn, 1) := by decide +kernel
theorem dX4_readFire_42 : decode cX4_readFire 42 = .ok (.aload_n 0, 1) := by decide +kernel
theorem dX4_readFire_43 : decode cX4_readFire 43 = .ok (.getfield 27, 3) := by decide +kernel
theorem dX4_readFire_46 : decode cX4_readFire 46 = .ok (.aload_n 0, 1) := by decide +kernel
theorem dX4_readFire_47 : decode cX4_readFire 47 = .ok (.getfield 91, 3) := by decide +kernel
theorem dX4_readFire_50 : decode cX4_readFire 50 = .ok (.putfield 181, 3) := by decide +kernel
theorem dX4_readFire_53 : decode cX4_readFire 53 = .ok (.iconst 1, 1) := by decide +kernel
theorem dX4_readFire_54 : decode cX4_readFire 54 = .ok (.ireturn, 1) := by decide +kernel
theorem dX4_readDraft_0 : decode cX4_readDraft 0 = .ok (.aload_n 0, 1) := by decide +kernel
theorem dX4_readDraft_1 : decode cX4_readDraft 1 = .ok (.getfield 45, 3) := by decide +kernel
theorem dX4_readDraft_4 : decode cX4_readDraft 4 = .ok (.ifCond .eq 17, 3) := by decide +kernel
theorem dX4_readDraft_7 : decode cX4_readDraft 7 = .ok (.aload_n 0, 1) := by decide +kernel
theorem dX4_readDraft_8 : decode cX4_readDraft 8 = .ok (.bipush (-2), 2) := by decide +kernel
theorem dX4_readDraft_10 : decode cX4_readDraft 10 = .ok (.aload_n 0, 1) := by decide +kernel
theorem dX4_readDraft_11 : decode cX4_readDraft 11 = .ok (.getfield 12, 3) := by decide +kernel
theorem dX4_readDraft_14 : decode cX4_readDraft 14 = .ok (.getfield 74, 3) := by decide +kernel
theorem dX4_readDraft_17 : decode cX4_readDraft 17 = .ok (.invokevirtual 77, 3) := by decide +kernel
theorem dX4_readDraft_20 : decode cX4_readDraft 20 = .ok (.ireturn, 1) := by decide +kernel
theorem dX4_readDraft_21 : decode cX4_readDraft 21 = .ok (.aload_n 0, 1) := by decide +kernel
theorem dX4_readDraft_22 : decode cX4_readDraft 22 = .ok (.iconst 1, 1) := by decide +kernel
theorem dX4_readDraft_23 : decode cX4_readDraft 23 = .ok (.putfield 45, 3) := by decide +kernel
theorem dX4_readDraft_26 : decode cX4_readDraft 26 = .ok (.aload_n 0, 1) := by decide +kernel
theorem dX4_readDraft_27 : decode cX4_readDraft 27 = .ok (.getfield 12, 3) := by decide +kernel
theorem dX4_readDraft_30 : decode cX4_readDraft 30 = .ok (.invokevirtual 81, 3) := by decide +kernel
theorem dX4_readDraft_33 : decode cX4_readDraft 33 = .ok (.aload_n 0, 1) := by decide +kernel
theorem dX4_readDraft_34 : decode cX4_readDraft 34 = .ok (.bipush 100, 2) := by decide +kernel
theorem dX4_readDraft_36 : decode cX4_readDraft 36 = .ok (.invokevirtual 160, 3) := by decide +kernel
theorem dX4_readDraft_39 : decode cX4_readDraft 39 = .ok (.ifCond .ne 5, 3) := by decide +kernel
theorem dX4_readDraft_42 : decode cX4_readDraft 42 = .ok (.iconst 0, 1) := by decide +kernel
theorem dX4_readDraft_43 : decode cX4_readDraft 43 = .ok (.ireturn, 1) := by decide +kernel
theorem dX4_readDraft_44 : decode cX4_readDraft 44 = .ok (.aload_n 0, 1) := by decide +kernel
theorem dX4_readDraft_45 : decode cX4_readDraft 45 = .ok (.getfield 27, 3) := by decide +kernel
theorem dX4_readDraft_48 : decode cX4_readDraft 48 = .ok (.getfield 87, 3) := by decide +kernel
theorem dX4_readDraft_51 : decode cX4_readDraft 51 = .ok (.aload_n 0, 1) := by decide +kernel
theorem dX4_readDraft_52 : decode cX4_readDraft 52 = .ok (.getfield 91, 3) := by decide +kernel
theorem dX4_readDraft_55 : decode cX4_readDraft 55 = .ok (.putfield 183, 3) := by decide +kernel
theorem dX4_readDraft_58 : decode cX4_readDraft 58 = .ok (.iconst 1, 1) := by decide +kernel
theorem dX4_readDraft_59 : decode cX4_readDraft 59 = .ok (.ireturn, 1) := by decide +kernel
theorem dX4_readRed_0 : decode cX4_readRed 0 = .ok (.aload_n 0, 1) := by decide +kernel
theorem dX4_readRed_1 : decode cX4_readRed 1 = .ok (.getfield 12, 3) := by decide +kernel
theorem dX4_readRed_4 : decode cX4_readRed 4 = .ok (.invokevirtual 81, 3) := by decide +kernel
theorem dX4_readRed_7 : decode cX4_readRed 7 = .ok (.aload_n 0, 1) := by decide +kernel
theorem dX4_readRed_8 : decode cX4_readRed 8 = .ok (.invokevirtual 146, 3) := by decide +kernel
theorem dX4_readRed_11 : decode cX4_readRed 11 = .ok (.ifCond .eq 10, 3) := by decide +kernel
theorem dX4_readRed_14 : decode cX4_readRed 14 = .ok (.aload_n 0, 1) := by decide +kernel
theorem dX4_readRed_15 : decode cX4_readRed 15 = .ok (.invokevirtual 168, 3) := by decide +kernel
theorem dX4_readRed_18 : decode cX4_readRed 18 = .ok (.ifCond .ne 5, 3) := by decide +kernel
theorem dX4_readRed_21 : decode cX4_readRed 21 = .ok (.iconst 0, 1) := by decide +kernel
theorem dX4_readRed_22 : decode cX4_readRed 22 = .ok (.ireturn, 1) := by decide +kernel
theorem dX4_readRed_23 : decode cX4_readRed 23 = .ok (.aload_n 0, 1) := by decide +kernel
theorem dX4_readRed_24 : decode cX4_readRed 24 = .ok (.getfield 27, 3) := by decide +kernel
theorem dX4_readRed_27 : decode cX4_readRed 27 = .ok (.getfield 185, 3) := by decide +kernel
theorem dX4_readRed_30 : decode cX4_readRed 30 = .ok (.aload_n 0, 1) := by decide +kernel
theorem dX4_readRed_31 : decode cX4_readRed 31 = .ok (.getfield 91, 3) := by decide +kernel
theorem dX4_readRed_34 : decode cX4_readRed 34 = .ok (.aload_n 0, 1) := by decide +kernel
theorem dX4_readRed_35 : decode cX4_readRed 35 = .ok (.getfield 171, 3) := by decide +kernel
theorem dX4_readRed_38 : decode cX4_readRed 38 = .ok (.invokestatic 187, 3) := by decide +kernel
theorem dX4_readRed_41 : decode cX4_readRed 41 = .ok (.iconst 1, 1) := by decide +kernel
theorem dX4_readRed_42 : decode cX4_readRed 42 = .ok (.bastore, 1) := by decide +kernel
theorem dX4_readRed_43 : decode cX4_readRed 43 = .ok (.iconst 1, 1) := by decide +kernel
theorem dX4_readRed_44 : decode cX4_readRed 44 = .ok (.ireturn, 1) := by decide +kernel
theorem dX4_beginRate_0 : decode cX4_beginRate 0 = .ok (.aload_n 0, 1) := by decide +kernel
theorem dX4_beginRate_1 : decode cX4_beginRate 1 = .ok (.getfield 48, 3) := by decide +kernel
theorem dX4_beginRate_4 : decode cX4_beginRate 4 = .ok (.ifCond .eq 17, 3) := by decide +kernel
theorem dX4_beginRate_7 : decode cX4_beginRate 7 = .ok (.aload_n 0, 1) := by decide +kernel
theorem dX4_beginRate_8 : decode cX4_beginRate 8 = .ok (.bipush (-2), 2) := by decide +kernel
theorem dX4_beginRate_10 : decode cX4_beginRate 10 = .ok (.aload_n 0, 1) := by decide +kernel
theorem dX4_beginRate_11 : decode cX4_beginRate 11 = .ok (.getfield 12, 3) := by decide +kernel
theorem dX4_beginRate_14 : decode cX4_beginRate 14 = .ok (.getfield 74, 3) := by decide +kernel
theorem dX4_beginRate_17 : decode cX4_beginRate 17 = .ok (.invokevirtual 77, 3) := by decide +kernel
theorem dX4_beginRate_20 : decode cX4_beginRate 20 = .ok (.ireturn, 1) := by decide +kernel
theorem dX4_beginRate_21 : decode cX4_beginRate 21 = .ok (.aload_n 0, 1) := by decide +kernel
theorem dX4_beginRate_22 : decode cX4_beginRate 22 = .ok (.iconst 1, 1) := by decide +kernel
theorem dX4_beginRate_23 : decode cX4_beginRate 23 = .ok (.putfield 48, 3) := by decide +kernel
theorem dX4_beginRate_26 : decode cX4_beginRate 26 = .ok (.aload_n 0, 1) := by decide +kernel
theorem dX4_beginRate_27 : decode cX4_beginRate 27 = .ok (.getfield 12, 3) := by decide +kernel
theorem dX4_beginRate_30 : decode cX4_beginRate 30 = .ok (.invokevirtual 81, 3) := by decide +kernel
theorem dX4_beginRate_33 : decode cX4_beginRate 33 = .ok (.aload_n 0, 1) := by decide +kernel
theorem dX4_beginRate_34 : decode cX4_beginRate 34 = .ok (.iconst 0, 1) := by decide +kernel
theorem dX4_beginRate_35 : decode cX4_beginRate 35 = .ok (.putfield 191, 3) := by decide +kernel
theorem dX4_beginRate_38 : decode cX4_beginRate 38 = .ok (.iconst 1, 1) := by decide +kernel
theorem dX4_beginRate_39 : decode cX4_beginRate 39 = .ok (.ireturn, 1) := by decide +kernel
theorem dX4_endRate_0 : decode cX4_endRate 0 = .ok (.aload_n 0, 1) := by decide +kernel
theorem dX4_endRate_1 : decode cX4_endRate 1 = .ok (.getfield 191, 3) := by decide +kernel
theorem dX4_endRate_4 : decode cX4_endRate 4 = .ok (.newarray .int, 2) := by decide +kernel
theorem dX4_endRate_6 : decode cX4_endRate 6 = .ok (.astore_n 1, 1) := by decide +kernel
theorem dX4_endRate_7 : decode cX4_endRate 7 = .ok (.aload_n 0, 1) := by decide +kernel
theorem dX4_endRate_8 : decode cX4_endRate 8 = .ok (.getfield 18, 3) := by decide +kernel
theorem dX4_endRate_11 : decode cX4_endRate 11 = .ok (.iconst 0, 1) := by decide +kernel
theorem dX4_endRate_12 : decode cX4_endRate 12 = .ok (.aload_n 1, 1) := by decide +kernel
theorem dX4_endRate_13 : decode cX4_endRate 13 = .ok (.iconst 0, 1) := by decide +kernel
theorem dX4_endRate_14 : decode cX4_endRate 14 = .ok (.aload_n 0, 1) := by decide +kernel
theorem dX4_endRate_15 : decode cX4_endRate 15 = .ok (.getfield 191, 3) := by decide +kernel
theorem dX4_endRate_18 : decode cX4_endRate 18 = .ok (.invokestatic 194, 3) := by decide +kernel
theorem dX4_endRate_21 : decode cX4_endRate 21 = .ok (.aload_n 0, 1) := by decide +kernel
theorem dX4_endRate_22 : decode cX4_endRate 22 = .ok (.getfield 27, 3) := by decide +kernel
theorem dX4_endRate_25 : decode cX4_endRate 25 = .ok (.getfield 87, 3) := by decide +kernel
theorem dX4_endRate_28 : decode cX4_endRate 28 = .ok (.new 200, 3) := by decide +kernel
theorem dX4_endRate_31 : decode cX4_endRate 31 = .ok (.dup, 1) := by decide +kernel
theorem dX4_endRate_32 : decode cX4_endRate 32 = .ok (.aload_n 1, 1) := by decide +kernel
theorem dX4_endRate_33 : decode cX4_endRate 33 = .ok (.invokespecial 202, 3) := by decide +kernel
theorem dX4_endRate_36 : decode cX4_endRate 36 = .ok (.putfield 205, 3) := by decide +kernel
theorem dX4_endRate_39 : decode cX4_endRate 39 = .ok (.iconst 1, 1) := by decide +kernel
theorem dX4_endRate_40 : decode cX4_endRate 40 = .ok (.ireturn, 1) := by decide +kernel
theorem dX4_readSum_0 : decode cX4_readSum 0 = .ok (.aload_n 0, 1) := by decide +kernel
theorem dX4_readSum_1 : decode cX4_readSum 1 = .ok (.iload_n 1, 1) := by decide +kernel
theorem dX4_readSum_2 : decode cX4_readSum 2 = .ok (.invokevirtual 209, 3) := by decide +kernel
theorem dX4_readSum_5 : decode cX4_readSum 5 = .ok (.ifCond .ne 5, 3) := by decide +kernel
theorem dX4_readSum_8 : decode cX4_readSum 8 = .ok (.iconst 0, 1) := by decide +kernel
theorem dX4_readSum_9 : decode cX4_readSum 9 = .ok (.ireturn, 1) := by decide +kernel
theorem dX4_readSum_10 : decode cX4_readSum 10 = .ok (.iconst 0, 1) := by decide +kernel
theorem dX4_readSum_11 : decode cX4_readSum 11 = .ok (.istore_n 2, 1) := by decide +kernel
theorem dX4_readSum_12 : decode cX4_readSum 12 = .ok (.iload_n 2, 1) := by decide +kernel
theorem dX4_readSum_13 : decode cX4_readSum 13 = .ok (.sipush 800, 3) := by decide +kernel
theorem dX4_readSum_16 : decode cX4_readSum 16 = .ok (.if_icmp .ge 75, 3) := by decide +kernel
theorem dX4_readSum_19 : decode cX4_readSum 19 = .ok (.aload_n 0, 1) := by decide +kernel
theorem dX4_readSum_20 : decode cX4_readSum 20 = .ok (.getfield 12, 3) := by decide +kernel
theorem dX4_readSum_23 : decode cX4_readSum 23 = .ok (.getfield 63, 3) := by decide +kernel
theorem dX4_readSum_26 : decode cX4_readSum 26 = .ok (.bipush 43, 2) := by decide +kernel
theorem dX4_readSum_28 : decode cX4_readSum 28 = .ok (.if_icmp .eq 15, 3) := by decide +kernel
theorem dX4_readSum_31 : decode cX4_readSum 31 = .ok (.aload_n 0, 1) := by decide +kernel
theorem dX4_readSum_32 : decode cX4_readSum 32 = .ok (.getfield 12, 3) := by decide +kernel
theorem dX4_readSum_35 : decode cX4_readSum 35 = .ok (.getfield 63, 3) := by decide +kernel
theorem dX4_readSum_38 : decode cX4_readSum 38 = .ok (.bipush 45, 2) := by decide +kernel
theorem dX4_readSum_40 : decode cX4_readSum 40 = .ok (.if_icmp .ne 51, 3) := by decide +kernel
theorem dX4_readSum_43 : decode cX4_readSum 43 = .ok (.aload_n 0, 1) := by decide +kernel
theorem dX4_readSum_44 : decode cX4_readSum 44 = .ok (.getfield 12, 3) := by decide +kernel
theorem dX4_readSum_47 : decode cX4_readSum 47 = .ok (.getfield 63, 3) := by decide +kernel
theorem dX4_readSum_50 : decode cX4_readSum 50 = .ok (.bipush 43, 2) := by decide +kernel
theorem dX4_readSum_52 : decode cX4_readSum 52 = .ok (.if_icmp .ne 8, 3) := by decide +kernel
theorem dX4_readSum_55 : decode cX4_readSum 55 = .ok (.bipush (-4), 2) := by decide +kernel
theorem dX4_readSum_57 : decode cX4_readSum 57 = .ok (.goto 5, 3) := by decide +kernel
theorem dX4_readSum_60 : decode cX4_readSum 60 = .ok (.bipush (-5), 2) := by decide +kernel
theorem dX4_readSum_62 : decode cX4_readSum 62 = .ok (.istore_n 3, 1) := by decide +kernel
theorem dX4_readSum_63 : decode cX4_readSum 63 = .ok (.aload_n 0, 1) := by decide +kernel
theorem dX4_readSum_64 : decode cX4_readSum 64 = .ok (.getfield 12, 3) := by decide +kernel
theorem dX4_readSum_67 : decode cX4_readSum 67 = .ok (.invokevirtual 81, 3) := by decide +kernel
theorem dX4_readSum_70 : decode cX4_readSum 70 = .ok (.aload_n 0, 1) := by decide +kernel
theorem dX4_readSum_71 : decode cX4_readSum 71 = .ok (.iload_n 1, 1) := by decide +kernel
theorem dX4_readSum_72 : decode cX4_readSum 72 = .ok (.invokevirtual 209, 3) := by decide +kernel
theorem dX4_readSum_75 : decode cX4_readSum 75 = .ok (.ifCond .ne 5, 3) := by decide +kernel
theorem dX4_readSum_78 : decode cX4_readSum 78 = .ok (.iconst 0, 1) := by decide +kernel
theorem dX4_readSum_79 : decode cX4_readSum 79 = .ok (.ireturn, 1) := by decide +kernel
theorem dX4_readSum_80 : decode cX4_readSum 80 = .ok (.aload_n 0, 1) := by decide +kernel
theorem dX4_readSum_81 : decode cX4_readSum 81 = .ok (.iload_n 3, 1) := by decide +kernel
theorem dX4_readSum_82 : decode cX4_readSum 82 = .ok (.invokevirtual 212, 3) := by decide +kernel
theorem dX4_readSum_85 : decode cX4_readSum 85 = .ok (.iinc 2 1, 3) := by decide +kernel
theorem dX4_readSum_88 : decode cX4_readSum 88 = .ok (.goto (-76), 3) := by decide +kernel
theorem dX4_readSum_91 : decode cX4_readSum 91 = .ok (.iconst 1, 1) := by decide +kernel
theorem dX4_readSum_92 : decode cX4_readSum 92 = .ok (.ireturn, 1) := by decide +kernel
theorem dX4_readTerm_0 : decode cX4_readTerm 0 = .ok (.aload_n 0, 1) := by decide +kernel
theorem dX4_readTerm_1 : decode cX4_readTerm 1 = .ok (.iload_n 1, 1) := by decide +kernel
theorem dX4_readTerm_2 : decode cX4_readTerm 2 = .ok (.invokevirtual 215, 3) := by decide +kernel
theorem dX4_readTerm_5 : decode cX4_readTerm 5 = .ok (.ifCond .ne 5, 3) := by decide +kernel
theorem dX4_readTerm_8 : decode cX4_readTerm 8 = .ok (.iconst 0, 1) := by decide +kernel
theorem dX4_readTerm_9 : decode cX4_readTerm 9 = .ok (.ireturn, 1) := by decide +kernel
theorem dX4_readTerm_10 : decode cX4_readTerm 10 = .ok (.iconst 0, 1) := by decide +kernel
theorem dX4_readTerm_11 : decode cX4_readTerm 11 = .ok (.istore_n 2, 1) := by decide +kernel
theorem dX4_readTerm_12 : decode cX4_readTerm 12 = .ok (.iload_n 2, 1) := by decide +kernel
theorem dX4_readTerm_13 : decode cX4_readTerm 13 = .ok (.sipush 800, 3) := by decide +kernel
theorem dX4_readTerm_16 : decode cX4_readTerm 16 = .ok (.if_icmp .ge 75, 3) := by decide +kernel
theorem dX4_readTerm_19 : decode cX4_readTerm 19 = .ok (.aload_n 0, 1) := by decide +kernel
theorem dX4_readTerm_20 : decode cX4_readTerm 20 = .ok (.getfield 12, 3) := by decide +kernel
theorem dX4_readTerm_23 : decode cX4_readTerm 23 = .ok (.getfield 63, 3) := by decide +kernel
theorem dX4_readTerm_26 : decode cX4_readTerm 26 = .ok (.bipush 42, 2) := by decide +kernel
theorem dX4_readTerm_28 : decode cX4_readTerm 28 = .ok (.if_icmp .eq 15, 3) := by decide +kernel
theorem dX4_readTerm_31 : decode cX4_readTerm 31 = .ok (.aload_n 0, 1) := by decide +kernel
theorem dX4_readTerm_32 : decode cX4_readTerm 32 = .ok (.getfield 12, 3) := by decide +kernel
theorem dX4_readTerm_35 : decode cX4_readTerm 35 = .ok (.getfield 63, 3) := by decide +kernel
theorem dX4_readTerm_38 : decode cX4_readTerm 38 = .ok (.bipush 47, 2) := by decide +kernel
theorem dX4_readTerm_40 : decode cX4_readTerm 40 = .ok (.if_icmp .ne 51, 3) := by decide +kernel
theorem dX4_readTerm_43 : decode cX4_readTerm 43 = .ok (.aload_n 0, 1) := by decide +kernel
theorem dX4_readTerm_44 : decode cX4_readTerm 44 = .ok (.getfield 12, 3) := by decide +kernel
theorem dX4_readTerm_47 : decode cX4_readTerm 47 = .ok (.getfield 63, 3) := by decide +kernel
theorem dX4_readTerm_50 : decode cX4_readTerm 50 = .ok (.bipush 42, 2) := by decide +kernel
theorem dX4_readTerm_52 : decode cX4_readTerm 52 = .ok (.if_icmp .ne 8, 3) := by decide +kernel
theorem dX4_readTerm_55 : decode cX4_readTerm 55 = .ok (.bipush (-6), 2) := by decide +kernel
theorem dX4_readTerm_57 : decode cX4_readTerm 57 = .ok (.goto 5, 3) := by decide +kernel
theorem dX4_readTerm_60 : decode cX4_readTerm 60 = .ok (.bipush (-7), 2) := by decide +kernel
theorem dX4_readTerm_62 : decode cX4_readTerm 62 = .ok (.istore_n 3, 1) := by decide +kernel
theorem dX4_readTerm_63 : decode cX4_readTerm 63 = .ok (.aload_n 0, 1) := by decide +kernel
theorem dX4_readTerm_64 : decode cX4_readTerm 64 = .ok (.getfield 12, 3) := by decide +kernel
theorem dX4_readTerm_67 : decode cX4_readTerm 67 = .ok (.invokevirtual 81, 3) := by decide +kernel
theorem dX4_readTerm_70 : decode cX4_readTerm 70 = .ok (.aload_n 0, 1) := by decide +kernel
theorem dX4_readTerm_71 : decode cX4_readTerm 71 = .ok (.iload_n 1, 1) := by decide +kernel
theorem dX4_readTerm_72 : decode cX4_readTerm 72 = .ok (.invokevirtual 215, 3) := by decide +kernel
theorem dX4_readTerm_75 : decode cX4_readTerm 75 = .ok (.ifCond .ne 5, 3) := by decide +kernel
theorem dX4_readTerm_78 : decode cX4_readTerm 78 = .ok (.iconst 0, 1) := by decide +kernel
theorem dX4_readTerm_79 : decode cX4_readTerm 79 = .ok (.ireturn, 1) := by decide +kernel
theorem dX4_readTerm_80 : decode cX4_readTerm 80 = .ok (.aload_n 0, 1) := by decide +kernel
theorem dX4_readTerm_81 : decode cX4_readTerm 81 = .ok (.iload_n 3, 1) := by decide +kernel
theorem dX4_readTerm_82 : decode cX4_readTerm 82 = .ok (.invokevirtual 212, 3) := by decide +kernel
theorem dX4_readTerm_85 : decode cX4_readTerm 85 = .ok (.iinc 2 1, 3) := by decide +kernel
theorem dX4_readTerm_88 : decode cX4_readTerm 88 = .ok (.goto (-76), 3) := by decide +kernel
theorem dX4_readTerm_91 : decode cX4_readTerm 91 = .ok (.iconst 1, 1) := by decide +kernel
theorem dX4_readTerm_92 : decode cX4_readTerm 92 = .ok (.ireturn, 1) := by decide +kernel
theorem dX4_readFactor_0 : decode cX4_readFactor 0 = .ok (.aload_n 0, 1) := by decide +kernel
theorem dX4_readFactor_1 : decode cX4_readFactor 1 = .ok (.getfield 12, 3) := by decide +kernel
theorem dX4_readFactor_4 : decode cX4_readFactor 4 = .ok (.getfield 63, 3) := by decide +kernel
theorem dX4_readFactor_7 : decode cX4_readFactor 7 = .ok (.bipush 40, 2) := by decide +kernel
theorem dX4_readFactor_9 : decode cX4_readFactor 9 = .ok (.if_icmp .ne 54, 3) := by decide +kernel
theorem dX4_readFactor_12 : decode cX4_readFactor 12 = .ok (.iload_n 1, 1) := by decide +kernel
theorem dX4_readFactor_13 : decode cX4_readFactor 13 = .ok (.iconst 4, 1) := by decide +kernel
theorem dX4_readFactor_14 : decode cX4_readFactor 14 = .ok (.if_icmp .lt 17, 3) := by decide +kernel
theorem dX4_readFactor_17 : decode cX4_readFactor 17 = .ok (.aload_n 0, 1) := by decide +kernel
theorem dX4_readFactor_18 : decode cX4_readFactor 18 = .ok (.bipush (-5), 2) := by decide +kernel
theorem dX4_readFactor_20 : decode cX4_readFactor 20 = .ok (.aload_n 0, 1) := by decide +kernel
theorem dX4_readFactor_21 : decode cX4_readFactor 21 = .ok (.getfield 12, 3) := by decide +kernel
theorem dX4_readFactor_24 : decode cX4_readFactor 24 = .ok (.getfield 74, 3) := by decide +kernel
theorem dX4_readFactor_27 : decode cX4_readFactor 27 = .ok (.invokevirtual 77, 3) := by decide +kernel
theorem dX4_readFactor_30 : decode cX4_readFactor 30 = .ok (.ireturn, 1) := by decide +kernel
theorem dX4_readFactor_31 : decode cX4_readFactor 31 = .ok (.aload_n 0, 1) := by decide +kernel
theorem dX4_readFactor_32 : decode cX4_readFactor 32 = .ok (.getfield 12, 3) := by decide +kernel
theorem dX4_readFactor_35 : decode cX4_readFactor 35 = .ok (.invokevirtual 81, 3) := by decide +kernel
theorem dX4_readFactor_38 : decode cX4_readFactor 38 = .ok (.aload_n 0, 1) := by decide +kernel
theorem dX4_readFactor_39 : decode cX4_readFactor 39 = .ok (.iload_n 1, 1) := by decide +kernel
theorem dX4_readFactor_40 : decode cX4_readFactor 40 = .ok (.iconst 1, 1) := by decide +kernel
theorem dX4_readFactor_41 : decode cX4_readFactor 41 = .ok (.iadd, 1) := by decide +kernel
theorem dX4_readFactor_42 : decode cX4_readFactor 42 = .ok (.invokevirtual 140, 3) := by decide +kernel
theorem dX4_readFactor_45 : decode cX4_readFactor 45 = .ok (.ifCond .eq 16, 3) := by decide +kernel
theorem dX4_readFactor_48 : decode cX4_readFactor 48 = .ok (.aload_n 0, 1) := by decide +kernel
theorem dX4_readFactor_49 : decode cX4_readFactor 49 = .ok (.bipush 41, 2) := by decide +kernel
theorem dX4_readFactor_51 : decode cX4_readFactor 51 = .ok (.invokevirtual 59, 3) := by decide +kernel
theorem dX4_readFactor_54 : decode cX4_readFactor 54 = .ok (.ifCond .eq 7, 3) := by decide +kernel
theorem dX4_readFactor_57 : decode cX4_readFactor 57 = .ok (.iconst 1, 1) := by decide +kernel
theorem dX4_readFactor_58 : decode cX4_readFactor 58 = .ok (.goto 4, 3) := by decide +kernel
theorem dX4_readFactor_61 : decode cX4_readFactor 61 = .ok (.iconst 0, 1) := by decide +kernel
theorem dX4_readFactor_62 : decode cX4_readFactor 62 = .ok (.ireturn, 1) := by decide +kernel
theorem dX4_readFactor_63 : decode cX4_readFactor 63 = .ok (.aload_n 0, 1) := by decide +kernel
theorem dX4_readFactor_64 : decode cX4_readFactor 64 = .ok (.getfield 12, 3) := by decide +kernel
theorem dX4_readFactor_67 : decode cX4_readFactor 67 = .ok (.getfield 63, 3) := by decide +kernel
theorem dX4_readFactor_70 : decode cX4_readFactor 70 = .ok (.sipush 256, 3) := by decide +kernel
theorem dX4_readFactor_73 : decode cX4_readFactor 73 = .ok (.if_icmp .ne 44, 3) := by decide +kernel
theorem dX4_readFactor_76 : decode cX4_readFactor 76 = .ok (.aload_n 0, 1) := by decide +kernel
theorem dX4_readFactor_77 : decode cX4_readFactor 77 = .ok (.getfield 12, 3) := by decide +kernel
theorem dX4_readFactor_80 : decode cX4_readFactor 80 = .ok (.getfield 218, 3) := by decide +kernel
theorem dX4_readFactor_83 : decode cX4_readFactor 83 = .ok (.sipush 9999, 3) := by decide +kernel
theorem dX4_readFactor_86 : decode cX4_readFactor 86 = .ok (.if_icmp .le 17, 3) := by decide +kernel
theorem dX4_readFactor_89 : decode cX4_readFactor 89 = .ok (.aload_n 0, 1) := by decide +kernel
theorem dX4_readFactor_90 : decode cX4_readFactor 90 = .ok (.bipush (-3), 2) := by decide +kernel
theorem dX4_readFactor_92 : decode cX4_readFactor 92 = .ok (.aload_n 0, 1) := by decide +kernel
theorem dX4_readFactor_93 : decode cX4_readFactor 93 = .ok (.getfield 12, 3) := by decide +kernel
theorem dX4_readFactor_96 : decode cX4_readFactor 96 = .ok (.getfield 74, 3) := by decide +kernel
theorem dX4_readFactor_99 : decode cX4_readFactor 99 = .ok (.invokevirtual 77, 3) := by decide +kernel
theorem dX4_readFactor_102 : decode cX4_readFactor 102 = .ok (.ireturn, 1) := by decide +kernel
theorem dX4_readFactor_103 : decode cX4_readFactor 103 = .ok (.aload_n 0, 1) := by decide +kernel
theorem dX4_readFactor_104 : decode cX4_readFactor 104 = .ok (.aload_n 0, 1) := by decide +kernel
theorem dX4_readFactor_105 : decode cX4_readFactor 105 = .ok (.getfield 12, 3) := by decide +kernel
theorem dX4_readFactor_108 : decode cX4_readFactor 108 = .ok (.getfield 218, 3) := by decide +kernel
theorem dX4_readFactor_111 : decode cX4_readFactor 111 = .ok (.invokevirtual 212, 3) := by decide +kernel
theorem dX4_readFactor_114 : decode cX4_readFactor 114 = .ok (.goto 79, 3) := by decide +kernel
theorem dX4_readFactor_117 : decode cX4_readFactor 117 = .ok (.aload_n 0, 1) := by decide +kernel
theorem dX4_readFactor_118 : decode cX4_readFactor 118 = .ok (.getfield 12, 3) := by decide +kernel
theorem dX4_readFactor_121 : decode cX4_readFactor 121 = .ok (.ldc 221, 2) := by decide +kernel
theorem dX4_readFactor_123 : decode cX4_readFactor 123 = .ok (.invokevirtual 70, 3) := by decide +kernel
theorem dX4_readFactor_126 : decode cX4_readFactor 126 = .ok (.ifCond .eq 11, 3) := by decide +kernel
theorem dX4_readFactor_129 : decode cX4_readFactor 129 = .ok (.aload_n 0, 1) := by decide +kernel
theorem dX4_readFactor_130 : decode cX4_readFactor 130 = .ok (.iconst (-1), 1) := by decide +kernel
theorem dX4_readFactor_131 : decode cX4_readFactor 131 = .ok (.invokevirtual 212, 3) := by decide +kernel
theorem dX4_readFactor_134 : decode cX4_readFactor 134 = .ok (.goto 59, 3) := by decide +kernel
theorem dX4_readFactor_137 : decode cX4_readFactor 137 = .ok (.aload_n 0, 1) := by decide +kernel
theorem dX4_readFactor_138 : decode cX4_readFactor 138 = .ok (.getfield 12, 3) := by decide +kernel
theorem dX4_readFactor_141 : decode cX4_readFactor 141 = .ok (.ldc 223, 2) := by decide +kernel
theorem dX4_readFactor_143 : decode cX4_readFactor 143 = .ok (.invokevirtual 70, 3) := by decide +kernel
theorem dX4_readFactor_146 : decode cX4_readFactor 146 = .ok (.ifCond .eq 12, 3) := by decide +kernel
theorem dX4_readFactor_149 : decode cX4_readFactor 149 = .ok (.aload_n 0, 1) := by decide +kernel
theorem dX4_readFactor_150 : decode cX4_readFactor 150 = .ok (.bipush (-2), 2) := by decide +kernel
theorem dX4_readFactor_152 : decode cX4_readFactor 152 = .ok (.invokevirtual 212, 3) := by decide +kernel
theorem dX4_readFactor_155 : decode cX4_readFactor 155 = .ok (.goto 38, 3) := by decide +kernel
theorem dX4_readFactor_158 : decode cX4_readFactor 158 = .ok (.aload_n 0, 1) := by decide +kernel
theorem dX4_readFactor_159 : decode cX4_readFactor 159 = .ok (.getfield 12, 3) := by decide +kernel
theorem dX4_readFactor_162 : decode cX4_readFactor 162 = .ok (.ldc 224, 2) := by decide +kernel
theorem dX4_readFactor_164 : decode cX4_readFactor 164 = .ok (.invokevirtual 70, 3) := by decide +kernel
theorem dX4_readFactor_167 : decode cX4_readFactor 167 = .ok (.ifCond .eq 12, 3) := by decide +kernel
theorem dX4_readFactor_170 : decode cX4_readFactor 170 = .ok (.aload_n 0, 1) := by decide +kernel
theorem dX4_readFactor_171 : decode cX4_readFactor 171 = .ok (.bipush (-3), 2) := by decide +kernel
theorem dX4_readFactor_173 : decode cX4_readFactor 173 = .ok (.invokevirtual 212, 3) := by decide +kernel
theorem dX4_readFactor_176 : decode cX4_readFactor 176 = .ok (.goto 17, 3) := by decide +kernel
theorem dX4_readFactor_179 : decode cX4_readFactor 179 = .ok (.aload_n 0, 1) := by decide +kernel
theorem dX4_readFactor_180 : decode cX4_readFactor 180 = .ok (.bipush (-2), 2) := by decide +kernel
theorem dX4_readFactor_182 : decode cX4_readFactor 182 = .ok (.aload_n 0, 1) := by decide +kernel
theorem dX4_readFactor_183 : decode cX4_readFactor 183 = .ok (.getfield 12, 3) := by decide +kernel
theorem dX4_readFactor_186 : decode cX4_readFactor 186 = .ok (.getfield 74, 3) := by decide +kernel
theorem dX4_readFactor_189 : decode cX4_readFactor 189 = .ok (.invokevirtual 77, 3) := by decide +kernel
theorem dX4_readFactor_192 : decode cX4_readFactor 192 = .ok (.ireturn, 1) := by decide +kernel
theorem dX4_readFactor_193 : decode cX4_readFactor 193 = .ok (.aload_n 0, 1) := by decide +kernel
theorem dX4_readFactor_194 : decode cX4_readFactor 194 = .ok (.getfield 12, 3) := by decide +kernel
theorem dX4_readFactor_197 : decode cX4_readFactor 197 = .ok (.invokevirtual 81, 3) := by decide +kernel
theorem dX4_readFactor_200 : decode cX4_readFactor 200 = .ok (.iconst 1, 1) := by decide +kernel
theorem dX4_readFactor_201 : decode cX4_readFactor 201 = .ok (.ireturn, 1) := by decide +kernel
theorem dX4_putCode_0 : decode cX4_putCode 0 = .ok (.aload_n 0, 1) := by decide +kernel
theorem dX4_putCode_1 : decode cX4_putCode 1 = .ok (.getfield 191, 3) := by decide +kernel
theorem dX4_putCode_4 : decode cX4_putCode 4 = .ok (.sipush 800, 3) := by decide +kernel
theorem dX4_putCode_7 : decode cX4_putCode 7 = .ok (.if_icmp .ge 23, 3) := by decide +kernel
theorem dX4_putCode_10 : decode cX4_putCode 10 = .ok (.aload_n 0, 1) := by decide +kernel
theorem dX4_putCode_11 : decode cX4_putCode 11 = .ok (.getfield 18, 3) := by decide +kernel
theorem dX4_putCode_14 : decode cX4_putCode 14 = .ok (.aload_n 0, 1) := by decide +kernel
theorem dX4_putCode_15 : decode cX4_putCode 15 = .ok (.getfield 191, 3) := by decide +kernel
theorem dX4_putCode_18 : decode cX4_putCode 18 = .ok (.iload_n 1, 1) := by decide +kernel
theorem dX4_putCode_19 : decode cX4_putCode 19 = .ok (.iastore, 1) := by decide +kernel
theorem dX4_putCode_20 : decode cX4_putCode 20 = .ok (.aload_n 0, 1) := by decide +kernel
theorem dX4_putCode_21 : decode cX4_putCode 21 = .ok (.dup, 1) := by decide +kernel
theorem dX4_putCode_22 : decode cX4_putCode 22 = .ok (.getfield 191, 3) := by decide +kernel
theorem dX4_putCode_25 : decode cX4_putCode 25 = .ok (.iconst 1, 1) := by decide +kernel
theorem dX4_putCode_26 : decode cX4_putCode 26 = .ok (.iadd, 1) := by decide +kernel
theorem dX4_putCode_27 : decode cX4_putCode 27 = .ok (.putfield 191, 3) := by decide +kernel
theorem dX4_putCode_30 : decode cX4_putCode 30 = .ok (.return_, 1) := by decide +kernel
theorem dX4_readSection_0 : decode cX4_readSection 0 = .ok (.aload_n 0, 1) := by decide +kernel
theorem dX4_readSection_1 : decode cX4_readSection 1 = .ok (.iconst 0, 1) := by decide +kernel
theorem dX4_readSection_2 : decode cX4_readSection 2 = .ok (.aload_n 0, 1) := by decide +kernel
theorem dX4_readSection_3 : decode cX4_readSection 3 = .ok (.getfield 27, 3) := by decide +kernel
theorem dX4_readSection_6 : decode cX4_readSection 6 = .ok (.getfield 87, 3) := by decide +kernel
theorem dX4_readSection_9 : decode cX4_readSection 9 = .ok (.getfield 94, 3) := by decide +kernel
theorem dX4_readSection_12 : decode cX4_readSection 12 = .ok (.iconst 1, 1) := by decide +kernel
theorem dX4_readSection_13 : decode cX4_readSection 13 = .ok (.isub, 1) := by decide +kernel
theorem dX4_readSection_14 : decode cX4_readSection 14 = .ok (.invokevirtual 84, 3) := by decide +kernel
theorem dX4_readSection_17 : decode cX4_readSection 17 = .ok (.ireturn, 1) := by decide +kernel
theorem dX4_readSetting_0 : decode cX4_readSetting 0 = .ok (.aload_n 0, 1) := by decide +kernel
theorem dX4_readSetting_1 : decode cX4_readSetting 1 = .ok (.getfield 12, 3) := by decide +kernel
theorem dX4_readSetting_4 : decode cX4_readSetting 4 = .ok (.getfield 63, 3) := by decide +kernel
theorem dX4_readSetting_7 : decode cX4_readSetting 7 = .ok (.bipush 45, 2) := by decide +kernel
theorem dX4_readSetting_9 : decode cX4_readSetting 9 = .ok (.if_icmp .ne 7, 3) := by decide +kernel
theorem dX4_readSetting_12 : decode cX4_readSetting 12 = .ok (.iconst 1, 1) := by decide +kernel
theorem dX4_readSetting_13 : decode cX4_readSetting 13 = .ok (.goto 4, 3) := by decide +kernel
theorem dX4_readSetting_16 : decode cX4_readSetting 16 = .ok (.iconst 0, 1) := by decide +kernel
theorem dX4_readSetting_17 : decode cX4_readSetting 17 = .ok (.istore_n 2, 1) := by decide +kernel
theorem dX4_readSetting_18 : decode cX4_readSetting 18 = .ok (.iload_n 2, 1) := by decide +kernel
theorem dX4_readSetting_19 : decode cX4_readSetting 19 = .ok (.ifCond .eq 10, 3) := by decide +kernel
theorem dX4_readSetting_22 : decode cX4_readSetting 22 = .ok (.aload_n 0, 1) := by decide +kernel
theorem dX4_readSetting_23 : decode cX4_readSetting 23 = .ok (.getfield 12, 3) := by decide +kernel
theorem dX4_readSetting_26 : decode cX4_readSetting 26 = .ok (.invokevirtual 81, 3) := by decide +kernel
theorem dX4_readSetting_29 : decode cX4_readSetting 29 = .ok (.aload_n 0, 1) := by decide +kernel
theorem dX4_readSetting_30 : decode cX4_readSetting 30 = .ok (.iconst 0, 1) := by decide +kernel
theorem dX4_readSetting_31 : decode cX4_readSetting 31 = .ok (.iload_n 1, 1) := by decide +kernel
theorem dX4_readSetting_32 : decode cX4_readSetting 32 = .ok (.invokevirtual 84, 3) := by decide +kernel
theorem dX4_readSetting_35 : decode cX4_readSetting 35 = .ok (.ifCond .ne 5, 3) := by decide +kernel
theorem dX4_readSetting_38 : decode cX4_readSetting 38 = .ok (.iconst 0, 1) := by decide +kernel
theorem dX4_readSetting_39 : decode cX4_readSetting 39 = .ok (.ireturn, 1) := by decide +kernel
theorem dX4_readSetting_40 : decode cX4_readSetting 40 = .ok (.aload_n 0, 1) := by decide +kernel
theorem dX4_readSetting_41 : decode cX4_readSetting 41 = .ok (.iload_n 2, 1) := by decide +kernel
theorem dX4_readSetting_42 : decode cX4_readSetting 42 = .ok (.ifCond .eq 11, 3) := by decide +kernel
theorem dX4_readSetting_45 : decode cX4_readSetting 45 = .ok (.aload_n 0, 1) := by decide +kernel
theorem dX4_readSetting_46 : decode cX4_readSetting 46 = .ok (.getfield 91, 3) := by decide +kernel
theorem dX4_readSetting_49 : decode cX4_readSetting 49 = .ok (.ineg, 1) := by decide +kernel
theorem dX4_readSetting_50 : decode cX4_readSetting 50 = .ok (.goto 7, 3) := by decide +kernel
theorem dX4_readSetting_53 : decode cX4_readSetting 53 = .ok (.aload_n 0, 1) := by decide +kernel
theorem dX4_readSetting_54 : decode cX4_readSetting 54 = .ok (.getfield 91, 3) := by decide +kernel
theorem dX4_readSetting_57 : decode cX4_readSetting 57 = .ok (.putfield 91, 3) := by decide +kernel
theorem dX4_readSetting_60 : decode cX4_readSetting 60 = .ok (.iconst 1, 1) := by decide +kernel
theorem dX4_readSetting_61 : decode cX4_readSetting 61 = .ok (.ireturn, 1) := by decide +kernel
theorem dX4_readNumber_0 : decode cX4_readNumber 0 = .ok (.aload_n 0, 1) := by decide +kernel
theorem dX4_readNumber_1 : decode cX4_readNumber 1 = .ok (.getfield 12, 3) := by decide +kernel
theorem dX4_readNumber_4 : decode cX4_readNumber 4 = .ok (.getfield 63, 3) := by decide +kernel
theorem dX4_readNumber_7 : decode cX4_readNumber 7 = .ok (.sipush 256, 3) := by decide +kernel
theorem dX4_readNumber_10 : decode cX4_readNumber 10 = .ok (.if_icmp .eq 17, 3) := by decide +kernel
theorem dX4_readNumber_13 : decode cX4_readNumber 13 = .ok (.aload_n 0, 1) := by decide +kernel
theorem dX4_readNumber_14 : decode cX4_readNumber 14 = .ok (.bipush (-2), 2) := by decide +kernel
theorem dX4_readNumber_16 : decode cX4_readNumber 16 = .ok (.aload_n 0, 1) := by decide +kernel
theorem dX4_readNumber_17 : decode cX4_readNumber 17 = .ok (.getfield 12, 3) := by decide +kernel
theorem dX4_readNumber_20 : decode cX4_readNumber 20 = .ok (.getfield 74, 3) := by decide +kernel
theorem dX4_readNumber_23 : decode cX4_readNumber 23 = .ok (.invokevirtual 77, 3) := by decide +kernel
theorem dX4_readNumber_26 : decode cX4_readNumber 26 = .ok (.ireturn, 1) := by decide +kernel
theorem dX4_readNumber_27 : decode cX4_readNumber 27 = .ok (.aload_n 0, 1) := by decide +kernel
theorem dX4_readNumber_28 : decode cX4_readNumber 28 = .ok (.getfield 12, 3) := by decide +kernel
theorem dX4_readNumber_31 : decode cX4_readNumber 31 = .ok (.getfield 218, 3) := by decide +kernel
theorem dX4_readNumber_34 : decode cX4_readNumber 34 = .ok (.iload_n 1, 1) := by decide +kernel
theorem dX4_readNumber_35 : decode cX4_readNumber 35 = .ok (.if_icmp .lt 14, 3) := by decide +kernel
theorem dX4_readNumber_38 : decode cX4_readNumber 38 = .ok (.aload_n 0, 1) := by decide +kernel
theorem dX4_readNumber_39 : decode cX4_readNumber 39 = .ok (.getfield 12, 3) := by decide +kernel
theorem dX4_readNumber_42 : decode cX4_readNumber 42 = .ok (.getfield 218, 3) := by decide +kernel
theorem dX4_readNumber_45 : decode cX4_readNumber 45 = .ok (.iload_n 2, 1) := by decide +kernel
theorem dX4_readNumber_46 : decode cX4_readNumber 46 = .ok (.if_icmp .le 17, 3) := by decide +kernel
theorem dX4_readNumber_49 : decode cX4_readNumber 49 = .ok (.aload_n 0, 1) := by decide +kernel
theorem dX4_readNumber_50 : decode cX4_readNumber 50 = .ok (.bipush (-3), 2) := by decide +kernel
theorem dX4_readNumber_52 : decode cX4_readNumber 52 = .ok (.aload_n 0, 1) := by decide +kernel
theorem dX4_readNumber_53 : decode cX4_readNumber 53 = .ok (.getfield 12, 3) := by decide +kernel
theorem dX4_readNumber_56 : decode cX4_readNumber 56 = .ok (.getfield 74, 3) := by decide +kernel
theorem dX4_readNumber_59 : decode cX4_readNumber 59 = .ok (.invokevirtual 77, 3) := by decide +kernel
theorem dX4_readNumber_62 : decode cX4_readNumber 62 = .ok (.ireturn, 1) := by decide +kernel
theorem dX4_readNumber_63 : decode cX4_readNumber 63 = .ok (.aload_n 0, 1) := by decide +kernel
theorem dX4_readNumber_64 : decode cX4_readNumber 64 = .ok (.aload_n 0, 1) := by decide +kernel
theorem dX4_readNumber_65 : decode cX4_readNumber 65 = .ok (.getfield 12, 3) := by decide +kernel
theorem dX4_readNumber_68 : decode cX4_readNumber 68 = .ok (.getfield 218, 3) := by decide +kernel
theorem dX4_readNumber_71 : decode cX4_readNumber 71 = .ok (.putfield 91, 3) := by decide +kernel
theorem dX4_readNumber_74 : decode cX4_readNumber 74 = .ok (.aload_n 0, 1) := by decide +kernel
theorem dX4_readNumber_75 : decode cX4_readNumber 75 = .ok (.aload_n 0, 1) := by decide +kernel
theorem dX4_readNumber_76 : decode cX4_readNumber 76 = .ok (.getfield 12, 3) := by decide +kernel
theorem dX4_readNumber_79 : decode cX4_readNumber 79 = .ok (.getfield 74, 3) := by decide +kernel
theorem dX4_readNumber_82 : decode cX4_readNumber 82 = .ok (.putfield 151, 3) := by decide +kernel
theorem dX4_readNumber_85 : decode cX4_readNumber 85 = .ok (.aload_n 0, 1) := by decide +kernel
theorem dX4_readNumber_86 : decode cX4_readNumber 86 = .ok (.getfield 12, 3) := by decide +kernel
theorem dX4_readNumber_89 : decode cX4_readNumber 89 = .ok (.invokevirtual 81, 3) := by decide +kernel
theorem dX4_readNumber_92 : decode cX4_readNumber 92 = .ok (.iconst 1, 1) := by decide +kernel
theorem dX4_readNumber_93 : decode cX4_readNumber 93 = .ok (.ireturn, 1) := by decide +kernel
theorem dX4_readWay_0 : decode cX4_readWay 0 = .ok (.aload_n 0, 1) := by decide +kernel
theorem dX4_readWay_1 : decode cX4_readWay 1 = .ok (.getfield 12, 3) := by decide +kernel
theorem dX4_readWay_4 : decode cX4_readWay 4 = .ok (.ldc 226, 2) := by decide +kernel
theorem dX4_readWay_6 : decode cX4_readWay 6 = .ok (.invokevirtual 70, 3) := by decide +kernel
theorem dX4_readWay_9 : decode cX4_readWay 9 = .ok (.ifCond .eq 11, 3) := by decide +kernel
theorem dX4_readWay_12 : decode cX4_readWay 12 = .ok (.aload_n 0, 1) := by decide +kernel
theorem dX4_readWay_13 : decode cX4_readWay 13 = .ok (.iconst 1, 1) := by decide +kernel
theorem dX4_readWay_14 : decode cX4_readWay 14 = .ok (.putfield 171, 3) := by decide +kernel
theorem dX4_readWay_17 : decode cX4_readWay 17 = .ok (.goto 37, 3) := by decide +kernel
theorem dX4_readWay_20 : decode cX4_readWay 20 = .ok (.aload_n 0, 1) := by decide +kernel
theorem dX4_readWay_21 : decode cX4_readWay 21 = .ok (.getfield 12, 3) := by decide +kernel
theorem dX4_readWay_24 : decode cX4_readWay 24 = .ok (.ldc 228, 2) := by decide +kernel
theorem dX4_readWay_26 : decode cX4_readWay 26 = .ok (.invokevirtual 70, 3) := by decide +kernel
theorem dX4_readWay_29 : decode cX4_readWay 29 = .ok (.ifCond .eq 11, 3) := by decide +kernel
theorem dX4_readWay_32 : decode cX4_readWay 32 = .ok (.aload_n 0, 1) := by decide +kernel
theorem dX4_readWay_33 : decode cX4_readWay 33 = .ok (.iconst (-1), 1) := by decide +kernel
theorem dX4_readWay_34 : decode cX4_readWay 34 = .ok (.putfield 171, 3) := by decide +kernel
theorem dX4_readWay_37 : decode cX4_readWay 37 = .ok (.goto 17, 3) := by decide +kernel
theorem dX4_readWay_40 : decode cX4_readWay 40 = .ok (.aload_n 0, 1) := by decide +kernel
theorem dX4_readWay_41 : decode cX4_readWay 41 = .ok (.bipush (-2), 2) := by decide +kernel
theorem dX4_readWay_43 : decode cX4_readWay 43 = .ok (.aload_n 0, 1) := by decide +kernel
theorem dX4_readWay_44 : decode cX4_readWay 44 = .ok (.getfield 12, 3) := by decide +kernel
theorem dX4_readWay_47 : decode cX4_readWay 47 = .ok (.getfield 74, 3) := by decide +kernel
theorem dX4_readWay_50 : decode cX4_readWay 50 = .ok (.invokevirtual 77, 3) := by decide +kernel
theorem dX4_readWay_53 : decode cX4_readWay 53 = .ok (.ireturn, 1) := by decide +kernel
theorem dX4_readWay_54 : decode cX4_readWay 54 = .ok (.aload_n 0, 1) := by decide +kernel
theorem dX4_readWay_55 : decode cX4_readWay 55 = .ok (.getfield 12, 3) := by decide +kernel
theorem dX4_readWay_58 : decode cX4_readWay 58 = .ok (.invokevirtual 81, 3) := by decide +kernel
theorem dX4_readWay_61 : decode cX4_readWay 61 = .ok (.iconst 1, 1) := by decide +kernel
theorem dX4_readWay_62 : decode cX4_readWay 62 = .ok (.ireturn, 1) := by decide +kernel
theorem dX4_readSign_0 : decode cX4_readSign 0 = .ok (.aload_n 0, 1) := by decide +kernel
theorem dX4_readSign_1 : decode cX4_readSign 1 = .ok (.getfield 12, 3) := by decide +kernel
theorem dX4_readSign_4 : decode cX4_readSign 4 = .ok (.getfield 63, 3) := by decide +kernel
theorem dX4_readSign_7 : decode cX4_readSign 7 = .ok (.iload_n 1, 1) := by decide +kernel
theorem dX4_readSign_8 : decode cX4_readSign 8 = .ok (.if_icmp .eq 17, 3) := by decide +kernel
theorem dX4_readSign_11 : decode cX4_readSign 11 = .ok (.aload_n 0, 1) := by decide +kernel
theorem dX4_readSign_12 : decode cX4_readSign 12 = .ok (.bipush (-2), 2) := by decide +kernel
theorem dX4_readSign_14 : decode cX4_readSign 14 = .ok (.aload_n 0, 1) := by decide +kernel
theorem dX4_readSign_15 : decode cX4_readSign 15 = .ok (.getfield 12, 3) := by decide +kernel
theorem dX4_readSign_18 : decode cX4_readSign 18 = .ok (.getfield 74, 3) := by decide +kernel
theorem dX4_readSign_21 : decode cX4_readSign 21 = .ok (.invokevirtual 77, 3) := by decide +kernel
theorem dX4_readSign_24 : decode cX4_readSign 24 = .ok (.ireturn, 1) := by decide +kernel
theorem dX4_readSign_25 : decode cX4_readSign 25 = .ok (.aload_n 0, 1) := by decide +kernel
theorem dX4_readSign_26 : decode cX4_readSign 26 = .ok (.getfield 12, 3) := by decide +kernel
theorem dX4_readSign_29 : decode cX4_readSign 29 = .ok (.invokevirtual 81, 3) := by decide +kernel
theorem dX4_readSign_32 : decode cX4_readSign 32 = .ok (.iconst 1, 1) := by decide +kernel
theorem dX4_readSign_33 : decode cX4_readSign 33 = .ok (.ireturn, 1) := by decide +kernel
theorem dX4_fail_0 : decode cX4_fail 0 = .ok (.aload_n 0, 1) := by decide +kernel
theorem dX4_fail_1 : decode cX4_fail 1 = .ok (.iload_n 1, 1) := by decide +kernel
theorem dX4_fail_2 : decode cX4_fail 2 = .ok (.putfield 230, 3) := by decide +kernel
theorem dX4_fail_5 : decode cX4_fail 5 = .ok (.aload_n 0, 1) := by decide +kernel
theorem dX4_fail_6 : decode cX4_fail 6 = .ok (.iload_n 2, 1) := by decide +kernel
theorem dX4_fail_7 : decode cX4_fail 7 = .ok (.putfield 233, 3) := by decide +kernel
theorem dX4_fail_10 : decode cX4_fail 10 = .ok (.iconst 0, 1) := by decide +kernel
theorem dX4_fail_11 : decode cX4_fail 11 = .ok (.ireturn, 1) := by decide +kernel
theorem dX5_init_0 : decode cX5_init 0 = .ok (.aload_n 0, 1) := by decide +kernel
theorem dX5_init_1 : decode cX5_init 1 = .ok (.invokespecial 3, 3) := by decide +kernel
theorem dX5_init_4 : decode cX5_init 4 = .ok (.aload_n 0, 1) := by decide +kernel
theorem dX5_init_5 : decode cX5_init 5 = .ok (.iconst (-1), 1) := by decide +kernel
theorem dX5_init_6 : decode cX5_init 6 = .ok (.putfield 9, 3) := by decide +kernel
theorem dX5_init_9 : decode cX5_init 9 = .ok (.aload_n 0, 1) := by decide +kernel
theorem dX5_init_10 : decode cX5_init 10 = .ok (.bipush 12, 2) := by decide +kernel
theorem dX5_init_12 : decode cX5_init 12 = .ok (.newarray .long, 2) := by decide +kernel
theorem dX5_init_14 : decode cX5_init 14 = .ok (.putfield 15, 3) := by decide +kernel
theorem dX5_init_17 : decode cX5_init 17 = .ok (.aload_n 0, 1) := by decide +kernel
theorem dX5_init_18 : decode cX5_init 18 = .ok (.bipush 12, 2) := by decide +kernel
theorem dX5_init_20 : decode cX5_init 20 = .ok (.newarray .int, 2) := by decide +kernel
theorem dX5_init_22 : decode cX5_init 22 = .ok (.putfield 19, 3) := by decide +kernel
theorem dX5_init_25 : decode cX5_init 25 = .ok (.aload_n 0, 1) := by decide +kernel
theorem dX5_init_26 : decode cX5_init 26 = .ok (.bipush 12, 2) := by decide +kernel
theorem dX5_init_28 : decode cX5_init 28 = .ok (.newarray .int, 2) := by decide +kernel
theorem dX5_init_30 : decode cX5_init 30 = .ok (.putfield 23, 3) := by decide +kernel
theorem dX5_init_33 : decode cX5_init 33 = .ok (.aload_n 0, 1) := by decide +kernel
theorem dX5_init_34 : decode cX5_init 34 = .ok (.bipush 24, 2) := by decide +kernel
theorem dX5_init_36 : decode cX5_init 36 = .ok (.newarray .boolean, 2) := by decide +kernel
theorem dX5_init_38 : decode cX5_init 38 = .ok (.putfield 26, 3) := by decide +kernel
theorem dX5_init_41 : decode cX5_init 41 = .ok (.aload_n 0, 1) := by decide +kernel
theorem dX5_init_42 : decode cX5_init 42 = .ok (.bipush 24, 2) := by decide +kernel
theorem dX5_init_44 : decode cX5_init 44 = .ok (.newarray .int, 2) := by decide +kernel
theorem dX5_init_46 : decode cX5_init 46 = .ok (.putfield 30, 3) := by decide +kernel
theorem dX5_init_49 : decode cX5_init 49 = .ok (.aload_n 0, 1) := by decide +kernel
theorem dX5_init_50 : decode cX5_init 50 = .ok (.bipush 20, 2) := by decide +kernel
theorem dX5_init_52 : decode cX5_init 52 = .ok (.newarray .int, 2) := by decide +kernel
theorem dX5_init_54 : decode cX5_init 54 = .ok (.putfield 33, 3) := by decide +kernel
theorem dX5_init_57 : decode cX5_init 57 = .ok (.aload_n 0, 1) := by decide +kernel
theorem dX5_init_58 : decode cX5_init 58 = .ok (.bipush 20, 2) := by decide +kernel
theorem dX5_init_60 : decode cX5_init 60 = .ok (.newarray .int, 2) := by decide +kernel
theorem dX5_init_62 : decode cX5_init 62 = .ok (.putfield 36, 3) := by decide +kernel
theorem dX5_init_65 : decode cX5_init 65 = .ok (.aload_n 0, 1) := by decide +kernel
theorem dX5_init_66 : decode cX5_init 66 = .ok (.bipush 20, 2) := by decide +kernel
theorem dX5_init_68 : decode cX5_init 68 = .ok (.newarray .long, 2) := by decide +kernel
theorem dX5_init_70 : decode cX5_init 70 = .ok (.putfield 39, 3) := by decide +kernel
theorem dX5_init_73 : decode cX5_init 73 = .ok (.aload_n 0, 1) := by decide +kernel
theorem dX5_init_74 : decode cX5_init 74 = .ok (.aload_n 1, 1) := by decide +kernel
theorem dX5_init_75 : decode cX5_init 75 = .ok (.putfield 42, 3) := by decide +kernel
theorem dX5_init_78 : decode cX5_init 78 = .ok (.return_, 1) := by decide +kernel
theorem dX5_clear_0 : decode cX5_clear 0 = .ok (.aload_n 0, 1) := by decide +kernel
theorem dX5_clear_1 : decode cX5_clear 1 = .ok (.aload_n 1, 1) := by decide +kernel
theorem dX5_clear_2 : decode cX5_clear 2 = .ok (.putfield 42, 3) := by decide +kernel
theorem dX5_clear_5 : decode cX5_clear 5 = .ok (.aload_n 0, 1) := by decide +kernel
theorem dX5_clear_6 : decode cX5_clear 6 = .ok (.iconst 0, 1) := by decide +kernel
theorem dX5_clear_7 : decode cX5_clear 7 = .ok (.putfield 46, 3) := by decide +kernel
theorem dX5_clear_10 : decode cX5_clear 10 = .ok (.aload_n 0, 1) := by decide +kernel
theorem dX5_clear_11 : decode cX5_clear 11 = .ok (.iconst (-1), 1) := by decide +kernel
theorem dX5_clear_12 : decode cX5_clear 12 = .ok (.putfield 9, 3) := by decide +kernel
theorem dX5_clear_15 : decode cX5_clear 15 = .ok (.aload_n 0, 1) := by decide +kernel
theorem dX5_clear_16 : decode cX5_clear 16 = .ok (.iconst 0, 1) := by decide +kernel
theorem dX5_clear_17 : decode cX5_clear 17 = .ok (.putfield 49, 3) := by decide +kernel
theorem dX5_clear_20 : decode cX5_clear 20 = .ok (.aload_n 0, 1) := by decide +kernel
theorem dX5_clear_21 : decode cX5_clear 21 = .ok (.lconst 0, 1) := by decide +kernel
theorem dX5_clear_22 : decode cX5_clear 22 = .ok (.putfield 52, 3) := by decide +kernel
theorem dX5_clear_25 : decode cX5_clear 25 = .ok (.aload_n 0, 1) := by decide +kernel
theorem dX5_clear_26 : decode cX5_clear 26 = .ok (.lconst 0, 1) := by decide +kernel
theorem dX5_clear_27 : decode cX5_clear 27 = .ok (.putfield 56, 3) := by decide +kernel
theorem dX5_clear_30 : decode cX5_clear 30 = .ok (.iconst 0, 1) := by decide +kernel
theorem dX5_clear_31 : decode cX5_clear 31 = .ok (.istore_n 2, 1) := by decide +kernel
theorem dX5_clear_32 : decode cX5_clear 32 = .ok (.iload_n 2, 1) := by decide +kernel
theorem dX5_clear_33 : decode cX5_clear 33 = .ok (.bipush 12, 2) := by decide +kernel
theorem dX5_clear_35 : decode cX5_clear 35 = .ok (.if_icmp .ge 30, 3) := by decide +kernel
theorem dX5_clear_38 : decode cX5_clear 38 = .ok (.aload_n 0, 1) := by decide +kernel
theorem dX5_clear_39 : decode cX5_clear 39 = .ok (.getfield 15, 3) := by decide +kernel
theorem dX5_clear_42 : decode cX5_clear 42 = .ok (.iload_n 2, 1) := by decide +kernel
theorem dX5_clear_43 : decode cX5_clear 43 = .ok (.lconst 0, 1) := by decide +kernel
theorem dX5_clear_44 : decode cX5_clear 44 = .ok (.lastore, 1) := by decide +kernel
theorem dX5_clear_45 : decode cX5_clear 45 = .ok (.aload_n 0, 1) := by decide +kernel
theorem dX5_clear_46 : decode cX5_clear 46 = .ok (.getfield 19, 3) := by decide +kernel
theorem dX5_clear_49 : decode cX5_clear 49 = .ok (.iload_n 2, 1) := by decide +kernel
theorem dX5_clear_50 : decode cX5_clear 50 = .ok (.iconst 0, 1) := by decide +kernel
theorem dX5_clear_51 : decode cX5_clear 51 = .ok (.iastore, 1) := by decide +kernel
theorem dX5_clear_52 : decode cX5_clear 52 = .ok (.aload_n 0, 1) := by decide +kernel
theorem dX5_clear_53 : decode cX5_clear 53 = .ok (.getfield 23, 3) := by decide +kernel
theorem dX5_clear_56 : decode cX5_clear 56 = .ok (.iload_n 2, 1) := by decide +kernel
theorem dX5_clear_57 : decode cX5_clear 57 = .ok (.iconst (-1), 1) := by decide +kernel
theorem dX5_clear_58 : decode cX5_clear 58 = .ok (.iastore, 1) := by decide +kernel
theorem dX5_clear_59 : decode cX5_clear 59 = .ok (.iinc 2 1, 3) := by decide +kernel
theorem dX5_clear_62 : decode cX5_clear 62 = .ok (.goto (-30), 3) := by decide +kernel
theorem dX5_clear_65 : decode cX5_clear 65 = .ok (.iconst 0, 1) := by decide +kernel
theorem dX5_clear_66 : decode cX5_clear 66 = .ok (.istore_n 2, 1) := by decide +kernel
theorem dX5_clear_67 : decode cX5_clear 67 = .ok (.iload_n 2, 1) := by decide +kernel
theorem dX5_clear_68 : decode cX5_clear 68 = .ok (.bipush 24, 2) := by decide +kernel
theorem dX5_clear_70 : decode cX5_clear 70 = .ok (.if_icmp .ge 23, 3) := by decide +kernel
theorem dX5_clear_73 : decode cX5_clear 73 = .ok (.aload_n 0, 1) := by decide +kernel
theorem dX5_clear_74 : decode cX5_clear 74 = .ok (.getfield 26, 3) := by decide +kernel
theorem dX5_clear_77 : decode cX5_clear 77 = .ok (.iload_n 2, 1) := by decide +kernel
theorem dX5_clear_78 : decode cX5_clear 78 = .ok (.iconst 0, 1) := by decide +kernel
theorem dX5_clear_79 : decode cX5_clear 79 = .ok (.bastore, 1) := by decide +kernel
theorem dX5_clear_80 : decode cX5_clear 80 = .ok (.aload_n 0, 1) := by decide +kernel
theorem dX5_clear_81 : decode cX5_clear 81 = .ok (.getfield 30, 3) := by decide +kernel
theorem dX5_clear_84 : decode cX5_clear 84 = .ok (.iload_n 2, 1) := by decide +kernel
theorem dX5_clear_85 : decode cX5_clear 85 = .ok (.iconst 0, 1) := by decide +kernel
theorem dX5_clear_86 : decode cX5_clear 86 = .ok (.iastore, 1) := by decide +kernel
theorem dX5_clear_87 : decode cX5_clear 87 = .ok (.iinc 2 1, 3) := by decide +kernel
theorem dX5_clear_90 : decode cX5_clear 90 = .ok (.goto (-23), 3) := by decide +kernel
theorem dX5_clear_93 : decode cX5_clear 93 = .ok (.iconst 0, 1) := by decide +kernel
theorem dX5_clear_94 : decode cX5_clear 94 = .ok (.istore_n 2, 1) := by decide +kernel
theorem dX5_clear_95 : decode cX5_clear 95 = .ok (.iload_n 2, 1) := by decide +kernel
theorem dX5_clear_96 : decode cX5_clear 96 = .ok (.bipush 20, 2) := by decide +kernel
theorem dX5_clear_98 : decode cX5_clear 98 = .ok (.if_icmp .ge 16, 3) := by decide +kernel
theorem dX5_clear_101 : decode cX5_clear 101 = .ok (.aload_n 0, 1) := by decide +kernel
theorem dX5_clear_102 : decode cX5_clear 102 = .ok (.getfield 39, 3) := by decide +kernel
theorem dX5_clear_105 : decode cX5_clear 105 = .ok (.iload_n 2, 1) := by decide +kernel
theorem dX5_clear_106 : decode cX5_clear 106 = .ok (.lconst 0, 1) := by decide +kernel
theorem dX5_clear_107 : decode cX5_clear 107 = .ok (.lastore, 1) := by decide +kernel
theorem dX5_clear_108 : decode cX5_clear 108 = .ok (.iinc 2 1, 3) := by decide +kernel
theorem dX5_clear_111 : decode cX5_clear 111 = .ok (.goto (-16), 3) := by decide +kernel
theorem dX5_clear_114 : decode cX5_clear 114 = .ok (.return_, 1) := by decide +kernel
theorem dX5_copyFrom_0 : decode cX5_copyFrom 0 = .ok (.aload_n 0, 1) := by decide +kernel
theorem dX5_copyFrom_1 : decode cX5_copyFrom 1 = .ok (.aload_n 1, 1) := by decide +kernel
theorem dX5_copyFrom_2 : decode cX5_copyFrom 2 = .ok (.getfield 42, 3) := by decide +kernel
theorem dX5_copyFrom_5 : decode cX5_copyFrom 5 = .ok (.putfield 42, 3) := by decide +kernel
theorem dX5_copyFrom_8 : decode cX5_copyFrom 8 = .ok (.aload_n 0, 1) := by decide +kernel
theorem dX5_copyFrom_9 : decode cX5_copyFrom 9 = .ok (.aload_n 1, 1) := by decide +kernel
theorem dX5_copyFrom_10 : decode cX5_copyFrom 10 = .ok (.getfield 46, 3) := by decide +kernel
theorem dX5_copyFrom_13 : decode cX5_copyFrom 13 = .ok (.putfield 46, 3) := by decide +kernel
theorem dX5_copyFrom_16 : decode cX5_copyFrom 16 = .ok (.aload_n 0, 1) := by decide +kernel
theorem dX5_copyFrom_17 : decode cX5_copyFrom 17 = .ok (.aload_n 1, 1) := by decide +kernel
theorem dX5_copyFrom_18 : decode cX5_copyFrom 18 = .ok (.getfield 9, 3) := by decide +kernel
theorem dX5_copyFrom_21 : decode cX5_copyFrom 21 = .ok (.putfield 9, 3) := by decide +kernel
theorem dX5_copyFrom_24 : decode cX5_copyFrom 24 = .ok (.aload_n 0, 1) := by decide +kernel
theorem dX5_copyFrom_25 : decode cX5_copyFrom 25 = .ok (.aload_n 1, 1) := by decide +kernel
theorem dX5_copyFrom_26 : decode cX5_copyFrom 26 = .ok (.getfield 49, 3) := by decide +kernel
theorem dX5_copyFrom_29 : decode cX5_copyFrom 29 = .ok (.putfield 49, 3) := by decide +kernel
theorem dX5_copyFrom_32 : decode cX5_copyFrom 32 = .ok (.aload_n 0, 1) := by decide +kernel
theorem dX5_copyFrom_33 : decode cX5_copyFrom 33 = .ok (.aload_n 1, 1) := by decide +kernel
theorem dX5_copyFrom_34 : decode cX5_copyFrom 34 = .ok (.getfield 52, 3) := by decide +kernel
theorem dX5_copyFrom_37 : decode cX5_copyFrom 37 = .ok (.putfield 52, 3) := by decide +kernel
theorem dX5_copyFrom_40 : decode cX5_copyFrom 40 = .ok (.aload_n 0, 1) := by decide +kernel
theorem dX5_copyFrom_41 : decode cX5_copyFrom 41 = .ok (.aload_n 1, 1) := by decide +kernel
theorem dX5_copyFrom_42 : decode cX5_copyFrom 42 = .ok (.getfield 56, 3) := by decide +kernel
theorem dX5_copyFrom_45 : decode cX5_copyFrom 45 = .ok (.putfield 56, 3) := by decide +kernel
theorem dX5_copyFrom_48 : decode cX5_copyFrom 48 = .ok (.aload_n 1, 1) := by decide +kernel
theorem dX5_copyFrom_49 : decode cX5_copyFrom 49 = .ok (.getfield 15, 3) := by decide +kernel
theorem dX5_copyFrom_52 : decode cX5_copyFrom 52 = .ok (.iconst 0, 1) := by decide +kernel
theorem dX5_copyFrom_53 : decode cX5_copyFrom 53 = .ok (.aload_n 0, 1) := by decide +kernel
theorem dX5_copyFrom_54 : decode cX5_copyFrom 54 = .ok (.getfield 15, 3) := by decide +kernel
theorem dX5_copyFrom_57 : decode cX5_copyFrom 57 = .ok (.iconst 0, 1) := by decide +kernel
theorem dX5_copyFrom_58 : decode cX5_copyFrom 58 = .ok (.bipush 12, 2) := by decide +kernel
theorem dX5_copyFrom_60 : decode cX5_copyFrom 60 = .ok (.invokestatic 59, 3) := by decide +kernel
theorem dX5_copyFrom_63 : decode cX5_copyFrom 63 = .ok (.aload_n 1, 1) := by decide +kernel
theorem dX5_copyFrom_64 : decode cX5_copyFrom 64 = .ok (.getfield 19, 3) := by decide +kernel
theorem dX5_copyFrom_67 : decode cX5_copyFrom 67 = .ok (.iconst 0, 1) := by decide +kernel
theorem dX5_copyFrom_68 : decode cX5_copyFrom 68 = .ok (.aload_n 0, 1) := by decide +kernel
theorem dX5_copyFrom_69 : decode cX5_copyFrom 69 = .ok (.getfield 19, 3) := by decide +kernel
theorem dX5_copyFrom_72 : decode cX5_copyFrom 72 = .ok (.iconst 0, 1) := by decide +kernel
theorem dX5_copyFrom_73 : decode cX5_copyFrom 73 = .ok (.bipush 12, 2) := by decide +kernel
theorem dX5_copyFrom_75 : decode cX5_copyFrom 75 = .ok (.invokestatic 59, 3) := by decide +kernel
theorem dX5_copyFrom_78 : decode cX5_copyFrom 78 = .ok (.aload_n 1, 1) := by decide +kernel
theorem dX5_copyFrom_79 : decode cX5_copyFrom 79 = .ok (.getfield 23, 3) := by decide +kernel
theorem dX5_copyFrom_82 : decode cX5_copyFrom 82 = .ok (.iconst 0, 1) := by decide +kernel
theorem dX5_copyFrom_83 : decode cX5_copyFrom 83 = .ok (.aload_n 0, 1) := by decide +kernel
theorem dX5_copyFrom_84 : decode cX5_copyFrom 84 = .ok (.getfield 23, 3) := by decide +kernel
theorem dX5_copyFrom_87 : decode cX5_copyFrom 87 = .ok (.iconst 0, 1) := by decide +kernel
theorem dX5_copyFrom_88 : decode cX5_copyFrom 88 = .ok (.bipush 12, 2) := by decide +kernel
theorem dX5_copyFrom_90 : decode cX5_copyFrom 90 = .ok (.invokestatic 59, 3) := by decide +kernel
theorem dX5_copyFrom_93 : decode cX5_copyFrom 93 = .ok (.aload_n 1, 1) := by decide +kernel
theorem dX5_copyFrom_94 : decode cX5_copyFrom 94 = .ok (.getfield 30, 3) := by decide +kernel
theorem dX5_copyFrom_97 : decode cX5_copyFrom 97 = .ok (.iconst 0, 1) := by decide +kernel
theorem dX5_copyFrom_98 : decode cX5_copyFrom 98 = .ok (.aload_n 0, 1) := by decide +kernel
theorem dX5_copyFrom_99 : decode cX5_copyFrom 99 = .ok (.getfield 30, 3) := by decide +kernel
theorem dX5_copyFrom_102 : decode cX5_copyFrom 102 = .ok (.iconst 0, 1) := by decide +kernel
theorem dX5_copyFrom_103 : decode cX5_copyFrom 103 = .ok (.bipush 24, 2) := by decide +kernel
theorem dX5_copyFrom_105 : decode cX5_copyFrom 105 = .ok (.invokestatic 59, 3) := by decide +kernel
theorem dX5_copyFrom_108 : decode cX5_copyFrom 108 = .ok (.aload_n 1, 1) := by decide +kernel
theorem dX5_copyFrom_109 : decode cX5_copyFrom 109 = .ok (.getfield 33, 3) := by decide +kernel
theorem dX5_copyFrom_112 : decode cX5_copyFrom 112 = .ok (.iconst 0, 1) := by decide +kernel
theorem dX5_copyFrom_113 : decode cX5_copyFrom 113 = .ok (.aload_n 0, 1) := by decide +kernel
theorem dX5_copyFrom_114 : decode cX5_copyFrom 114 = .ok (.getfield 33, 3) := by decide +kernel
theorem dX5_copyFrom_117 : decode cX5_copyFrom 117 = .ok (.iconst 0, 1) := by decide +kernel
theorem dX5_copyFrom_118 : decode cX5_copyFrom 118 = .ok (.bipush 20, 2) := by decide +kernel
theorem dX5_copyFrom_120 : decode cX5_copyFrom 120 = .ok (.invokestatic 59, 3) := by decide +kernel
theorem dX5_copyFrom_123 : decode cX5_copyFrom 123 = .ok (.aload_n 1, 1) := by decide +kernel
theorem dX5_copyFrom_124 : decode cX5_copyFrom 124 = .ok (.getfield 36, 3) := by decide +kernel
theorem dX5_copyFrom_127 : decode cX5_copyFrom 127 = .ok (.iconst 0, 1) := by decide +kernel
theorem dX5_copyFrom_128 : decode cX5_copyFrom 128 = .ok (.aload_n 0, 1) := by decide +kernel
theorem dX5_copyFrom_129 : decode cX5_copyFrom 129 = .ok (.getfield 36, 3) := by decide +kernel
theorem dX5_copyFrom_132 : decode cX5_copyFrom 132 = .ok (.iconst 0, 1) := by decide +kernel
theorem dX5_copyFrom_133 : decode cX5_copyFrom 133 = .ok (.bipush 20, 2) := by decide +kernel
theorem dX5_copyFrom_135 : decode cX5_copyFrom 135 = .ok (.invokestatic 59, 3) := by decide +kernel
theorem dX5_copyFrom_138 : decode cX5_copyFrom 138 = .ok (.aload_n 1, 1) := by decide +kernel
theorem dX5_copyFrom_139 : decode cX5_copyFrom 139 = .ok (.getfield 39, 3) := by decide +kernel
theorem dX5_copyFrom_142 : decode cX5_copyFrom 142 = .ok (.iconst 0, 1) := by decide +kernel
theorem dX5_copyFrom_143 : decode cX5_copyFrom 143 = .ok (.aload_n 0, 1) := by decide +kernel
theorem dX5_copyFrom_144 : decode cX5_copyFrom 144 = .ok (.getfield 39, 3) := by decide +kernel
theorem dX5_copyFrom_147 : decode cX5_copyFrom 147 = .ok (.iconst 0, 1) := by decide +kernel
theorem dX5_copyFrom_148 : decode cX5_copyFrom 148 = .ok (.bipush 20, 2) := by decide +kernel
theorem dX5_copyFrom_150 : decode cX5_copyFrom 150 = .ok (.invokestatic 59, 3) := by decide +kernel
theorem dX5_copyFrom_153 : decode cX5_copyFrom 153 = .ok (.iconst 0, 1) := by decide +kernel
theorem dX5_copyFrom_154 : decode cX5_copyFrom 154 = .ok (.istore_n 2, 1) := by decide +kernel
theorem dX5_copyFrom_155 : decode cX5_copyFrom 155 = .ok (.iload_n 2, 1) := by decide +kernel
theorem dX5_copyFrom_156 : decode cX5_copyFrom 156 = .ok (.bipush 24, 2) := by decide +kernel
theorem dX5_copyFrom_158 : decode cX5_copyFrom 158 = .ok (.if_icmp .ge 21, 3) := by decide +kernel
theorem dX5_copyFrom_161 : decode cX5_copyFrom 161 = .ok (.aload_n 0, 1) := by decide +kernel
theorem dX5_copyFrom_162 : decode cX5_copyFrom 162 = .ok (.getfield 26, 3) := by decide +kernel
theorem dX5_copyFrom_165 : decode cX5_copyFrom 165 = .ok (.iload_n 2, 1) := by decide +kernel
theorem dX5_copyFrom_166 : decode cX5_copyFrom 166 = .ok (.aload_n 1, 1) := by decide +kernel
theorem dX5_copyFrom_167 : decode cX5_copyFrom 167 = .ok (.getfield 26, 3) := by decide +kernel
theorem dX5_copyFrom_170 : decode cX5_copyFrom 170 = .ok (.iload_n 2, 1) := by decide +kernel
theorem dX5_copyFrom_171 : decode cX5_copyFrom 171 = .ok (.baload, 1) := by decide +kernel
theorem dX5_copyFrom_172 : decode cX5_copyFrom 172 = .ok (.bastore, 1) := by decide +kernel
theorem dX5_copyFrom_173 : decode cX5_copyFrom 173 = .ok (.iinc 2 1, 3) := by decide +kernel
theorem dX5_copyFrom_176 : decode cX5_copyFrom 176 = .ok (.goto (-21), 3) := by decide +kernel
theorem dX5_copyFrom_179 : decode cX5_copyFrom 179 = .ok (.return_, 1) := by decide +kernel
theorem dX5_hasRoom_0 : decode cX5_hasRoom 0 = .ok (.aload_n 0, 1) := by decide +kernel
theorem dX5_hasRoom_1 : decode cX5_hasRoom 1 = .ok (.getfield 30, 3) := by decide +kernel
theorem dX5_hasRoom_4 : decode cX5_hasRoom 4 = .ok (.iload_n 1, 1) := by decide +kernel
theorem dX5_hasRoom_5 : decode cX5_hasRoom 5 = .ok (.iload_n 2, 1) := by decide +kernel
theorem dX5_hasRoom_6 : decode cX5_hasRoom 6 = .ok (.invokestatic 65, 3) := by decide +kernel
theorem dX5_hasRoom_9 : decode cX5_hasRoom 9 = .ok (.iaload, 1) := by decide +kernel
theorem dX5_hasRoom_10 : decode cX5_hasRoom 10 = .ok (.aload_n 0, 1) := by decide +kernel
theorem dX5_hasRoom_11 : decode cX5_hasRoom 11 = .ok (.getfield 42, 3) := by decide +kernel
theorem dX5_hasRoom_14 : decode cX5_hasRoom 14 = .ok (.getfield 69, 3) := by decide +kernel
theorem dX5_hasRoom_17 : decode cX5_hasRoom 17 = .ok (.if_icmp .ge 7, 3) := by decide +kernel
theorem dX5_hasRoom_20 : decode cX5_hasRoom 20 = .ok (.iconst 1, 1) := by decide +kernel
theorem dX5_hasRoom_21 : decode cX5_hasRoom 21 = .ok (.goto 4, 3) := by decide +kernel
theorem dX5_hasRoom_24 : decode cX5_hasRoom 24 = .ok (.iconst 0, 1) := by decide +kernel
theorem dX5_hasRoom_25 : decode cX5_hasRoom 25 = .ok (.ireturn, 1) := by decide +kernel
theorem dX5_addCar_0 : decode cX5_addCar 0 = .ok (.aload_n 0, 1) := by decide +kernel
theorem dX5_addCar_1 : decode cX5_addCar 1 = .ok (.getfield 33, 3) := by decide +kernel
theorem dX5_addCar_4 : decode cX5_addCar 4 = .ok (.aload_n 0, 1) := by decide +kernel
theorem dX5_addCar_5 : decode cX5_addCar 5 = .ok (.getfield 42, 3) := by decide +kernel
theorem dX5_addCar_8 : decode cX5_addCar 8 = .ok (.getfield 74, 3) := by decide +kernel
theorem dX5_addCar_11 : decode cX5_addCar 11 = .ok (.iload_n 1, 1) := by decide +kernel
theorem dX5_addCar_12 : decode cX5_addCar 12 = .ok (.iastore, 1) := by decide +kernel
theorem dX5_addCar_13 : decode cX5_addCar 13 = .ok (.aload_n 0, 1) := by decide +kernel
theorem dX5_addCar_14 : decode cX5_addCar 14 = .ok (.getfield 36, 3) := by decide +kernel
theorem dX5_addCar_17 : decode cX5_addCar 17 = .ok (.aload_n 0, 1) := by decide +kernel
theorem dX5_addCar_18 : decode cX5_addCar 18 = .ok (.getfield 42, 3) := by decide +kernel
theorem dX5_addCar_21 : decode cX5_addCar 21 = .ok (.getfield 74, 3) := by decide +kernel
theorem dX5_addCar_24 : decode cX5_addCar 24 = .ok (.iload_n 2, 1) := by decide +kernel
theorem dX5_addCar_25 : decode cX5_addCar 25 = .ok (.iastore, 1) := by decide +kernel
theorem dX5_addCar_26 : decode cX5_addCar 26 = .ok (.aload_n 0, 1) := by decide +kernel
theorem dX5_addCar_27 : decode cX5_addCar 27 = .ok (.getfield 30, 3) := by decide +kernel
theorem dX5_addCar_30 : decode cX5_addCar 30 = .ok (.iload_n 1, 1) := by decide +kernel
theorem dX5_addCar_31 : decode cX5_addCar 31 = .ok (.iload_n 2, 1) := by decide +kernel
theorem dX5_addCar_32 : decode cX5_addCar 32 = .ok (.invokestatic 65, 3) := by decide +kernel
theorem dX5_addCar_35 : decode cX5_addCar 35 = .ok (.dup2, 1) := by decide +kernel
theorem dX5_addCar_36 : decode cX5_addCar 36 = .ok (.iaload, 1) := by decide +kernel
theorem dX5_addCar_37 : decode cX5_addCar 37 = .ok (.iconst 1, 1) := by decide +kernel
theorem dX5_addCar_38 : decode cX5_addCar 38 = .ok (.iadd, 1) := by decide +kernel
theorem dX5_addCar_39 : decode cX5_addCar 39 = .ok (.iastore, 1) := by decide +kernel
theorem dX5_addCar_40 : decode cX5_addCar 40 = .ok (.aload_n 0, 1) := by decide +kernel
theorem dX5_addCar_41 : decode cX5_addCar 41 = .ok (.getfield 42, 3) := by decide +kernel
theorem dX5_addCar_44 : decode cX5_addCar 44 = .ok (.dup, 1) := by decide +kernel
theorem dX5_addCar_45 : decode cX5_addCar 45 = .ok (.getfield 74, 3) := by decide +kernel
theorem dX5_addCar_48 : decode cX5_addCar 48 = .ok (.iconst 1, 1) := by decide +kernel
theorem dX5_addCar_49 : decode cX5_addCar 49 = .ok (.iadd, 1) := by decide +kernel
theorem dX5_addCar_50 : decode cX5_addCar 50 = .ok (.putfield 74, 3) := by decide +kernel
theorem dX5_addCar_53 : decode cX5_addCar 53 = .ok (.aload_n 0, 1) := by decide +kernel
theorem dX5_addCar_54 : decode cX5_addCar 54 = .ok (.dup, 1) := by decide +kernel
theorem dX5_addCar_55 : decode cX5_addCar 55 = .ok (.getfield 49, 3) := by decide +kernel
theorem dX5_addCar_58 : decode cX5_addCar 58 = .ok (.iconst 1, 1) := by decide +kernel
theorem dX5_addCar_59 : decode cX5_addCar 59 = .ok (.iadd, 1) := by decide +kernel
theorem dX5_addCar_60 : decode cX5_addCar 60 = .ok (.putfield 49, 3) := by decide +kernel
theorem dX5_addCar_63 : decode cX5_addCar 63 = .ok (.return_, 1) := by decide +kernel
theorem dX5_airFlow_0 : decode cX5_airFlow 0 = .ok (.aload_n 0, 1) := by decide +kernel
theorem dX5_airFlow_1 : decode cX5_airFlow 1 = .ok (.getfield 42, 3) := by decide +kernel
theorem dX5_airFlow_4 : decode cX5_airFlow 4 = .ok (.getfield 77, 3) := by decide +kernel
theorem dX5_airFlow_7 : decode cX5_airFlow 7 = .ok (.istore_n 1, 1) := by decide +kernel
theorem dX5_airFlow_8 : decode cX5_airFlow 8 = .ok (.iconst 0, 1) := by decide +kernel
theorem dX5_airFlow_9 : decode cX5_airFlow 9 = .ok (.istore_n 2, 1) := by decide +kernel
theorem dX5_airFlow_10 : decode cX5_airFlow 10 = .ok (.iload_n 2, 1) := by decide +kernel
theorem dX5_airFlow_11 : decode cX5_airFlow 11 = .ok (.aload_n 0, 1) := by decide +kernel
theorem dX5_airFlow_12 : decode cX5_airFlow 12 = .ok (.getfield 42, 3) := by decide +kernel
theorem dX5_airFlow_15 : decode cX5_airFlow 15 = .ok (.getfield 80, 3) := by decide +kernel
theorem dX5_airFlow_18 : decode cX5_airFlow 18 = .ok (.if_icmp .ge 18, 3) := by decide +kernel
theorem dX5_airFlow_21 : decode cX5_airFlow 21 = .ok (.iload_n 1, 1) := by decide +kernel
theorem dX5_airFlow_22 : decode cX5_airFlow 22 = .ok (.aload_n 0, 1) := by decide +kernel
theorem dX5_airFlow_23 : decode cX5_airFlow 23 = .ok (.getfield 19, 3) := by decide +kernel
theorem dX5_airFlow_26 : decode cX5_airFlow 26 = .ok (.iload_n 2, 1) := by decide +kernel
theorem dX5_airFlow_27 : decode cX5_airFlow 27 = .ok (.iaload, 1) := by decide +kernel
theorem dX5_airFlow_28 : decode cX5_airFlow 28 = .ok (.iadd, 1) := by decide +kernel
theorem dX5_airFlow_29 : decode cX5_airFlow 29 = .ok (.istore_n 1, 1) := by decide +kernel
theorem dX5_airFlow_30 : decode cX5_airFlow 30 = .ok (.iinc 2 1, 3) := by decide +kernel
theorem dX5_airFlow_33 : decode cX5_airFlow 33 = .ok (.goto (-23), 3) := by decide +kernel
theorem dX5_airFlow_36 : decode cX5_airFlow 36 = .ok (.bipush (-100), 2) := by decide +kernel
theorem dX5_airFlow_38 : decode cX5_airFlow 38 = .ok (.bipush 100, 2) := by decide +kernel
theorem dX5_airFlow_40 : decode cX5_airFlow 40 = .ok (.iload_n 1, 1) := by decide +kernel
theorem dX5_airFlow_41 : decode cX5_airFlow 41 = .ok (.invokestatic 83, 3) := by decide +kernel
theorem dX5_airFlow_44 : decode cX5_airFlow 44 = .ok (.invokestatic 88, 3) := by decide +kernel
theorem dX5_airFlow_47 : decode cX5_airFlow 47 = .ok (.ireturn, 1) := by decide +kernel
theorem dX5_fireRate_0 : decode cX5_fireRate 0 = .ok (.aload_n 0, 1) := by decide +kernel
theorem dX5_fireRate_1 : decode cX5_fireRate 1 = .ok (.getfield 9, 3) := by decide +kernel
theorem dX5_fireRate_4 : decode cX5_fireRate 4 = .ok (.ifCond .ge 5, 3) := by decide +kernel
theorem dX5_fireRate_7 : decode cX5_fireRate 7 = .ok (.iconst 0, 1) := by decide +kernel
theorem dX5_fireRate_8 : decode cX5_fireRate 8 = .ok (.ireturn, 1) := by decide +kernel
theorem dX5_fireRate_9 : decode cX5_fireRate 9 = .ok (.aload_n 0, 1) := by decide +kernel
theorem dX5_fireRate_10 : decode cX5_fireRate 10 = .ok (.getfield 42, 3) := by decide +kernel
theorem dX5_fireRate_13 : decode cX5_fireRate 13 = .ok (.getfield 91, 3) := by decide +kernel
theorem dX5_fireRate_16 : decode cX5_fireRate 16 = .ok (.aload_n 0, 1) := by decide +kernel
theorem dX5_fireRate_17 : decode cX5_fireRate 17 = .ok (.getfield 46, 3) := by decide +kernel
theorem dX5_fireRate_20 : decode cX5_fireRate 20 = .ok (.aload_n 0, 1) := by decide +kernel
theorem dX5_fireRate_21 : decode cX5_fireRate 21 = .ok (.getfield 49, 3) := by decide +kernel
theorem dX5_fireRate_24 : decode cX5_fireRate 24 = .ok (.aload_n 0, 1) := by decide +kernel
theorem dX5_fireRate_25 : decode cX5_fireRate 25 = .ok (.invokevirtual 95, 3) := by decide +kernel
theorem dX5_fireRate_28 : decode cX5_fireRate 28 = .ok (.invokevirtual 99, 3) := by decide +kernel
theorem dX5_fireRate_31 : decode cX5_fireRate 31 = .ok (.lstore_n 1, 1) := by decide +kernel
theorem dX5_fireRate_32 : decode cX5_fireRate 32 = .ok (.lconst 0, 1) := by decide +kernel
theorem dX5_fireRate_33 : decode cX5_fireRate 33 = .ok (.ldc2_w 105, 3) := by decide +kernel
theorem dX5_fireRate_36 : decode cX5_fireRate 36 = .ok (.lload_n 1, 1) := by decide +kernel
theorem dX5_fireRate_37 : decode cX5_fireRate 37 = .ok (.invokestatic 107, 3) := by decide +kernel
theorem dX5_fireRate_40 : decode cX5_fireRate 40 = .ok (.invokestatic 110, 3) := by decide +kernel
theorem dX5_fireRate_43 : decode cX5_fireRate 43 = .ok (.l2i, 1) := by decide +kernel
theorem dX5_fireRate_44 : decode cX5_fireRate 44 = .ok (.ireturn, 1) := by decide +kernel
theorem dX5_smokeInside_0 : decode cX5_smokeInside 0 = .ok (.lconst 0, 1) := by decide +kernel
theorem dX5_smokeInside_1 : decode cX5_smokeInside 1 = .ok (.lstore_n 1, 1) := by decide +kernel
theorem dX5_smokeInside_2 : decode cX5_smokeInside 2 = .ok (.iconst 0, 1) := by decide +kernel
theorem dX5_smokeInside_3 : decode cX5_smokeInside 3 = .ok (.istore_n 3, 1) := by decide +kernel
theorem dX5_smokeInside_4 : decode cX5_smokeInside 4 = .ok (.iload_n 3, 1) := by decide +kernel
theorem dX5_smokeInside_5 : decode cX5_smokeInside 5 = .ok (.aload_n 0, 1) := by decide +kernel
theorem dX5_smokeInside_6 : decode cX5_smokeInside 6 = .ok (.getfield 42, 3) := by decide +kernel
theorem dX5_smokeInside_9 : decode cX5_smokeInside 9 = .ok (.getfield 80, 3) := by decide +kernel
theorem dX5_smokeInside_12 : decode cX5_smokeInside 12 = .ok (.if_icmp .ge 18, 3) := by decide +kernel
theorem dX5_smokeInside_15 : decode cX5_smokeInside 15 = .ok (.lload_n 1, 1) := by decide +kernel
theorem dX5_smokeInside_16 : decode cX5_smokeInside 16 = .ok (.aload_n 0, 1) := by decide +kernel
theorem dX5_smokeInside_17 : decode cX5_smokeInside 17 = .ok (.getfield 15, 3) := by decide +kernel
theorem dX5_smokeInside_20 : decode cX5_smokeInside 20 = .ok (.iload_n 3, 1) := by decide +kernel
theorem dX5_smokeInside_21 : decode cX5_smokeInside 21 = .ok (.laload, 1) := by decide +kernel
theorem dX5_smokeInside_22 : decode cX5_smokeInside 22 = .ok (.ladd, 1) := by decide +kernel
theorem dX5_smokeInside_23 : decode cX5_smokeInside 23 = .ok (.lstore_n 1, 1) := by decide +kernel
theorem dX5_smokeInside_24 : decode cX5_smokeInside 24 = .ok (.iinc 3 1, 3) := by decide +kernel
theorem dX5_smokeInside_27 : decode cX5_smokeInside 27 = .ok (.goto (-23), 3) := by decide +kernel
theorem dX5_smokeInside_30 : decode cX5_smokeInside 30 = .ok (.lload_n 1, 1) := by decide +kernel
theorem dX5_smokeInside_31 : decode cX5_smokeInside 31 = .ok (.lreturn, 1) := by decide +kernel
theorem dX5_tick_0 : decode cX5_tick 0 = .ok (.aload_n 0, 1) := by decide +kernel
theorem dX5_tick_1 : decode cX5_tick 1 = .ok (.invokevirtual 112, 3) := by decide +kernel
theorem dX5_tick_4 : decode cX5_tick 4 = .ok (.istore_n 1, 1) := by decide +kernel
theorem dX5_tick_5 : decode cX5_tick 5 = .ok (.aload_n 0, 1) := by decide +kernel
theorem dX5_tick_6 : decode cX5_tick 6 = .ok (.aload_n 0, 1) := by decide +kernel
theorem dX5_tick_7 : decode cX5_tick 7 = .ok (.invokevirtual 95, 3) := by decide +kernel
theorem dX5_tick_10 : decode cX5_tick 10 = .ok (.invokevirtual 115, 3) := by decide +kernel
theorem dX5_tick_13 : decode cX5_tick 13 = .ok (.aload_n 0, 1) := by decide +kernel
theorem dX5_tick_14 : decode cX5_tick 14 = .ok (.getfield 9, 3) := by decide +kernel
theorem dX5_tick_17 : decode cX5_tick 17 = .ok (.ifCond .lt 17, 3) := by decide +kernel
theorem dX5_tick_20 : decode cX5_tick 20 = .ok (.aload_n 0, 1) := by decide +kernel
theorem dX5_tick_21 : decode cX5_tick 21 = .ok (.getfield 15, 3) := by decide +kernel
theorem dX5_tick_24 : decode cX5_tick 24 = .ok (.aload_n 0, 1) := by decide +kernel
theorem dX5_tick_25 : decode cX5_tick 25 = .ok (.getfield 9, 3) := by decide +kernel
theorem dX5_tick_28 : decode cX5_tick 28 = .ok (.dup2, 1) := by decide +kernel
theorem dX5_tick_29 : decode cX5_tick 29 = .ok (.laload, 1) := by decide +kernel
theorem dX5_tick_30 : decode cX5_tick 30 = .ok (.iload_n 1, 1) := by decide +kernel
theorem dX5_tick_31 : decode cX5_tick 31 = .ok (.i2l, 1) := by decide +kernel
theorem dX5_tick_32 : decode cX5_tick 32 = .ok (.ladd, 1) := by decide +kernel
theorem dX5_tick_33 : decode cX5_tick 33 = .ok (.lastore, 1) := by decide +kernel
theorem dX5_tick_34 : decode cX5_tick 34 = .ok (.aload_n 0, 1) := by decide +kernel
theorem dX5_tick_35 : decode cX5_tick 35 = .ok (.invokevirtual 119, 3) := by decide +kernel
theorem dX5_tick_38 : decode cX5_tick 38 = .ok (.pop, 1) := by decide +kernel
theorem dX5_tick_39 : decode cX5_tick 39 = .ok (.aload_n 0, 1) := by decide +kernel
theorem dX5_tick_40 : decode cX5_tick 40 = .ok (.invokevirtual 123, 3) := by decide +kernel
theorem dX5_tick_43 : decode cX5_tick 43 = .ok (.aload_n 0, 1) := by decide +kernel
theorem dX5_tick_44 : decode cX5_tick 44 = .ok (.dup, 1) := by decide +kernel
theorem dX5_tick_45 : decode cX5_tick 45 = .ok (.getfield 46, 3) := by decide +kernel
theorem dX5_tick_48 : decode cX5_tick 48 = .ok (.iconst 1, 1) := by decide +kernel
theorem dX5_tick_49 : decode cX5_tick 49 = .ok (.iadd, 1) := by decide +kernel
theorem dX5_tick_50 : decode cX5_tick 50 = .ok (.putfield 46, 3) := by decide +kernel
theorem dX5_tick_53 : decode cX5_tick 53 = .ok (.return_, 1) := by decide +kernel
theorem dX5_moveSmoke_0 : decode cX5_moveSmoke 0 = .ok (.lconst 0, 1) := by decide +kernel
theorem dX5_moveSmoke_1 : decode cX5_moveSmoke 1 = .ok (.lstore_n 2, 1) := by decide +kernel
theorem dX5_moveSmoke_2 : decode cX5_moveSmoke 2 = .ok (.iconst 0, 1) := by decide +kernel
theorem dX5_moveSmoke_3 : decode cX5_moveSmoke 3 = .ok (.istore 4, 2) := by decide +kernel
theorem dX5_moveSmoke_5 : decode cX5_moveSmoke 5 = .ok (.iload 4, 2) := by decide +kernel
theorem dX5_moveSmoke_7 : decode cX5_moveSmoke 7 = .ok (.aload_n 0, 1) := by decide +kernel
theorem dX5_moveSmoke_8 : decode cX5_moveSmoke 8 = .ok (.getfield 42, 3) := by decide +kernel
theorem dX5_moveSmoke_11 : decode cX5_moveSmoke 11 = .ok (.getfield 80, 3) := by decide +kernel
theorem dX5_moveSmoke_14 : decode cX5_moveSmoke 14 = .ok (.if_icmp .ge 111, 3) := by decide +kernel
theorem dX5_moveSmoke_17 : decode cX5_moveSmoke 17 = .ok (.iload_n 1, 1) := by decide +kernel
theorem dX5_moveSmoke_18 : decode cX5_moveSmoke 18 = .ok (.ifCond .le 8, 3) := by decide +kernel
theorem dX5_moveSmoke_21 : decode cX5_moveSmoke 21 = .ok (.iload 4, 2) := by decide +kernel
theorem dX5_moveSmoke_23 : decode cX5_moveSmoke 23 = .ok (.goto 15, 3) := by decide +kernel
theorem dX5_moveSmoke_26 : decode cX5_moveSmoke 26 = .ok (.aload_n 0, 1) := by decide +kernel
theorem dX5_moveSmoke_27 : decode cX5_moveSmoke 27 = .ok (.getfield 42, 3) := by decide +kernel
theorem dX5_moveSmoke_30 : decode cX5_moveSmoke 30 = .ok (.getfield 80, 3) := by decide +kernel
theorem dX5_moveSmoke_33 : decode cX5_moveSmoke 33 = .ok (.iconst 1, 1) := by decide +kernel
theorem dX5_moveSmoke_34 : decode cX5_moveSmoke 34 = .ok (.isub, 1) := by decide +kernel
theorem dX5_moveSmoke_35 : decode cX5_moveSmoke 35 = .ok (.iload 4, 2) := by decide +kernel
theorem dX5_moveSmoke_37 : decode cX5_moveSmoke 37 = .ok (.isub, 1) := by decide +kernel
theorem dX5_moveSmoke_38 : decode cX5_moveSmoke 38 = .ok (.istore 5, 2) := by decide +kernel
theorem dX5_moveSmoke_40 : decode cX5_moveSmoke 40 = .ok (.aload_n 0, 1) := by decide +kernel
theorem dX5_moveSmoke_41 : decode cX5_moveSmoke 41 = .ok (.getfield 15, 3) := by decide +kernel
theorem dX5_moveSmoke_44 : decode cX5_moveSmoke 44 = .ok (.iload 5, 2) := by decide +kernel
theorem dX5_moveSmoke_46 : decode cX5_moveSmoke 46 = .ok (.laload, 1) := by decide +kernel
theorem dX5_moveSmoke_47 : decode cX5_moveSmoke 47 = .ok (.aload_n 0, 1) := by decide +kernel
theorem dX5_moveSmoke_48 : decode cX5_moveSmoke 48 = .ok (.getfield 42, 3) := by decide +kernel
theorem dX5_moveSmoke_51 : decode cX5_moveSmoke 51 = .ok (.getfield 126, 3) := by decide +kernel
theorem dX5_moveSmoke_54 : decode cX5_moveSmoke 54 = .ok (.iload 5, 2) := by decide +kernel
theorem dX5_moveSmoke_56 : decode cX5_moveSmoke 56 = .ok (.iaload, 1) := by decide +kernel
theorem dX5_moveSmoke_57 : decode cX5_moveSmoke 57 = .ok (.i2l, 1) := by decide +kernel
theorem dX5_moveSmoke_58 : decode cX5_moveSmoke 58 = .ok (.lmul, 1) := by decide +kernel
theorem dX5_moveSmoke_59 : decode cX5_moveSmoke 59 = .ok (.ldc2_w 129, 3) := by decide +kernel
theorem dX5_moveSmoke_62 : decode cX5_moveSmoke 62 = .ok (.ldiv, 1) := by decide +kernel
theorem dX5_moveSmoke_63 : decode cX5_moveSmoke 63 = .ok (.lstore 6, 2) := by decide +kernel
theorem dX5_moveSmoke_65 : decode cX5_moveSmoke 65 = .ok (.aload_n 0, 1) := by decide +kernel
theorem dX5_moveSmoke_66 : decode cX5_moveSmoke 66 = .ok (.getfield 15, 3) := by decide +kernel
theorem dX5_moveSmoke_69 : decode cX5_moveSmoke 69 = .ok (.iload 5, 2) := by decide +kernel
theorem dX5_moveSmoke_71 : decode cX5_moveSmoke 71 = .ok (.laload, 1) := by decide +kernel
theorem dX5_moveSmoke_72 : decode cX5_moveSmoke 72 = .ok (.lload 6, 2) := by decide +kernel
theorem dX5_moveSmoke_74 : decode cX5_moveSmoke 74 = .ok (.lsub, 1) := by decide +kernel
theorem dX5_moveSmoke_75 : decode cX5_moveSmoke 75 = .ok (.lstore 8, 2) := by decide +kernel
theorem dX5_moveSmoke_77 : decode cX5_moveSmoke 77 = .ok (.lload 8, 2) := by decide +kernel
theorem dX5_moveSmoke_79 : decode cX5_moveSmoke 79 = .ok (.iload_n 1, 1) := by decide +kernel
theorem dX5_moveSmoke_80 : decode cX5_moveSmoke 80 = .ok (.invokestatic 131, 3) := by decide +kernel
theorem dX5_moveSmoke_83 : decode cX5_moveSmoke 83 = .ok (.i2l, 1) := by decide +kernel
theorem dX5_moveSmoke_84 : decode cX5_moveSmoke 84 = .ok (.lmul, 1) := by decide +kernel
theorem dX5_moveSmoke_85 : decode cX5_moveSmoke 85 = .ok (.ldc2_w 129, 3) := by decide +kernel
theorem dX5_moveSmoke_88 : decode cX5_moveSmoke 88 = .ok (.ldiv, 1) := by decide +kernel
theorem dX5_moveSmoke_89 : decode cX5_moveSmoke 89 = .ok (.lstore 10, 2) := by decide +kernel
theorem dX5_moveSmoke_91 : decode cX5_moveSmoke 91 = .ok (.aload_n 0, 1) := by decide +kernel
theorem dX5_moveSmoke_92 : decode cX5_moveSmoke 92 = .ok (.getfield 15, 3) := by decide +kernel
theorem dX5_moveSmoke_95 : decode cX5_moveSmoke 95 = .ok (.iload 5, 2) := by decide +kernel
theorem dX5_moveSmoke_97 : decode cX5_moveSmoke 97 = .ok (.lload 8, 2) := by decide +kernel
theorem dX5_moveSmoke_99 : decode cX5_moveSmoke 99 = .ok (.lload 10, 2) := by decide +kernel
theorem dX5_moveSmoke_101 : decode cX5_moveSmoke 101 = .ok (.lsub, 1) := by decide +kernel
theorem dX5_moveSmoke_102 : decode cX5_moveSmoke 102 = .ok (.lload_n 2, 1) := by decide +kernel
theorem dX5_moveSmoke_103 : decode cX5_moveSmoke 103 = .ok (.ladd, 1) := by decide +kernel
theorem dX5_moveSmoke_104 : decode cX5_moveSmoke 104 = .ok (.lastore, 1) := by decide +kernel
theorem dX5_moveSmoke_105 : decode cX5_moveSmoke 105 = .ok (.aload_n 0, 1) := by decide +kernel
theorem dX5_moveSmoke_106 : decode cX5_moveSmoke 106 = .ok (.dup, 1) := by decide +kernel
theorem dX5_moveSmoke_107 : decode cX5_moveSmoke 107 = .ok (.getfield 56, 3) := by decide +kernel
theorem dX5_moveSmoke_110 : decode cX5_moveSmoke 110 = .ok (.lload 6, 2) := by decide +kernel
theorem dX5_moveSmoke_112 : decode cX5_moveSmoke 112 = .ok (.ladd, 1) := by decide +kernel
theorem dX5_moveSmoke_113 : decode cX5_moveSmoke 113 = .ok (.putfield 56, 3) := by decide +kernel
theorem dX5_moveSmoke_116 : decode cX5_moveSmoke 116 = .ok (.lload 10, 2) := by decide +kernel
theorem dX5_moveSmoke_118 : decode cX5_moveSmoke 118 = .ok (.lstore_n 2, 1) := by decide +kernel
theorem dX5_moveSmoke_119 : decode cX5_moveSmoke 119 = .ok (.iinc 4 1, 3) := by decide +kernel
theorem dX5_moveSmoke_122 : decode cX5_moveSmoke 122 = .ok (.goto (-117), 3) := by decide +kernel
theorem dX5_moveSmoke_125 : decode cX5_moveSmoke 125 = .ok (.aload_n 0, 1) := by decide +kernel
theorem dX5_moveSmoke_126 : decode cX5_moveSmoke 126 = .ok (.dup, 1) := by decide +kernel
theorem dX5_moveSmoke_127 : decode cX5_moveSmoke 127 = .ok (.getfield 52, 3) := by decide +kernel
theorem dX5_moveSmoke_130 : decode cX5_moveSmoke 130 = .ok (.lload_n 2, 1) := by decide +kernel
theorem dX5_moveSmoke_131 : decode cX5_moveSmoke 131 = .ok (.ladd, 1) := by decide +kernel
theorem dX5_moveSmoke_132 : decode cX5_moveSmoke 132 = .ok (.putfield 52, 3) := by decide +kernel
theorem dX5_moveSmoke_135 : decode cX5_moveSmoke 135 = .ok (.return_, 1) := by decide +kernel
theorem dX5_moveCars_0 : decode cX5_moveCars 0 = .ok (.aload_n 0, 1) := by decide +kernel
theorem dX5_moveCars_1 : decode cX5_moveCars 1 = .ok (.iconst 1, 1) := by decide +kernel
theorem dX5_moveCars_2 : decode cX5_moveCars 2 = .ok (.invokevirtual 135, 3) := by decide +kernel
theorem dX5_moveCars_5 : decode cX5_moveCars 5 = .ok (.istore_n 1, 1) := by decide +kernel
theorem dX5_moveCars_6 : decode cX5_moveCars 6 = .ok (.iload_n 1, 1) := by decide +kernel
theorem dX5_moveCars_7 : decode cX5_moveCars 7 = .ok (.aload_n 0, 1) := by decide +kernel
theorem dX5_moveCars_8 : decode cX5_moveCars 8 = .ok (.iconst (-1), 1) := by decide +kernel
theorem dX5_moveCars_9 : decode cX5_moveCars 9 = .ok (.invokevirtual 135, 3) := by decide +kernel
theorem dX5_moveCars_12 : decode cX5_moveCars 12 = .ok (.ior, 1) := by decide +kernel
theorem dX5_moveCars_13 : decode cX5_moveCars 13 = .ok (.istore_n 1, 1) := by decide +kernel
theorem dX5_moveCars_14 : decode cX5_moveCars 14 = .ok (.aload_n 0, 1) := by decide +kernel
theorem dX5_moveCars_15 : decode cX5_moveCars 15 = .ok (.iload_n 1, 1) := by decide +kernel
theorem dX5_moveCars_16 : decode cX5_moveCars 16 = .ok (.invokevirtual 138, 3) := by decide +kernel
theorem dX5_moveCars_19 : decode cX5_moveCars 19 = .ok (.istore_n 2, 1) := by decide +kernel
theorem dX5_moveCars_20 : decode cX5_moveCars 20 = .ok (.iload_n 1, 1) := by decide +kernel
theorem dX5_moveCars_21 : decode cX5_moveCars 21 = .ok (.ifCond .ne 7, 3) := by decide +kernel
theorem dX5_moveCars_24 : decode cX5_moveCars 24 = .ok (.iload_n 2, 1) := by decide +kernel
theorem dX5_moveCars_25 : decode cX5_moveCars 25 = .ok (.ifCond .eq 7, 3) := by decide +kernel
theorem dX5_moveCars_28 : decode cX5_moveCars 28 = .ok (.iconst 1, 1) := by decide +kernel
theorem dX5_moveCars_29 : decode cX5_moveCars 29 = .ok (.goto 4, 3) := by decide +kernel
theorem dX5_moveCars_32 : decode cX5_moveCars 32 = .ok (.iconst 0, 1) := by decide +kernel
theorem dX5_moveCars_33 : decode cX5_moveCars 33 = .ok (.ireturn, 1) := by decide +kernel
theorem dX5_driveLanes_0 : decode cX5_driveLanes 0 = .ok (.iconst 0, 1) := by decide +kernel
theorem dX5_driveLanes_1 : decode cX5_driveLanes 1 = .ok (.istore_n 2, 1) := by decide +kernel
theorem dX5_driveLanes_2 : decode cX5_driveLanes 2 = .ok (.iconst 0, 1) := by decide +kernel
theorem dX5_driveLanes_3 : decode cX5_driveLanes 3 = .ok (.istore_n 3, 1) := by decide +kernel
theorem dX5_driveLanes_4 : decode cX5_driveLanes 4 = .ok (.iload_n 3, 1) := by decide +kernel
theorem dX5_driveLanes_5 : decode cX5_driveLanes 5 = .ok (.aload_n 0, 1) := by decide +kernel
theorem dX5_driveLanes_6 : decode cX5_driveLanes 6 = .ok (.getfield 42, 3) := by decide +kernel
theorem dX5_driveLanes_9 : decode cX5_driveLanes 9 = .ok (.getfield 80, 3) := by decide +kernel
theorem dX5_driveLanes_12 : decode cX5_driveLanes 12 = .ok (.if_icmp .ge 111, 3) := by decide +kernel
theorem dX5_driveLanes_15 : decode cX5_driveLanes 15 = .ok (.iload_n 1, 1) := by decide +kernel
theorem dX5_driveLanes_16 : decode cX5_driveLanes 16 = .ok (.iconst 1, 1) := by decide +kernel
theorem dX5_driveLanes_17 : decode cX5_driveLanes 17 = .ok (.if_icmp .ne 17, 3) := by decide +kernel
theorem dX5_driveLanes_20 : decode cX5_driveLanes 20 = .ok (.aload_n 0, 1) := by decide +kernel
theorem dX5_driveLanes_21 : decode cX5_driveLanes 21 = .ok (.getfield 42, 3) := by decide +kernel
theorem dX5_driveLanes_24 : decode cX5_driveLanes 24 = .ok (.getfield 80, 3) := by decide +kernel
theorem dX5_driveLanes_27 : decode cX5_driveLanes 27 = .ok (.iconst 1, 1) := by decide +kernel
theorem dX5_driveLanes_28 : decode cX5_driveLanes 28 = .ok (.isub, 1) := by decide +kernel
theorem dX5_driveLanes_29 : decode cX5_driveLanes 29 = .ok (.iload_n 3, 1) := by decide +kernel
theorem dX5_driveLanes_30 : decode cX5_driveLanes 30 = .ok (.isub, 1) := by decide +kernel
theorem dX5_driveLanes_31 : decode cX5_driveLanes 31 = .ok (.goto 4, 3) := by decide +kernel
theorem dX5_driveLanes_34 : decode cX5_driveLanes 34 = .ok (.iload_n 3, 1) := by decide +kernel
theorem dX5_driveLanes_35 : decode cX5_driveLanes 35 = .ok (.istore 4, 2) := by decide +kernel
theorem dX5_driveLanes_37 : decode cX5_driveLanes 37 = .ok (.aload_n 0, 1) := by decide +kernel
theorem dX5_driveLanes_38 : decode cX5_driveLanes 38 = .ok (.getfield 30, 3) := by decide +kernel
theorem dX5_driveLanes_41 : decode cX5_driveLanes 41 = .ok (.iload 4, 2) := by decide +kernel
theorem dX5_driveLanes_43 : decode cX5_driveLanes 43 = .ok (.iload_n 1, 1) := by decide +kernel
theorem dX5_driveLanes_44 : decode cX5_driveLanes 44 = .ok (.invokestatic 65, 3) := by decide +kernel
theorem dX5_driveLanes_47 : decode cX5_driveLanes 47 = .ok (.iaload, 1) := by decide +kernel
theorem dX5_driveLanes_48 : decode cX5_driveLanes 48 = .ok (.ifCond .ne 6, 3) := by decide +kernel
theorem dX5_driveLanes_51 : decode cX5_driveLanes 51 = .ok (.goto 66, 3) := by decide +kernel
theorem dX5_driveLanes_54 : decode cX5_driveLanes 54 = .ok (.iconst 0, 1) := by decide +kernel
theorem dX5_driveLanes_55 : decode cX5_driveLanes 55 = .ok (.istore 5, 2) := by decide +kernel
theorem dX5_driveLanes_57 : decode cX5_driveLanes 57 = .ok (.iload 5, 2) := by decide +kernel
theorem dX5_driveLanes_59 : decode cX5_driveLanes 59 = .ok (.aload_n 0, 1) := by decide +kernel
theorem dX5_driveLanes_60 : decode cX5_driveLanes 60 = .ok (.getfield 42, 3) := by decide +kernel
theorem dX5_driveLanes_63 : decode cX5_driveLanes 63 = .ok (.getfield 74, 3) := by decide +kernel
theorem dX5_driveLanes_66 : decode cX5_driveLanes 66 = .ok (.if_icmp .ge 51, 3) := by decide +kernel
theorem dX5_driveLanes_69 : decode cX5_driveLanes 69 = .ok (.aload_n 0, 1) := by decide +kernel
theorem dX5_driveLanes_70 : decode cX5_driveLanes 70 = .ok (.getfield 33, 3) := by decide +kernel
theorem dX5_driveLanes_73 : decode cX5_driveLanes 73 = .ok (.iload 5, 2) := by decide +kernel
theorem dX5_driveLanes_75 : decode cX5_driveLanes 75 = .ok (.iaload, 1) := by decide +kernel
theorem dX5_driveLanes_76 : decode cX5_driveLanes 76 = .ok (.iload 4, 2) := by decide +kernel
theorem dX5_driveLanes_78 : decode cX5_driveLanes 78 = .ok (.if_icmp .ne 33, 3) := by decide +kernel
theorem dX5_driveLanes_81 : decode cX5_driveLanes 81 = .ok (.aload_n 0, 1) := by decide +kernel
theorem dX5_driveLanes_82 : decode cX5_driveLanes 82 = .ok (.getfield 36, 3) := by decide +kernel
theorem dX5_driveLanes_85 : decode cX5_driveLanes 85 = .ok (.iload 5, 2) := by decide +kernel
theorem dX5_driveLanes_87 : decode cX5_driveLanes 87 = .ok (.iaload, 1) := by decide +kernel
theorem dX5_driveLanes_88 : decode cX5_driveLanes 88 = .ok (.iload_n 1, 1) := by decide +kernel
theorem dX5_driveLanes_89 : decode cX5_driveLanes 89 = .ok (.if_icmp .ne 22, 3) := by decide +kernel
theorem dX5_driveLanes_92 : decode cX5_driveLanes 92 = .ok (.aload_n 0, 1) := by decide +kernel
theorem dX5_driveLanes_93 : decode cX5_driveLanes 93 = .ok (.iload 5, 2) := by decide +kernel
theorem dX5_driveLanes_95 : decode cX5_driveLanes 95 = .ok (.iload 4, 2) := by decide +kernel
theorem dX5_driveLanes_97 : decode cX5_driveLanes 97 = .ok (.iload_n 1, 1) := by decide +kernel
theorem dX5_driveLanes_98 : decode cX5_driveLanes 98 = .ok (.invokevirtual 142, 3) := by decide +kernel
theorem dX5_driveLanes_101 : decode cX5_driveLanes 101 = .ok (.ifCond .eq 10, 3) := by decide +kernel
theorem dX5_driveLanes_104 : decode cX5_driveLanes 104 = .ok (.iload_n 2, 1) := by decide +kernel
theorem dX5_driveLanes_105 : decode cX5_driveLanes 105 = .ok (.iconst 1, 1) := by decide +kernel
theorem dX5_driveLanes_106 : decode cX5_driveLanes 106 = .ok (.iload 5, 2) := by decide +kernel
theorem dX5_driveLanes_108 : decode cX5_driveLanes 108 = .ok (.ishl, 1) := by decide +kernel
theorem dX5_driveLanes_109 : decode cX5_driveLanes 109 = .ok (.ior, 1) := by decide +kernel
theorem dX5_driveLanes_110 : decode cX5_driveLanes 110 = .ok (.istore_n 2, 1) := by decide +kernel
theorem dX5_driveLanes_111 : decode cX5_driveLanes 111 = .ok (.iinc 5 1, 3) := by decide +kernel
theorem dX5_driveLanes_114 : decode cX5_driveLanes 114 = .ok (.goto (-57), 3) := by decide +kernel
theorem dX5_driveLanes_117 : decode cX5_driveLanes 117 = .ok (.iinc 3 1, 3) := by decide +kernel
theorem dX5_driveLanes_120 : decode cX5_driveLanes 120 = .ok (.goto (-116), 3) := by decide +kernel
theorem dX5_driveLanes_123 : decode cX5_driveLanes 123 = .ok (.iload_n 2, 1) := by decide +kernel
theorem dX5_driveLanes_124 : decode cX5_driveLanes 124 = .ok (.ireturn, 1) := by decide +kernel
theorem dX5_driveCar_0 : decode cX5_driveCar 0 = .ok (.iload_n 2, 1) := by decide +kernel
theorem dX5_driveCar_1 : decode cX5_driveCar 1 = .ok (.iload_n 3, 1) := by decide +kernel
theorem dX5_driveCar_2 : decode cX5_driveCar 2 = .ok (.iadd, 1) := by decide +kernel
theorem dX5_driveCar_3 : decode cX5_driveCar 3 = .ok (.istore 4, 2) := by decide +kernel
theorem dX5_driveCar_5 : decode cX5_driveCar 5 = .ok (.iload 4, 2) := by decide +kernel
theorem dX5_driveCar_7 : decode cX5_driveCar 7 = .ok (.ifCond .lt 15, 3) := by decide +kernel
theorem dX5_driveCar_10 : decode cX5_driveCar 10 = .ok (.iload 4, 2) := by decide +kernel
theorem dX5_driveCar_12 : decode cX5_driveCar 12 = .ok (.aload_n 0, 1) := by decide +kernel
theorem dX5_driveCar_13 : decode cX5_driveCar 13 = .ok (.getfield 42, 3) := by decide +kernel
theorem dX5_driveCar_16 : decode cX5_driveCar 16 = .ok (.getfield 80, 3) := by decide +kernel
theorem dX5_driveCar_19 : decode cX5_driveCar 19 = .ok (.if_icmp .lt 23, 3) := by decide +kernel
theorem dX5_driveCar_22 : decode cX5_driveCar 22 = .ok (.aload_n 0, 1) := by decide +kernel
theorem dX5_driveCar_23 : decode cX5_driveCar 23 = .ok (.getfield 33, 3) := by decide +kernel
theorem dX5_driveCar_26 : decode cX5_driveCar 26 = .ok (.iload_n 1, 1) := by decide +kernel
theorem dX5_driveCar_27 : decode cX5_driveCar 27 = .ok (.iconst (-1), 1) := by decide +kernel
theorem dX5_driveCar_28 : decode cX5_driveCar 28 = .ok (.iastore, 1) := by decide +kernel
theorem dX5_driveCar_29 : decode cX5_driveCar 29 = .ok (.aload_n 0, 1) := by decide +kernel
theorem dX5_driveCar_30 : decode cX5_driveCar 30 = .ok (.dup, 1) := by decide +kernel
theorem dX5_driveCar_31 : decode cX5_driveCar 31 = .ok (.getfield 49, 3) := by decide +kernel
theorem dX5_driveCar_34 : decode cX5_driveCar 34 = .ok (.iconst 1, 1) := by decide +kernel
theorem dX5_driveCar_35 : decode cX5_driveCar 35 = .ok (.isub, 1) := by decide +kernel
theorem dX5_driveCar_36 : decode cX5_driveCar 36 = .ok (.putfield 49, 3) := by decide +kernel
theorem dX5_driveCar_39 : decode cX5_driveCar 39 = .ok (.goto 68, 3) := by decide +kernel
theorem dX5_driveCar_42 : decode cX5_driveCar 42 = .ok (.iload 4, 2) := by decide +kernel
theorem dX5_driveCar_44 : decode cX5_driveCar 44 = .ok (.iload_n 3, 1) := by decide +kernel
theorem dX5_driveCar_45 : decode cX5_driveCar 45 = .ok (.invokestatic 65, 3) := by decide +kernel
theorem dX5_driveCar_48 : decode cX5_driveCar 48 = .ok (.istore 5, 2) := by decide +kernel
theorem dX5_driveCar_50 : decode cX5_driveCar 50 = .ok (.iload 4, 2) := by decide +kernel
theorem dX5_driveCar_52 : decode cX5_driveCar 52 = .ok (.aload_n 0, 1) := by decide +kernel
theorem dX5_driveCar_53 : decode cX5_driveCar 53 = .ok (.getfield 9, 3) := by decide +kernel
theorem dX5_driveCar_56 : decode cX5_driveCar 56 = .ok (.if_icmp .eq 30, 3) := by decide +kernel
theorem dX5_driveCar_59 : decode cX5_driveCar 59 = .ok (.aload_n 0, 1) := by decide +kernel
theorem dX5_driveCar_60 : decode cX5_driveCar 60 = .ok (.getfield 26, 3) := by decide +kernel
theorem dX5_driveCar_63 : decode cX5_driveCar 63 = .ok (.iload 5, 2) := by decide +kernel
theorem dX5_driveCar_65 : decode cX5_driveCar 65 = .ok (.baload, 1) := by decide +kernel
theorem dX5_driveCar_66 : decode cX5_driveCar 66 = .ok (.ifCond .ne 20, 3) := by decide +kernel
theorem dX5_driveCar_69 : decode cX5_driveCar 69 = .ok (.aload_n 0, 1) := by decide +kernel
theorem dX5_driveCar_70 : decode cX5_driveCar 70 = .ok (.getfield 30, 3) := by decide +kernel
theorem dX5_driveCar_73 : decode cX5_driveCar 73 = .ok (.iload 5, 2) := by decide +kernel
theorem dX5_driveCar_75 : decode cX5_driveCar 75 = .ok (.iaload, 1) := by decide +kernel
theorem dX5_driveCar_76 : decode cX5_driveCar 76 = .ok (.aload_n 0, 1) := by decide +kernel
theorem dX5_driveCar_77 : decode cX5_driveCar 77 = .ok (.getfield 42, 3) := by decide +kernel
theorem dX5_driveCar_80 : decode cX5_driveCar 80 = .ok (.getfield 69, 3) := by decide +kernel
theorem dX5_driveCar_83 : decode cX5_driveCar 83 = .ok (.if_icmp .lt 5, 3) := by decide +kernel
theorem dX5_driveCar_86 : decode cX5_driveCar 86 = .ok (.iconst 0, 1) := by decide +kernel
theorem dX5_driveCar_87 : decode cX5_driveCar 87 = .ok (.ireturn, 1) := by decide +kernel
theorem dX5_driveCar_88 : decode cX5_driveCar 88 = .ok (.aload_n 0, 1) := by decide +kernel
theorem dX5_driveCar_89 : decode cX5_driveCar 89 = .ok (.getfield 33, 3) := by decide +kernel
theorem dX5_driveCar_92 : decode cX5_driveCar 92 = .ok (.iload_n 1, 1) := by decide +kernel
theorem dX5_driveCar_93 : decode cX5_driveCar 93 = .ok (.iload 4, 2) := by decide +kernel
theorem dX5_driveCar_95 : decode cX5_driveCar 95 = .ok (.iastore, 1) := by decide +kernel
theorem dX5_driveCar_96 : decode cX5_driveCar 96 = .ok (.aload_n 0, 1) := by decide +kernel
theorem dX5_driveCar_97 : decode cX5_driveCar 97 = .ok (.getfield 30, 3) := by decide +kernel
theorem dX5_driveCar_100 : decode cX5_driveCar 100 = .ok (.iload 5, 2) := by decide +kernel
theorem dX5_driveCar_102 : decode cX5_driveCar 102 = .ok (.dup2, 1) := by decide +kernel
theorem dX5_driveCar_103 : decode cX5_driveCar 103 = .ok (.iaload, 1) := by decide +kernel
theorem dX5_driveCar_104 : decode cX5_driveCar 104 = .ok (.iconst 1, 1) := by decide +kernel
theorem dX5_driveCar_105 : decode cX5_driveCar 105 = .ok (.iadd, 1) := by decide +kernel
theorem dX5_driveCar_106 : decode cX5_driveCar 106 = .ok (.iastore, 1) := by decide +kernel
theorem dX5_driveCar_107 : decode cX5_driveCar 107 = .ok (.aload_n 0, 1) := by decide +kernel
theorem dX5_driveCar_108 : decode cX5_driveCar 108 = .ok (.getfield 30, 3) := by decide +kernel
theorem dX5_driveCar_111 : decode cX5_driveCar 111 = .ok (.iload_n 2, 1) := by decide +kernel
theorem dX5_driveCar_112 : decode cX5_driveCar 112 = .ok (.iload_n 3, 1) := by decide +kernel
theorem dX5_driveCar_113 : decode cX5_driveCar 113 = .ok (.invokestatic 65, 3) := by decide +kernel
theorem dX5_driveCar_116 : decode cX5_driveCar 116 = .ok (.dup2, 1) := by decide +kernel
theorem dX5_driveCar_117 : decode cX5_driveCar 117 = .ok (.iaload, 1) := by decide +kernel
theorem dX5_driveCar_118 : decode cX5_driveCar 118 = .ok (.iconst 1, 1) := by decide +kernel
theorem dX5_driveCar_119 : decode cX5_driveCar 119 = .ok (.isub, 1) := by decide +kernel
theorem dX5_driveCar_120 : decode cX5_driveCar 120 = .ok (.iastore, 1) := by decide +kernel
theorem dX5_driveCar_121 : decode cX5_driveCar 121 = .ok (.iconst 1, 1) := by decide +kernel
theorem dX5_driveCar_122 : decode cX5_driveCar 122 = .ok (.ireturn, 1) := by decide +kernel
theorem dX5_turnCars_0 : decode cX5_turnCars 0 = .ok (.iconst 0, 1) := by decide +kernel
theorem dX5_turnCars_1 : decode cX5_turnCars 1 = .ok (.istore_n 2, 1) := by decide +kernel
theorem dX5_turnCars_2 : decode cX5_turnCars 2 = .ok (.iconst 0, 1) := by decide +kernel
theorem dX5_turnCars_3 : decode cX5_turnCars 3 = .ok (.istore_n 3, 1) := by decide +kernel
theorem dX5_turnCars_4 : decode cX5_turnCars 4 = .ok (.iload_n 3, 1) := by decide +kernel
theorem dX5_turnCars_5 : decode cX5_turnCars 5 = .ok (.aload_n 0, 1) := by decide +kernel
theorem dX5_turnCars_6 : decode cX5_turnCars 6 = .ok (.getfield 42, 3) := by decide +kernel
theorem dX5_turnCars_9 : decode cX5_turnCars 9 = .ok (.getfield 74, 3) := by decide +kernel
theorem dX5_turnCars_12 : decode cX5_turnCars 12 = .ok (.if_icmp .ge 116, 3) := by decide +kernel
theorem dX5_turnCars_15 : decode cX5_turnCars 15 = .ok (.aload_n 0, 1) := by decide +kernel
theorem dX5_turnCars_16 : decode cX5_turnCars 16 = .ok (.getfield 33, 3) := by decide +kernel
theorem dX5_turnCars_19 : decode cX5_turnCars 19 = .ok (.iload_n 3, 1) := by decide +kernel
theorem dX5_turnCars_20 : decode cX5_turnCars 20 = .ok (.iaload, 1) := by decide +kernel
theorem dX5_turnCars_21 : decode cX5_turnCars 21 = .ok (.istore 4, 2) := by decide +kernel
theorem dX5_turnCars_23 : decode cX5_turnCars 23 = .ok (.aload_n 0, 1) := by decide +kernel
theorem dX5_turnCars_24 : decode cX5_turnCars 24 = .ok (.getfield 36, 3) := by decide +kernel
theorem dX5_turnCars_27 : decode cX5_turnCars 27 = .ok (.iload_n 3, 1) := by decide +kernel
theorem dX5_turnCars_28 : decode cX5_turnCars 28 = .ok (.iaload, 1) := by decide +kernel
theorem dX5_turnCars_29 : decode cX5_turnCars 29 = .ok (.istore 5, 2) := by decide +kernel
theorem dX5_turnCars_31 : decode cX5_turnCars 31 = .ok (.iload 4, 2) := by decide +kernel
theorem dX5_turnCars_33 : decode cX5_turnCars 33 = .ok (.ifCond .lt 89, 3) := by decide +kernel
theorem dX5_turnCars_36 : decode cX5_turnCars 36 = .ok (.iload_n 1, 1) := by decide +kernel
theorem dX5_turnCars_37 : decode cX5_turnCars 37 = .ok (.iload_n 3, 1) := by decide +kernel
theorem dX5_turnCars_38 : decode cX5_turnCars 38 = .ok (.ishr, 1) := by decide +kernel
theorem dX5_turnCars_39 : decode cX5_turnCars 39 = .ok (.iconst 1, 1) := by decide +kernel
theorem dX5_turnCars_40 : decode cX5_turnCars 40 = .ok (.iand, 1) := by decide +kernel
theorem dX5_turnCars_41 : decode cX5_turnCars 41 = .ok (.ifCond .ne 81, 3) := by decide +kernel
theorem dX5_turnCars_44 : decode cX5_turnCars 44 = .ok (.aload_n 0, 1) := by decide +kernel
theorem dX5_turnCars_45 : decode cX5_turnCars 45 = .ok (.getfield 23, 3) := by decide +kernel
theorem dX5_turnCars_48 : decode cX5_turnCars 48 = .ok (.iload 4, 2) := by decide +kernel
theorem dX5_turnCars_50 : decode cX5_turnCars 50 = .ok (.iaload, 1) := by decide +kernel
theorem dX5_turnCars_51 : decode cX5_turnCars 51 = .ok (.iconst 1, 1) := by decide +kernel
theorem dX5_turnCars_52 : decode cX5_turnCars 52 = .ok (.if_icmp .ne 70, 3) := by decide +kernel
theorem dX5_turnCars_55 : decode cX5_turnCars 55 = .ok (.aload_n 0, 1) := by decide +kernel
theorem dX5_turnCars_56 : decode cX5_turnCars 56 = .ok (.iload 4, 2) := by decide +kernel
theorem dX5_turnCars_58 : decode cX5_turnCars 58 = .ok (.iload 5, 2) := by decide +kernel
theorem dX5_turnCars_60 : decode cX5_turnCars 60 = .ok (.invokevirtual 146, 3) := by decide +kernel
theorem dX5_turnCars_63 : decode cX5_turnCars 63 = .ok (.ifCond .eq 59, 3) := by decide +kernel
theorem dX5_turnCars_66 : decode cX5_turnCars 66 = .ok (.aload_n 0, 1) := by decide +kernel
theorem dX5_turnCars_67 : decode cX5_turnCars 67 = .ok (.iload 4, 2) := by decide +kernel
theorem dX5_turnCars_69 : decode cX5_turnCars 69 = .ok (.iload 5, 2) := by decide +kernel
theorem dX5_turnCars_71 : decode cX5_turnCars 71 = .ok (.ineg, 1) := by decide +kernel
theorem dX5_turnCars_72 : decode cX5_turnCars 72 = .ok (.invokevirtual 150, 3) := by decide +kernel
theorem dX5_turnCars_75 : decode cX5_turnCars 75 = .ok (.ifCond .eq 47, 3) := by decide +kernel
theorem dX5_turnCars_78 : decode cX5_turnCars 78 = .ok (.aload_n 0, 1) := by decide +kernel
theorem dX5_turnCars_79 : decode cX5_turnCars 79 = .ok (.getfield 36, 3) := by decide +kernel
theorem dX5_turnCars_82 : decode cX5_turnCars 82 = .ok (.iload_n 3, 1) := by decide +kernel
theorem dX5_turnCars_83 : decode cX5_turnCars 83 = .ok (.iload 5, 2) := by decide +kernel
theorem dX5_turnCars_85 : decode cX5_turnCars 85 = .ok (.ineg, 1) := by decide +kernel
theorem dX5_turnCars_86 : decode cX5_turnCars 86 = .ok (.iastore, 1) := by decide +kernel
theorem dX5_turnCars_87 : decode cX5_turnCars 87 = .ok (.aload_n 0, 1) := by decide +kernel
theorem dX5_turnCars_88 : decode cX5_turnCars 88 = .ok (.getfield 30, 3) := by decide +kernel
theorem dX5_turnCars_91 : decode cX5_turnCars 91 = .ok (.iload 4, 2) := by decide +kernel
theorem dX5_turnCars_93 : decode cX5_turnCars 93 = .ok (.iload 5, 2) := by decide +kernel
theorem dX5_turnCars_95 : decode cX5_turnCars 95 = .ok (.invokestatic 65, 3) := by decide +kernel
theorem dX5_turnCars_98 : decode cX5_turnCars 98 = .ok (.dup2, 1) := by decide +kernel
theorem dX5_turnCars_99 : decode cX5_turnCars 99 = .ok (.iaload, 1) := by decide +kernel
theorem dX5_turnCars_100 : decode cX5_turnCars 100 = .ok (.iconst 1, 1) := by decide +kernel
theorem dX5_turnCars_101 : decode cX5_turnCars 101 = .ok (.isub, 1) := by decide +kernel
theorem dX5_turnCars_102 : decode cX5_turnCars 102 = .ok (.iastore, 1) := by decide +kernel
theorem dX5_turnCars_103 : decode cX5_turnCars 103 = .ok (.aload_n 0, 1) := by decide +kernel
theorem dX5_turnCars_104 : decode cX5_turnCars 104 = .ok (.getfield 30, 3) := by decide +kernel
theorem dX5_turnCars_107 : decode cX5_turnCars 107 = .ok (.iload 4, 2) := by decide +kernel
theorem dX5_turnCars_109 : decode cX5_turnCars 109 = .ok (.iload 5, 2) := by decide +kernel
theorem dX5_turnCars_111 : decode cX5_turnCars 111 = .ok (.ineg, 1) := by decide +kernel
theorem dX5_turnCars_112 : decode cX5_turnCars 112 = .ok (.invokestatic 65, 3) := by decide +kernel
theorem dX5_turnCars_115 : decode cX5_turnCars 115 = .ok (.dup2, 1) := by decide +kernel
theorem dX5_turnCars_116 : decode cX5_turnCars 116 = .ok (.iaload, 1) := by decide +kernel
theorem dX5_turnCars_117 : decode cX5_turnCars 117 = .ok (.iconst 1, 1) := by decide +kernel
theorem dX5_turnCars_118 : decode cX5_turnCars 118 = .ok (.iadd, 1) := by decide +kernel
theorem dX5_turnCars_119 : decode cX5_turnCars 119 = .ok (.iastore, 1) := by decide +kernel
theorem dX5_turnCars_120 : decode cX5_turnCars 120 = .ok (.iconst 1, 1) := by decide +kernel
theorem dX5_turnCars_121 : decode cX5_turnCars 121 = .ok (.istore_n 2, 1) := by decide +kernel
theorem dX5_turnCars_122 : decode cX5_turnCars 122 = .ok (.iinc 3 1, 3) := by decide +kernel
theorem dX5_turnCars_125 : decode cX5_turnCars 125 = .ok (.goto (-121), 3) := by decide +kernel
theorem dX5_turnCars_128 : decode cX5_turnCars 128 = .ok (.iload_n 2, 1) := by decide +kernel
theorem dX5_turnCars_129 : decode cX5_turnCars 129 = .ok (.ireturn, 1) := by decide +kernel
theorem dX5_isFireAhead_0 : decode cX5_isFireAhead 0 = .ok (.aload_n 0, 1) := by decide +kernel
theorem dX5_isFireAhead_1 : decode cX5_isFireAhead 1 = .ok (.getfield 9, 3) := by decide +kernel
theorem dX5_isFireAhead_4 : decode cX5_isFireAhead 4 = .ok (.ifCond .lt 31, 3) := by decide +kernel
theorem dX5_isFireAhead_7 : decode cX5_isFireAhead 7 = .ok (.iload_n 2, 1) := by decide +kernel
theorem dX5_isFireAhead_8 : decode cX5_isFireAhead 8 = .ok (.iconst 1, 1) := by decide +kernel
theorem dX5_isFireAhead_9 : decode cX5_isFireAhead 9 = .ok (.if_icmp .ne 14, 3) := by decide +kernel
theorem dX5_isFireAhead_12 : decode cX5_isFireAhead 12 = .ok (.aload_n 0, 1) := by decide +kernel
theorem dX5_isFireAhead_13 : decode cX5_isFireAhead 13 = .ok (.getfield 9, 3) := by decide +kernel
theorem dX5_isFireAhead_16 : decode cX5_isFireAhead 16 = .ok (.iload_n 1, 1) := by decide +kernel
theorem dX5_isFireAhead_17 : decode cX5_isFireAhead 17 = .ok (.if_icmp .le 18, 3) := by decide +kernel
theorem dX5_isFireAhead_20 : decode cX5_isFireAhead 20 = .ok (.goto 11, 3) := by decide +kernel
theorem dX5_isFireAhead_23 : decode cX5_isFireAhead 23 = .ok (.aload_n 0, 1) := by decide +kernel
theorem dX5_isFireAhead_24 : decode cX5_isFireAhead 24 = .ok (.getfield 9, 3) := by decide +kernel
theorem dX5_isFireAhead_27 : decode cX5_isFireAhead 27 = .ok (.iload_n 1, 1) := by decide +kernel
theorem dX5_isFireAhead_28 : decode cX5_isFireAhead 28 = .ok (.if_icmp .ge 7, 3) := by decide +kernel
theorem dX5_isFireAhead_31 : decode cX5_isFireAhead 31 = .ok (.iconst 1, 1) := by decide +kernel
theorem dX5_isFireAhead_32 : decode cX5_isFireAhead 32 = .ok (.goto 4, 3) := by decide +kernel
theorem dX5_isFireAhead_35 : decode cX5_isFireAhead 35 = .ok (.iconst 0, 1) := by decide +kernel
theorem dX5_isFireAhead_36 : decode cX5_isFireAhead 36 = .ok (.ireturn, 1) := by decide +kernel
theorem dX5_exposeCars_0 : decode cX5_exposeCars 0 = .ok (.iconst 0, 1) := by decide +kernel
theorem dX5_exposeCars_1 : decode cX5_exposeCars 1 = .ok (.istore_n 1, 1) := by decide +kernel
theorem dX5_exposeCars_2 : decode cX5_exposeCars 2 = .ok (.iload_n 1, 1) := by decide +kernel
theorem dX5_exposeCars_3 : decode cX5_exposeCars 3 = .ok (.aload_n 0, 1) := by decide +kernel
theorem dX5_exposeCars_4 : decode cX5_exposeCars 4 = .ok (.getfield 42, 3) := by decide +kernel
theorem dX5_exposeCars_7 : decode cX5_exposeCars 7 = .ok (.getfield 74, 3) := by decide +kernel
theorem dX5_exposeCars_10 : decode cX5_exposeCars 10 = .ok (.if_icmp .ge 38, 3) := by decide +kernel
theorem dX5_exposeCars_13 : decode cX5_exposeCars 13 = .ok (.aload_n 0, 1) := by decide +kernel
theorem dX5_exposeCars_14 : decode cX5_exposeCars 14 = .ok (.getfield 33, 3) := by decide +kernel
theorem dX5_exposeCars_17 : decode cX5_exposeCars 17 = .ok (.iload_n 1, 1) := by decide +kernel
theorem dX5_exposeCars_18 : decode cX5_exposeCars 18 = .ok (.iaload, 1) := by decide +kernel
theorem dX5_exposeCars_19 : decode cX5_exposeCars 19 = .ok (.ifCond .lt 23, 3) := by decide +kernel
theorem dX5_exposeCars_22 : decode cX5_exposeCars 22 = .ok (.aload_n 0, 1) := by decide +kernel
theorem dX5_exposeCars_23 : decode cX5_exposeCars 23 = .ok (.getfield 39, 3) := by decide +kernel
theorem dX5_exposeCars_26 : decode cX5_exposeCars 26 = .ok (.iload_n 1, 1) := by decide +kernel
theorem dX5_exposeCars_27 : decode cX5_exposeCars 27 = .ok (.dup2, 1) := by decide +kernel
theorem dX5_exposeCars_28 : decode cX5_exposeCars 28 = .ok (.laload, 1) := by decide +kernel
theorem dX5_exposeCars_29 : decode cX5_exposeCars 29 = .ok (.aload_n 0, 1) := by decide +kernel
theorem dX5_exposeCars_30 : decode cX5_exposeCars 30 = .ok (.getfield 15, 3) := by decide +kernel
theorem dX5_exposeCars_33 : decode cX5_exposeCars 33 = .ok (.aload_n 0, 1) := by decide +kernel
theorem dX5_exposeCars_34 : decode cX5_exposeCars 34 = .ok (.getfield 33, 3) := by decide +kernel
theorem dX5_exposeCars_37 : decode cX5_exposeCars 37 = .ok (.iload_n 1, 1) := by decide +kernel
theorem dX5_exposeCars_38 : decode cX5_exposeCars 38 = .ok (.iaload, 1) := by decide +kernel
theorem dX5_exposeCars_39 : decode cX5_exposeCars 39 = .ok (.laload, 1) := by decide +kernel
theorem dX5_exposeCars_40 : decode cX5_exposeCars 40 = .ok (.ladd, 1) := by decide +kernel
theorem dX5_exposeCars_41 : decode cX5_exposeCars 41 = .ok (.lastore, 1) := by decide +kernel
theorem dX5_exposeCars_42 : decode cX5_exposeCars 42 = .ok (.iinc 1 1, 3) := by decide +kernel
theorem dX5_exposeCars_45 : decode cX5_exposeCars 45 = .ok (.goto (-43), 3) := by decide +kernel
theorem dX5_exposeCars_48 : decode cX5_exposeCars 48 = .ok (.return_, 1) := by decide +kernel
theorem dX5_ticksUntilClear_0 : decode cX5_ticksUntilClear 0 = .ok (.iconst 0, 1) := by decide +kernel
theorem dX5_ticksUntilClear_1 : decode cX5_ticksUntilClear 1 = .ok (.istore_n 2, 1) := by decide +kernel
theorem dX5_ticksUntilClear_2 : decode cX5_ticksUntilClear 2 = .ok (.iload_n 2, 1) := by decide +kernel
theorem dX5_ticksUntilClear_3 : decode cX5_ticksUntilClear 3 = .ok (.iload_n 1, 1) := by decide +kernel
theorem dX5_ticksUntilClear_4 : decode cX5_ticksUntilClear 4 = .ok (.if_icmp .gt 27, 3) := by decide +kernel
theorem dX5_ticksUntilClear_7 : decode cX5_ticksUntilClear 7 = .ok (.aload_n 0, 1) := by decide +kernel
theorem dX5_ticksUntilClear_8 : decode cX5_ticksUntilClear 8 = .ok (.getfield 49, 3) := by decide +kernel
theorem dX5_ticksUntilClear_11 : decode cX5_ticksUntilClear 11 = .ok (.ifCond .ne 5, 3) := by decide +kernel
theorem dX5_ticksUntilClear_14 : decode cX5_ticksUntilClear 14 = .ok (.iload_n 2, 1) := by decide +kernel
theorem dX5_ticksUntilClear_15 : decode cX5_ticksUntilClear 15 = .ok (.ireturn, 1) := by decide +kernel
theorem dX5_ticksUntilClear_16 : decode cX5_ticksUntilClear 16 = .ok (.aload_n 0, 1) := by decide +kernel
theorem dX5_ticksUntilClear_17 : decode cX5_ticksUntilClear 17 = .ok (.invokevirtual 119, 3) := by decide +kernel
theorem dX5_ticksUntilClear_20 : decode cX5_ticksUntilClear 20 = .ok (.ifCond .ne 5, 3) := by decide +kernel
theorem dX5_ticksUntilClear_23 : decode cX5_ticksUntilClear 23 = .ok (.iconst (-1), 1) := by decide +kernel
theorem dX5_ticksUntilClear_24 : decode cX5_ticksUntilClear 24 = .ok (.ireturn, 1) := by decide +kernel
theorem dX5_ticksUntilClear_25 : decode cX5_ticksUntilClear 25 = .ok (.iinc 2 1, 3) := by decide +kernel
theorem dX5_ticksUntilClear_28 : decode cX5_ticksUntilClear 28 = .ok (.goto (-26), 3) := by decide +kernel
theorem dX5_ticksUntilClear_31 : decode cX5_ticksUntilClear 31 = .ok (.iconst (-1), 1) := by decide +kernel
theorem dX5_ticksUntilClear_32 : decode cX5_ticksUntilClear 32 = .ok (.ireturn, 1) := by decide +kernel
theorem dX5_baySet_0 : decode cX5_baySet 0 = .ok (.iconst 0, 1) := by decide +kernel
theorem dX5_baySet_1 : decode cX5_baySet 1 = .ok (.istore_n 1, 1) := by decide +kernel
theorem dX5_baySet_2 : decode cX5_baySet 2 = .ok (.iconst 0, 1) := by decide +kernel
theorem dX5_baySet_3 : decode cX5_baySet 3 = .ok (.istore_n 2, 1) := by decide +kernel
theorem dX5_baySet_4 : decode cX5_baySet 4 = .ok (.iload_n 2, 1) := by decide +kernel
theorem dX5_baySet_5 : decode cX5_baySet 5 = .ok (.aload_n 0, 1) := by decide +kernel
theorem dX5_baySet_6 : decode cX5_baySet 6 = .ok (.getfield 42, 3) := by decide +kernel
theorem dX5_baySet_9 : decode cX5_baySet 9 = .ok (.getfield 80, 3) := by decide +kernel
theorem dX5_baySet_12 : decode cX5_baySet 12 = .ok (.if_icmp .ge 25, 3) := by decide +kernel
theorem dX5_baySet_15 : decode cX5_baySet 15 = .ok (.aload_n 0, 1) := by decide +kernel
theorem dX5_baySet_16 : decode cX5_baySet 16 = .ok (.getfield 23, 3) := by decide +kernel
theorem dX5_baySet_19 : decode cX5_baySet 19 = .ok (.iload_n 2, 1) := by decide +kernel
theorem dX5_baySet_20 : decode cX5_baySet 20 = .ok (.iaload, 1) := by decide +kernel
theorem dX5_baySet_21 : decode cX5_baySet 21 = .ok (.iconst (-1), 1) := by decide +kernel
theorem dX5_baySet_22 : decode cX5_baySet 22 = .ok (.if_icmp .eq 9, 3) := by decide +kernel
theorem dX5_baySet_25 : decode cX5_baySet 25 = .ok (.iload_n 1, 1) := by decide +kernel
theorem dX5_baySet_26 : decode cX5_baySet 26 = .ok (.iconst 1, 1) := by decide +kernel
theorem dX5_baySet_27 : decode cX5_baySet 27 = .ok (.iload_n 2, 1) := by decide +kernel
theorem dX5_baySet_28 : decode cX5_baySet 28 = .ok (.ishl, 1) := by decide +kernel
theorem dX5_baySet_29 : decode cX5_baySet 29 = .ok (.ior, 1) := by decide +kernel
theorem dX5_baySet_30 : decode cX5_baySet 30 = .ok (.istore_n 1, 1) := by decide +kernel
theorem dX5_baySet_31 : decode cX5_baySet 31 = .ok (.iinc 2 1, 3) := by decide +kernel
theorem dX5_baySet_34 : decode cX5_baySet 34 = .ok (.goto (-30), 3) := by decide +kernel
theorem dX5_baySet_37 : decode cX5_baySet 37 = .ok (.iload_n 1, 1) := by decide +kernel
theorem dX5_baySet_38 : decode cX5_baySet 38 = .ok (.ireturn, 1) := by decide +kernel
theorem dX5_openExactly_0 : decode cX5_openExactly 0 = .ok (.iconst 0, 1) := by decide +kernel
theorem dX5_openExactly_1 : decode cX5_openExactly 1 = .ok (.istore_n 2, 1) := by decide +kernel
theorem dX5_openExactly_2 : decode cX5_openExactly 2 = .ok (.iload_n 2, 1) := by decide +kernel
theorem dX5_openExactly_3 : decode cX5_openExactly 3 = .ok (.aload_n 0, 1) := by decide +kernel
theorem dX5_openExactly_4 : decode cX5_openExactly 4 = .ok (.getfield 42, 3) := by decide +kernel
theorem dX5_openExactly_7 : decode cX5_openExactly 7 = .ok (.getfield 80, 3) := by decide +kernel
theorem dX5_openExactly_10 : decode cX5_openExactly 10 = .ok (.if_icmp .ge 39, 3) := by decide +kernel
theorem dX5_openExactly_13 : decode cX5_openExactly 13 = .ok (.aload_n 0, 1) := by decide +kernel
theorem dX5_openExactly_14 : decode cX5_openExactly 14 = .ok (.getfield 23, 3) := by decide +kernel
theorem dX5_openExactly_17 : decode cX5_openExactly 17 = .ok (.iload_n 2, 1) := by decide +kernel
theorem dX5_openExactly_18 : decode cX5_openExactly 18 = .ok (.iaload, 1) := by decide +kernel
theorem dX5_openExactly_19 : decode cX5_openExactly 19 = .ok (.iconst (-1), 1) := by decide +kernel
theorem dX5_openExactly_20 : decode cX5_openExactly 20 = .ok (.if_icmp .eq 23, 3) := by decide +kernel
theorem dX5_openExactly_23 : decode cX5_openExactly 23 = .ok (.aload_n 0, 1) := by decide +kernel
theorem dX5_openExactly_24 : decode cX5_openExactly 24 = .ok (.getfield 23, 3) := by decide +kernel
theorem dX5_openExactly_27 : decode cX5_openExactly 27 = .ok (.iload_n 2, 1) := by decide +kernel
theorem dX5_openExactly_28 : decode cX5_openExactly 28 = .ok (.iload_n 1, 1) := by decide +kernel
theorem dX5_openExactly_29 : decode cX5_openExactly 29 = .ok (.iload_n 2, 1) := by decide +kernel
theorem dX5_openExactly_30 : decode cX5_openExactly 30 = .ok (.ishr, 1) := by decide +kernel
theorem dX5_openExactly_31 : decode cX5_openExactly 31 = .ok (.iconst 1, 1) := by decide +kernel
theorem dX5_openExactly_32 : decode cX5_openExactly 32 = .ok (.iand, 1) := by decide +kernel
theorem dX5_openExactly_33 : decode cX5_openExactly 33 = .ok (.iconst 1, 1) := by decide +kernel
theorem dX5_openExactly_34 : decode cX5_openExactly 34 = .ok (.if_icmp .ne 7, 3) := by decide +kernel
theorem dX5_openExactly_37 : decode cX5_openExactly 37 = .ok (.iconst 1, 1) := by decide +kernel
theorem dX5_openExactly_38 : decode cX5_openExactly 38 = .ok (.goto 4, 3) := by decide +kernel
theorem dX5_openExactly_41 : decode cX5_openExactly 41 = .ok (.iconst 0, 1) := by decide +kernel
theorem dX5_openExactly_42 : decode cX5_openExactly 42 = .ok (.iastore, 1) := by decide +kernel
theorem dX5_openExactly_43 : decode cX5_openExactly 43 = .ok (.iinc 2 1, 3) := by decide +kernel
theorem dX5_openExactly_46 : decode cX5_openExactly 46 = .ok (.goto (-44), 3) := by decide +kernel
theorem dX5_openExactly_49 : decode cX5_openExactly 49 = .ok (.return_, 1) := by decide +kernel
theorem dX5_setAllFans_0 : decode cX5_setAllFans 0 = .ok (.iconst 0, 1) := by decide +kernel
theorem dX5_setAllFans_1 : decode cX5_setAllFans 1 = .ok (.istore_n 2, 1) := by decide +kernel
theorem dX5_setAllFans_2 : decode cX5_setAllFans 2 = .ok (.iload_n 2, 1) := by decide +kernel
theorem dX5_setAllFans_3 : decode cX5_setAllFans 3 = .ok (.aload_n 0, 1) := by decide +kernel
theorem dX5_setAllFans_4 : decode cX5_setAllFans 4 = .ok (.getfield 42, 3) := by decide +kernel
theorem dX5_setAllFans_7 : decode cX5_setAllFans 7 = .ok (.getfield 80, 3) := by decide +kernel
theorem dX5_setAllFans_10 : decode cX5_setAllFans 10 = .ok (.if_icmp .ge 28, 3) := by decide +kernel
theorem dX5_setAllFans_13 : decode cX5_setAllFans 13 = .ok (.aload_n 0, 1) := by decide +kernel
theorem dX5_setAllFans_14 : decode cX5_setAllFans 14 = .ok (.getfield 42, 3) := by decide +kernel
theorem dX5_setAllFans_17 : decode cX5_setAllFans 17 = .ok (.getfield 153, 3) := by decide +kernel
theorem dX5_setAllFans_20 : decode cX5_setAllFans 20 = .ok (.iload_n 2, 1) := by decide +kernel
theorem dX5_setAllFans_21 : decode cX5_setAllFans 21 = .ok (.baload, 1) := by decide +kernel
theorem dX5_setAllFans_22 : decode cX5_setAllFans 22 = .ok (.ifCond .eq 10, 3) := by decide +kernel
theorem dX5_setAllFans_25 : decode cX5_setAllFans 25 = .ok (.aload_n 0, 1) := by decide +kernel
theorem dX5_setAllFans_26 : decode cX5_setAllFans 26 = .ok (.getfield 19, 3) := by decide +kernel
theorem dX5_setAllFans_29 : decode cX5_setAllFans 29 = .ok (.iload_n 2, 1) := by decide +kernel
theorem dX5_setAllFans_30 : decode cX5_setAllFans 30 = .ok (.iload_n 1, 1) := by decide +kernel
theorem dX5_setAllFans_31 : decode cX5_setAllFans 31 = .ok (.iastore, 1) := by decide +kernel
theorem dX5_setAllFans_32 : decode cX5_setAllFans 32 = .ok (.iinc 2 1, 3) := by decide +kernel
theorem dX5_setAllFans_35 : decode cX5_setAllFans 35 = .ok (.goto (-33), 3) := by decide +kernel
theorem dX5_setAllFans_38 : decode cX5_setAllFans 38 = .ok (.return_, 1) := by decide +kernel
theorem dX5_exposureIncrease_0 : decode cX5_exposureIncrease 0 = .ok (.aload_n 0, 1) := by decide +kernel
theorem dX5_exposureIncrease_1 : decode cX5_exposureIncrease 1 = .ok (.invokevirtual 156, 3) := by decide +kernel
theorem dX5_exposureIncrease_4 : decode cX5_exposureIncrease 4 = .ok (.lstore_n 2, 1) := by decide +kernel
theorem dX5_exposureIncrease_5 : decode cX5_exposureIncrease 5 = .ok (.iconst 0, 1) := by decide +kernel
theorem dX5_exposureIncrease_6 : decode cX5_exposureIncrease 6 = .ok (.istore 4, 2) := by decide +kernel
theorem dX5_exposureIncrease_8 : decode cX5_exposureIncrease 8 = .ok (.iload 4, 2) := by decide +kernel
theorem dX5_exposureIncrease_10 : decode cX5_exposureIncrease 10 = .ok (.iload_n 1, 1) := by decide +kernel
theorem dX5_exposureIncrease_11 : decode cX5_exposureIncrease 11 = .ok (.if_icmp .ge 20, 3) := by decide +kernel
theorem dX5_exposureIncrease_14 : decode cX5_exposureIncrease 14 = .ok (.aload_n 0, 1) := by decide +kernel
theorem dX5_exposureIncrease_15 : decode cX5_exposureIncrease 15 = .ok (.getfield 49, 3) := by decide +kernel
theorem dX5_exposureIncrease_18 : decode cX5_exposureIncrease 18 = .ok (.ifCond .le 13, 3) := by decide +kernel
theorem dX5_exposureIncrease_21 : decode cX5_exposureIncrease 21 = .ok (.aload_n 0, 1) := by decide +kernel
theorem dX5_exposureIncrease_22 : decode cX5_exposureIncrease 22 = .ok (.invokevirtual 160, 3) := by decide +kernel
theorem dX5_exposureIncrease_25 : decode cX5_exposureIncrease 25 = .ok (.iinc 4 1, 3) := by decide +kernel
theorem dX5_exposureIncrease_28 : decode cX5_exposureIncrease 28 = .ok (.goto (-20), 3) := by decide +kernel
theorem dX5_exposureIncrease_31 : decode cX5_exposureIncrease 31 = .ok (.aload_n 0, 1) := by decide +kernel
theorem dX5_exposureIncrease_32 : decode cX5_exposureIncrease 32 = .ok (.invokevirtual 156, 3) := by decide +kernel
theorem dX5_exposureIncrease_35 : decode cX5_exposureIncrease 35 = .ok (.lload_n 2, 1) := by decide +kernel
theorem dX5_exposureIncrease_36 : decode cX5_exposureIncrease 36 = .ok (.lsub, 1) := by decide +kernel
theorem dX5_exposureIncrease_37 : decode cX5_exposureIncrease 37 = .ok (.lreturn, 1) := by decide +kernel
theorem dX5_exposureSum_0 : decode cX5_exposureSum 0 = .ok (.lconst 0, 1) := by decide +kernel
theorem dX5_exposureSum_1 : decode cX5_exposureSum 1 = .ok (.lstore_n 1, 1) := by decide +kernel
theorem dX5_exposureSum_2 : decode cX5_exposureSum 2 = .ok (.iconst 0, 1) := by decide +kernel
theorem dX5_exposureSum_3 : decode cX5_exposureSum 3 = .ok (.istore_n 3, 1) := by decide +kernel
theorem dX5_exposureSum_4 : decode cX5_exposureSum 4 = .ok (.iload_n 3, 1) := by decide +kernel
theorem dX5_exposureSum_5 : decode cX5_exposureSum 5 = .ok (.aload_n 0, 1) := by decide +kernel
theorem dX5_exposureSum_6 : decode cX5_exposureSum 6 = .ok (.getfield 42, 3) := by decide +kernel
theorem dX5_exposureSum_9 : decode cX5_exposureSum 9 = .ok (.getfield 74, 3) := by decide +kernel
theorem dX5_exposureSum_12 : decode cX5_exposureSum 12 = .ok (.if_icmp .ge 18, 3) := by decide +kernel
theorem dX5_exposureSum_15 : decode cX5_exposureSum 15 = .ok (.lload_n 1, 1) := by decide +kernel
theorem dX5_exposureSum_16 : decode cX5_exposureSum 16 = .ok (.aload_n 0, 1) := by decide +kernel
theorem dX5_exposureSum_17 : decode cX5_exposureSum 17 = .ok (.getfield 39, 3) := by decide +kernel
theorem dX5_exposureSum_20 : decode cX5_exposureSum 20 = .ok (.iload_n 3, 1) := by decide +kernel
theorem dX5_exposureSum_21 : decode cX5_exposureSum 21 = .ok (.laload, 1) := by decide +kernel
theorem dX5_exposureSum_22 : decode cX5_exposureSum 22 = .ok (.ladd, 1) := by decide +kernel
theorem dX5_exposureSum_23 : decode cX5_exposureSum 23 = .ok (.lstore_n 1, 1) := by decide +kernel
theorem dX5_exposureSum_24 : decode cX5_exposureSum 24 = .ok (.iinc 3 1, 3) := by decide +kernel
theorem dX5_exposureSum_27 : decode cX5_exposureSum 27 = .ok (.goto (-23), 3) := by decide +kernel
theorem dX5_exposureSum_30 : decode cX5_exposureSum 30 = .ok (.lload_n 1, 1) := by decide +kernel
theorem dX5_exposureSum_31 : decode cX5_exposureSum 31 = .ok (.lreturn, 1) := by decide +kernel
theorem dX6_init_0 : decode cX6_init 0 = .ok (.aload_n 0, 1) := by decide +kernel
theorem dX6_init_1 : decode cX6_init 1 = .ok (.invokespecial 1, 3) := by decide +kernel
theorem dX6_init_4 : decode cX6_init 4 = .ok (.new 7, 3) := by decide +kernel
theorem dX6_init_7 : decode cX6_init 7 = .ok (.dup, 1) := by decide +kernel
theorem dX6_init_8 : decode cX6_init 8 = .ok (.invokespecial 9, 3) := by decide +kernel
theorem dX6_init_11 : decode cX6_init 11 = .ok (.astore_n 1, 1) := by decide +kernel
theorem dX6_init_12 : decode cX6_init 12 = .ok (.aload_n 0, 1) := by decide +kernel
theorem dX6_init_13 : decode cX6_init 13 = .ok (.new 10, 3) := by decide +kernel
theorem dX6_init_16 : decode cX6_init 16 = .ok (.dup, 1) := by decide +kernel
theorem dX6_init_17 : decode cX6_init 17 = .ok (.aload_n 1, 1) := by decide +kernel
theorem dX6_init_18 : decode cX6_init 18 = .ok (.invokespecial 12, 3) := by decide +kernel
theorem dX6_init_21 : decode cX6_init 21 = .ok (.putfield 15, 3) := by decide +kernel
theorem dX6_init_24 : decode cX6_init 24 = .ok (.aload_n 0, 1) := by decide +kernel
theorem dX6_init_25 : decode cX6_init 25 = .ok (.new 21, 3) := by decide +kernel
theorem dX6_init_28 : decode cX6_init 28 = .ok (.dup, 1) := by decide +kernel
theorem dX6_init_29 : decode cX6_init 29 = .ok (.aload_n 1, 1) := by decide +kernel
theorem dX6_init_30 : decode cX6_init 30 = .ok (.invokespecial 23, 3) := by decide +kernel
theorem dX6_init_33 : decode cX6_init 33 = .ok (.putfield 24, 3) := by decide +kernel
theorem dX6_init_36 : decode cX6_init 36 = .ok (.aload_n 0, 1) := by decide +kernel
theorem dX6_init_37 : decode cX6_init 37 = .ok (.new 28, 3) := by decide +kernel
theorem dX6_init_40 : decode cX6_init 40 = .ok (.dup, 1) := by decide +kernel
theorem dX6_init_41 : decode cX6_init 41 = .ok (.aload_n 1, 1) := by decide +kernel
theorem dX6_init_42 : decode cX6_init 42 = .ok (.invokespecial 30, 3) := by decide +kernel
theorem dX6_init_45 : decode cX6_init 45 = .ok (.putfield 31, 3) := by decide +kernel
theorem dX6_init_48 : decode cX6_init 48 = .ok (.aload_n 0, 1) := by decide +kernel
theorem dX6_init_49 : decode cX6_init 49 = .ok (.new 28, 3) := by decide +kernel
theorem dX6_init_52 : decode cX6_init 52 = .ok (.dup, 1) := by decide +kernel
theorem dX6_init_53 : decode cX6_init 53 = .ok (.aload_n 1, 1) := by decide +kernel
theorem dX6_init_54 : decode cX6_init 54 = .ok (.invokespecial 30, 3) := by decide +kernel
theorem dX6_init_57 : decode cX6_init 57 = .ok (.putfield 35, 3) := by decide +kernel
theorem dX6_init_60 : decode cX6_init 60 = .ok (.aload_n 0, 1) := by decide +kernel
theorem dX6_init_61 : decode cX6_init 61 = .ok (.iconst (-1), 1) := by decide +kernel
theorem dX6_init_62 : decode cX6_init 62 = .ok (.putfield 38, 3) := by decide +kernel
theorem dX6_init_65 : decode cX6_init 65 = .ok (.return_, 1) := by decide +kernel
theorem dX6_append_0 : decode cX6_append 0 = .ok (.aload_n 0, 1) := by decide +kernel
theorem dX6_append_1 : decode cX6_append 1 = .ok (.getfield 15, 3) := by decide +kernel
theorem dX6_append_4 : decode cX6_append 4 = .ok (.getfield 42, 3) := by decide +kernel
theorem dX6_append_7 : decode cX6_append 7 = .ok (.astore 6, 2) := by decide +kernel
theorem dX6_append_9 : decode cX6_append 9 = .ok (.aload 6, 2) := by decide +kernel
theorem dX6_append_11 : decode cX6_append 11 = .ok (.getfield 46, 3) := by decide +kernel
theorem dX6_append_14 : decode cX6_append 14 = .ok (.sipush 780, 3) := by decide +kernel
theorem dX6_append_17 : decode cX6_append 17 = .ok (.if_icmp .le 5, 3) := by decide +kernel
theorem dX6_append_20 : decode cX6_append 20 = .ok (.iconst (-1), 1) := by decide +kernel
theorem dX6_append_21 : decode cX6_append 21 = .ok (.ireturn, 1) := by decide +kernel
theorem dX6_append_22 : decode cX6_append 22 = .ok (.aload 6, 2) := by decide +kernel
theorem dX6_append_24 : decode cX6_append 24 = .ok (.iload_n 1, 1) := by decide +kernel
theorem dX6_append_25 : decode cX6_append 25 = .ok (.invokevirtual 51, 3) := by decide +kernel
theorem dX6_append_28 : decode cX6_append 28 = .ok (.aload 6, 2) := by decide +kernel
theorem dX6_append_30 : decode cX6_append 30 = .ok (.iload_n 2, 1) := by decide +kernel
theorem dX6_append_31 : decode cX6_append 31 = .ok (.invokevirtual 51, 3) := by decide +kernel
theorem dX6_append_34 : decode cX6_append 34 = .ok (.aload 6, 2) := by decide +kernel
theorem dX6_append_36 : decode cX6_append 36 = .ok (.iload_n 3, 1) := by decide +kernel
theorem dX6_append_37 : decode cX6_append 37 = .ok (.invokevirtual 51, 3) := by decide +kernel
theorem dX6_append_40 : decode cX6_append 40 = .ok (.aload 6, 2) := by decide +kernel
theorem dX6_append_42 : decode cX6_append 42 = .ok (.iload 4, 2) := by decide +kernel
theorem dX6_append_44 : decode cX6_append 44 = .ok (.invokevirtual 51, 3) := by decide +kernel
theorem dX6_append_47 : decode cX6_append 47 = .ok (.aload 6, 2) := by decide +kernel
theorem dX6_append_49 : decode cX6_append 49 = .ok (.iload 5, 2) := by decide +kernel
theorem dX6_append_51 : decode cX6_append 51 = .ok (.invokevirtual 51, 3) := by decide +kernel
theorem dX6_append_54 : decode cX6_append 54 = .ok (.aload 6, 2) := by decide +kernel
theorem dX6_append_56 : decode cX6_append 56 = .ok (.getfield 46, 3) := by decide +kernel
theorem dX6_append_59 : decode cX6_append 59 = .ok (.ireturn, 1) := by decide +kernel
theorem dX6_load_0 : decode cX6_load 0 = .ok (.iload_n 1, 1) := by decide +kernel
theorem dX6_load_1 : decode cX6_load 1 = .ok (.ifCond .lt 17, 3) := by decide +kernel
theorem dX6_load_4 : decode cX6_load 4 = .ok (.iload_n 1, 1) := by decide +kernel
theorem dX6_load_5 : decode cX6_load 5 = .ok (.aload_n 0, 1) := by decide +kernel
theorem dX6_load_6 : decode cX6_load 6 = .ok (.getfield 15, 3) := by decide +kernel
theorem dX6_load_9 : decode cX6_load 9 = .ok (.getfield 42, 3) := by decide +kernel
theorem dX6_load_12 : decode cX6_load 12 = .ok (.getfield 46, 3) := by decide +kernel
theorem dX6_load_15 : decode cX6_load 15 = .ok (.if_icmp .le 13, 3) := by decide +kernel
theorem dX6_load_18 : decode cX6_load 18 = .ok (.new 55, 3) := by decide +kernel
theorem dX6_load_21 : decode cX6_load 21 = .ok (.dup, 1) := by decide +kernel
theorem dX6_load_22 : decode cX6_load 22 = .ok (.ldc 57, 2) := by decide +kernel
theorem dX6_load_24 : decode cX6_load 24 = .ok (.invokespecial 59, 3) := by decide +kernel
theorem dX6_load_27 : decode cX6_load 27 = .ok (.athrow, 1) := by decide +kernel
theorem dX6_load_28 : decode cX6_load 28 = .ok (.aload_n 0, 1) := by decide +kernel
theorem dX6_load_29 : decode cX6_load 29 = .ok (.getfield 15, 3) := by decide +kernel
theorem dX6_load_32 : decode cX6_load 32 = .ok (.iload_n 1, 1) := by decide +kernel
theorem dX6_load_33 : decode cX6_load 33 = .ok (.invokevirtual 62, 3) := by decide +kernel
theorem dX6_load_36 : decode cX6_load 36 = .ok (.istore_n 2, 1) := by decide +kernel
theorem dX6_load_37 : decode cX6_load 37 = .ok (.aload_n 0, 1) := by decide +kernel
theorem dX6_load_38 : decode cX6_load 38 = .ok (.getfield 15, 3) := by decide +kernel
theorem dX6_load_41 : decode cX6_load 41 = .ok (.getfield 42, 3) := by decide +kernel
theorem dX6_load_44 : decode cX6_load 44 = .ok (.iconst 0, 1) := by decide +kernel
theorem dX6_load_45 : decode cX6_load 45 = .ok (.putfield 46, 3) := by decide +kernel
theorem dX6_load_48 : decode cX6_load 48 = .ok (.iload_n 2, 1) := by decide +kernel
theorem dX6_load_49 : decode cX6_load 49 = .ok (.ifCond .ne 22, 3) := by decide +kernel
theorem dX6_load_52 : decode cX6_load 52 = .ok (.aload_n 0, 1) := by decide +kernel
theorem dX6_load_53 : decode cX6_load 53 = .ok (.aload_n 0, 1) := by decide +kernel
theorem dX6_load_54 : decode cX6_load 54 = .ok (.getfield 15, 3) := by decide +kernel
theorem dX6_load_57 : decode cX6_load 57 = .ok (.getfield 66, 3) := by decide +kernel
theorem dX6_load_60 : decode cX6_load 60 = .ok (.putfield 38, 3) := by decide +kernel
theorem dX6_load_63 : decode cX6_load 63 = .ok (.aload_n 0, 1) := by decide +kernel
theorem dX6_load_64 : decode cX6_load 64 = .ok (.getfield 15, 3) := by decide +kernel
theorem dX6_load_67 : decode cX6_load 67 = .ok (.getfield 69, 3) := by decide +kernel
theorem dX6_load_70 : decode cX6_load 70 = .ok (.ireturn, 1) := by decide +kernel
theorem dX6_load_71 : decode cX6_load 71 = .ok (.aload_n 0, 1) := by decide +kernel
theorem dX6_load_72 : decode cX6_load 72 = .ok (.iconst (-1), 1) := by decide +kernel
theorem dX6_load_73 : decode cX6_load 73 = .ok (.putfield 38, 3) := by decide +kernel
theorem dX6_load_76 : decode cX6_load 76 = .ok (.aload_n 0, 1) := by decide +kernel
theorem dX6_load_77 : decode cX6_load 77 = .ok (.getfield 24, 3) := by decide +kernel
theorem dX6_load_80 : decode cX6_load 80 = .ok (.aload_n 0, 1) := by decide +kernel
theorem dX6_load_81 : decode cX6_load 81 = .ok (.getfield 31, 3) := by decide +kernel
theorem dX6_load_84 : decode cX6_load 84 = .ok (.invokevirtual 72, 3) := by decide +kernel
theorem dX6_load_87 : decode cX6_load 87 = .ok (.aload_n 0, 1) := by decide +kernel
theorem dX6_load_88 : decode cX6_load 88 = .ok (.getfield 31, 3) := by decide +kernel
theorem dX6_load_91 : decode cX6_load 91 = .ok (.aload_n 0, 1) := by decide +kernel
theorem dX6_load_92 : decode cX6_load 92 = .ok (.getfield 15, 3) := by decide +kernel
theorem dX6_load_95 : decode cX6_load 95 = .ok (.getfield 76, 3) := by decide +kernel
theorem dX6_load_98 : decode cX6_load 98 = .ok (.invokevirtual 79, 3) := by decide +kernel
theorem dX6_load_101 : decode cX6_load 101 = .ok (.aload_n 0, 1) := by decide +kernel
theorem dX6_load_102 : decode cX6_load 102 = .ok (.getfield 31, 3) := by decide +kernel
theorem dX6_load_105 : decode cX6_load 105 = .ok (.getfield 82, 3) := by decide +kernel
theorem dX6_load_108 : decode cX6_load 108 = .ok (.getfield 86, 3) := by decide +kernel
theorem dX6_load_111 : decode cX6_load 111 = .ok (.ireturn, 1) := by decide +kernel
theorem dX6_errorOffset_0 : decode cX6_errorOffset 0 = .ok (.aload_n 0, 1) := by decide +kernel
theorem dX6_errorOffset_1 : decode cX6_errorOffset 1 = .ok (.getfield 38, 3) := by decide +kernel
theorem dX6_errorOffset_4 : decode cX6_errorOffset 4 = .ok (.ireturn, 1) := by decide +kernel
theorem dX6_sectionCount_0 : decode cX6_sectionCount 0 = .ok (.aload_n 0, 1) := by decide +kernel
theorem dX6_sectionCount_1 : decode cX6_sectionCount 1 = .ok (.getfield 31, 3) := by decide +kernel
theorem dX6_sectionCount_4 : decode cX6_sectionCount 4 = .ok (.getfield 82, 3) := by decide +kernel
theorem dX6_sectionCount_7 : decode cX6_sectionCount 7 = .ok (.getfield 89, 3) := by decide +kernel
theorem dX6_sectionCount_10 : decode cX6_sectionCount 10 = .ok (.ireturn, 1) := by decide +kernel
theorem dX6_carCount_0 : decode cX6_carCount 0 = .ok (.aload_n 0, 1) := by decide +kernel
theorem dX6_carCount_1 : decode cX6_carCount 1 = .ok (.getfield 31, 3) := by decide +kernel
theorem dX6_carCount_4 : decode cX6_carCount 4 = .ok (.getfield 82, 3) := by decide +kernel
theorem dX6_carCount_7 : decode cX6_carCount 7 = .ok (.getfield 86, 3) := by decide +kernel
theorem dX6_carCount_10 : decode cX6_carCount 10 = .ok (.ireturn, 1) := by decide +kernel
theorem dX6_clock_0 : decode cX6_clock 0 = .ok (.aload_n 0, 1) := by decide +kernel
theorem dX6_clock_1 : decode cX6_clock 1 = .ok (.getfield 31, 3) := by decide +kernel
theorem dX6_clock_4 : decode cX6_clock 4 = .ok (.getfield 92, 3) := by decide +kernel
theorem dX6_clock_7 : decode cX6_clock 7 = .ok (.ireturn, 1) := by decide +kernel
theorem dX6_flow_0 : decode cX6_flow 0 = .ok (.aload_n 0, 1) := by decide +kernel
theorem dX6_flow_1 : decode cX6_flow 1 = .ok (.getfield 31, 3) := by decide +kernel
theorem dX6_flow_4 : decode cX6_flow 4 = .ok (.invokevirtual 95, 3) := by decide +kernel
theorem dX6_flow_7 : decode cX6_flow 7 = .ok (.ireturn, 1) := by decide +kernel
theorem dX6_rate_0 : decode cX6_rate 0 = .ok (.aload_n 0, 1) := by decide +kernel
theorem dX6_rate_1 : decode cX6_rate 1 = .ok (.getfield 31, 3) := by decide +kernel
theorem dX6_rate_4 : decode cX6_rate 4 = .ok (.invokevirtual 99, 3) := by decide +kernel
theorem dX6_rate_7 : decode cX6_rate 7 = .ok (.ireturn, 1) := by decide +kernel
theorem dX6_fireSection_0 : decode cX6_fireSection 0 = .ok (.aload_n 0, 1) := by decide +kernel
theorem dX6_fireSection_1 : decode cX6_fireSection 1 = .ok (.getfield 31, 3) := by decide +kernel
theorem dX6_fireSection_4 : decode cX6_fireSection 4 = .ok (.getfield 102, 3) := by decide +kernel
theorem dX6_fireSection_7 : decode cX6_fireSection 7 = .ok (.ireturn, 1) := by decide +kernel
theorem dX6_smoke_0 : decode cX6_smoke 0 = .ok (.aload_n 0, 1) := by decide +kernel
theorem dX6_smoke_1 : decode cX6_smoke 1 = .ok (.iload_n 1, 1) := by decide +kernel
theorem dX6_smoke_2 : decode cX6_smoke 2 = .ok (.invokevirtual 105, 3) := by decide +kernel
theorem dX6_smoke_5 : decode cX6_smoke 5 = .ok (.aload_n 0, 1) := by decide +kernel
theorem dX6_smoke_6 : decode cX6_smoke 6 = .ok (.getfield 31, 3) := by decide +kernel
theorem dX6_smoke_9 : decode cX6_smoke 9 = .ok (.getfield 108, 3) := by decide +kernel
theorem dX6_smoke_12 : decode cX6_smoke 12 = .ok (.iload_n 1, 1) := by decide +kernel
theorem dX6_smoke_13 : decode cX6_smoke 13 = .ok (.laload, 1) := by decide +kernel
theorem dX6_smoke_14 : decode cX6_smoke 14 = .ok (.l2i, 1) := by decide +kernel
theorem dX6_smoke_15 : decode cX6_smoke 15 = .ok (.ireturn, 1) := by decide +kernel
theorem dX6_total_0 : decode cX6_total 0 = .ok (.iload_n 1, 1) := by decide +kernel
theorem dX6_total_1 : decode cX6_total 1 = .ok (.tableswitch 79 0 3 #[31, 55, 63, 71], 31) := by decide +kernel
theorem dX6_total_32 : decode cX6_total 32 = .ok (.aload_n 0, 1) := by decide +kernel
theorem dX6_total_33 : decode cX6_total 33 = .ok (.getfield 31, 3) := by decide +kernel
theorem dX6_total_36 : decode cX6_total 36 = .ok (.invokevirtual 112, 3) := by decide +kernel
theorem dX6_total_39 : decode cX6_total 39 = .ok (.aload_n 0, 1) := by decide +kernel
theorem dX6_total_40 : decode cX6_total 40 = .ok (.getfield 31, 3) := by decide +kernel
theorem dX6_total_43 : decode cX6_total 43 = .ok (.getfield 116, 3) := by decide +kernel
theorem dX6_total_46 : decode cX6_total 46 = .ok (.ladd, 1) := by decide +kernel
theorem dX6_total_47 : decode cX6_total 47 = .ok (.aload_n 0, 1) := by decide +kernel
theorem dX6_total_48 : decode cX6_total 48 = .ok (.getfield 31, 3) := by decide +kernel
theorem dX6_total_51 : decode cX6_total 51 = .ok (.getfield 120, 3) := by decide +kernel
theorem dX6_total_54 : decode cX6_total 54 = .ok (.ladd, 1) := by decide +kernel
theorem dX6_total_55 : decode cX6_total 55 = .ok (.lreturn, 1) := by decide +kernel
theorem dX6_total_56 : decode cX6_total 56 = .ok (.aload_n 0, 1) := by decide +kernel
theorem dX6_total_57 : decode cX6_total 57 = .ok (.getfield 31, 3) := by decide +kernel
theorem dX6_total_60 : decode cX6_total 60 = .ok (.invokevirtual 112, 3) := by decide +kernel
theorem dX6_total_63 : decode cX6_total 63 = .ok (.lreturn, 1) := by decide +kernel
theorem dX6_total_64 : decode cX6_total 64 = .ok (.aload_n 0, 1) := by decide +kernel
theorem dX6_total_65 : decode cX6_total 65 = .ok (.getfield 31, 3) := by decide +kernel
theorem dX6_total_68 : decode cX6_total 68 = .ok (.getfield 116, 3) := by decide +kernel
theorem dX6_total_71 : decode cX6_total 71 = .ok (.lreturn, 1) := by decide +kernel
theorem dX6_total_72 : decode cX6_total 72 = .ok (.aload_n 0, 1) := by decide +kernel
theorem dX6_total_73 : decode cX6_total 73 = .ok (.getfield 31, 3) := by decide +kernel
theorem dX6_total_76 : decode cX6_total 76 = .ok (.getfield 120, 3) := by decide +kernel
theorem dX6_total_79 : decode cX6_total 79 = .ok (.lreturn, 1) := by decide +kernel
theorem dX6_total_80 : decode cX6_total 80 = .ok (.new 55, 3) := by decide +kernel
theorem dX6_total_83 : decode cX6_total 83 = .ok (.dup, 1) := by decide +kernel
theorem dX6_total_84 : decode cX6_total 84 = .ok (.ldc 123, 2) := by decide +kernel
theorem dX6_total_86 : decode cX6_total 86 = .ok (.invokespecial 59, 3) := by decide +kernel
theorem dX6_total_89 : decode cX6_total 89 = .ok (.athrow, 1) := by decide +kernel
theorem dX6_fan_0 : decode cX6_fan 0 = .ok (.aload_n 0, 1) := by decide +kernel
theorem dX6_fan_1 : decode cX6_fan 1 = .ok (.iload_n 1, 1) := by decide +kernel
theorem dX6_fan_2 : decode cX6_fan 2 = .ok (.invokevirtual 105, 3) := by decide +kernel
theorem dX6_fan_5 : decode cX6_fan 5 = .ok (.aload_n 0, 1) := by decide +kernel
theorem dX6_fan_6 : decode cX6_fan 6 = .ok (.iload_n 1, 1) := by decide +kernel
theorem dX6_fan_7 : decode cX6_fan 7 = .ok (.invokevirtual 125, 3) := by decide +kernel
theorem dX6_fan_10 : decode cX6_fan 10 = .ok (.aload_n 0, 1) := by decide +kernel
theorem dX6_fan_11 : decode cX6_fan 11 = .ok (.getfield 31, 3) := by decide +kernel
theorem dX6_fan_14 : decode cX6_fan 14 = .ok (.getfield 128, 3) := by decide +kernel
theorem dX6_fan_17 : decode cX6_fan 17 = .ok (.iload_n 1, 1) := by decide +kernel
theorem dX6_fan_18 : decode cX6_fan 18 = .ok (.iaload, 1) := by decide +kernel
theorem dX6_fan_19 : decode cX6_fan 19 = .ok (.ireturn, 1) := by decide +kernel
theorem dX6_bay_0 : decode cX6_bay 0 = .ok (.aload_n 0, 1) := by decide +kernel
theorem dX6_bay_1 : decode cX6_bay 1 = .ok (.iload_n 1, 1) := by decide +kernel
theorem dX6_bay_2 : decode cX6_bay 2 = .ok (.invokevirtual 105, 3) := by decide +kernel
theorem dX6_bay_5 : decode cX6_bay 5 = .ok (.aload_n 0, 1) := by decide +kernel
theorem dX6_bay_6 : decode cX6_bay 6 = .ok (.getfield 31, 3) := by decide +kernel
theorem dX6_bay_9 : decode cX6_bay 9 = .ok (.getfield 132, 3) := by decide +kernel
theorem dX6_bay_12 : decode cX6_bay 12 = .ok (.iload_n 1, 1) := by decide +kernel
theorem dX6_bay_13 : decode cX6_bay 13 = .ok (.iaload, 1) := by decide +kernel
theorem dX6_bay_14 : decode cX6_bay 14 = .ok (.ireturn, 1) := by decide +kernel
theorem dX6_isRed_0 : decode cX6_isRed 0 = .ok (.aload_n 0, 1) := by decide +kernel
theorem dX6_isRed_1 : decode cX6_isRed 1 = .ok (.iload_n 1, 1) := by decide +kernel
theorem dX6_isRed_2 : decode cX6_isRed 2 = .ok (.invokevirtual 105, 3) := by decide +kernel
theorem dX6_isRed_5 : decode cX6_isRed 5 = .ok (.iload_n 2, 1) := by decide +kernel
theorem dX6_isRed_6 : decode cX6_isRed 6 = .ok (.invokestatic 135, 3) := by decide +kernel
theorem dX6_isRed_9 : decode cX6_isRed 9 = .ok (.aload_n 0, 1) := by decide +kernel
theorem dX6_isRed_10 : decode cX6_isRed 10 = .ok (.getfield 31, 3) := by decide +kernel
theorem dX6_isRed_13 : decode cX6_isRed 13 = .ok (.getfield 138, 3) := by decide +kernel
theorem dX6_isRed_16 : decode cX6_isRed 16 = .ok (.iload_n 1, 1) := by decide +kernel
theorem dX6_isRed_17 : decode cX6_isRed 17 = .ok (.iload_n 2, 1) := by decide +kernel
theorem dX6_isRed_18 : decode cX6_isRed 18 = .ok (.invokestatic 142, 3) := by decide +kernel
theorem dX6_isRed_21 : decode cX6_isRed 21 = .ok (.baload, 1) := by decide +kernel
theorem dX6_isRed_22 : decode cX6_isRed 22 = .ok (.ireturn, 1) := by decide +kernel
theorem dX6_carSection_0 : decode cX6_carSection 0 = .ok (.aload_n 0, 1) := by decide +kernel
theorem dX6_carSection_1 : decode cX6_carSection 1 = .ok (.iload_n 1, 1) := by decide +kernel
theorem dX6_carSection_2 : decode cX6_carSection 2 = .ok (.invokevirtual 146, 3) := by decide +kernel
theorem dX6_carSection_5 : decode cX6_carSection 5 = .ok (.aload_n 0, 1) := by decide +kernel
theorem dX6_carSection_6 : decode cX6_carSection 6 = .ok (.getfield 31, 3) := by decide +kernel
theorem dX6_carSection_9 : decode cX6_carSection 9 = .ok (.getfield 149, 3) := by decide +kernel
theorem dX6_carSection_12 : decode cX6_carSection 12 = .ok (.iload_n 1, 1) := by decide +kernel
theorem dX6_carSection_13 : decode cX6_carSection 13 = .ok (.iaload, 1) := by decide +kernel
theorem dX6_carSection_14 : decode cX6_carSection 14 = .ok (.ireturn, 1) := by decide +kernel
theorem dX6_carDirection_0 : decode cX6_carDirection 0 = .ok (.aload_n 0, 1) := by decide +kernel
theorem dX6_carDirection_1 : decode cX6_carDirection 1 = .ok (.iload_n 1, 1) := by decide +kernel
theorem dX6_carDirection_2 : decode cX6_carDirection 2 = .ok (.invokevirtual 146, 3) := by decide +kernel
theorem dX6_carDirection_5 : decode cX6_carDirection 5 = .ok (.aload_n 0, 1) := by decide +kernel
theorem dX6_carDirection_6 : decode cX6_carDirection 6 = .ok (.getfield 31, 3) := by decide +kernel
theorem dX6_carDirection_9 : decode cX6_carDirection 9 = .ok (.getfield 152, 3) := by decide +kernel
theorem dX6_carDirection_12 : decode cX6_carDirection 12 = .ok (.iload_n 1, 1) := by decide +kernel
theorem dX6_carDirection_13 : decode cX6_carDirection 13 = .ok (.iaload, 1) := by decide +kernel
theorem dX6_carDirection_14 : decode cX6_carDirection 14 = .ok (.ireturn, 1) := by decide +kernel
theorem dX6_exposure_0 : decode cX6_exposure 0 = .ok (.aload_n 0, 1) := by decide +kernel
theorem dX6_exposure_1 : decode cX6_exposure 1 = .ok (.iload_n 1, 1) := by decide +kernel
theorem dX6_exposure_2 : decode cX6_exposure 2 = .ok (.invokevirtual 146, 3) := by decide +kernel
theorem dX6_exposure_5 : decode cX6_exposure 5 = .ok (.aload_n 0, 1) := by decide +kernel
theorem dX6_exposure_6 : decode cX6_exposure 6 = .ok (.getfield 31, 3) := by decide +kernel
theorem dX6_exposure_9 : decode cX6_exposure 9 = .ok (.getfield 155, 3) := by decide +kernel
theorem dX6_exposure_12 : decode cX6_exposure 12 = .ok (.iload_n 1, 1) := by decide +kernel
theorem dX6_exposure_13 : decode cX6_exposure 13 = .ok (.laload, 1) := by decide +kernel
theorem dX6_exposure_14 : decode cX6_exposure 14 = .ok (.lreturn, 1) := by decide +kernel
theorem dX6_carsIn_0 : decode cX6_carsIn 0 = .ok (.aload_n 0, 1) := by decide +kernel
theorem dX6_carsIn_1 : decode cX6_carsIn 1 = .ok (.iload_n 1, 1) := by decide +kernel
theorem dX6_carsIn_2 : decode cX6_carsIn 2 = .ok (.invokevirtual 105, 3) := by decide +kernel
theorem dX6_carsIn_5 : decode cX6_carsIn 5 = .ok (.iload_n 2, 1) := by decide +kernel
theorem dX6_carsIn_6 : decode cX6_carsIn 6 = .ok (.invokestatic 135, 3) := by decide +kernel
theorem dX6_carsIn_9 : decode cX6_carsIn 9 = .ok (.aload_n 0, 1) := by decide +kernel
theorem dX6_carsIn_10 : decode cX6_carsIn 10 = .ok (.getfield 31, 3) := by decide +kernel
theorem dX6_carsIn_13 : decode cX6_carsIn 13 = .ok (.getfield 158, 3) := by decide +kernel
theorem dX6_carsIn_16 : decode cX6_carsIn 16 = .ok (.iload_n 1, 1) := by decide +kernel
theorem dX6_carsIn_17 : decode cX6_carsIn 17 = .ok (.iload_n 2, 1) := by decide +kernel
theorem dX6_carsIn_18 : decode cX6_carsIn 18 = .ok (.invokestatic 142, 3) := by decide +kernel
theorem dX6_carsIn_21 : decode cX6_carsIn 21 = .ok (.iaload, 1) := by decide +kernel
theorem dX6_carsIn_22 : decode cX6_carsIn 22 = .ok (.ireturn, 1) := by decide +kernel
theorem dX6_inside_0 : decode cX6_inside 0 = .ok (.aload_n 0, 1) := by decide +kernel
theorem dX6_inside_1 : decode cX6_inside 1 = .ok (.getfield 31, 3) := by decide +kernel
theorem dX6_inside_4 : decode cX6_inside 4 = .ok (.getfield 161, 3) := by decide +kernel
theorem dX6_inside_7 : decode cX6_inside 7 = .ok (.ireturn, 1) := by decide +kernel
theorem dX6_clearingTime_0 : decode cX6_clearingTime 0 = .ok (.iload_n 1, 1) := by decide +kernel
theorem dX6_clearingTime_1 : decode cX6_clearingTime 1 = .ok (.ifCond .lt 10, 3) := by decide +kernel
theorem dX6_clearingTime_4 : decode cX6_clearingTime 4 = .ok (.iload_n 1, 1) := by decide +kernel
theorem dX6_clearingTime_5 : decode cX6_clearingTime 5 = .ok (.sipush 200, 3) := by decide +kernel
theorem dX6_clearingTime_8 : decode cX6_clearingTime 8 = .ok (.if_icmp .le 13, 3) := by decide +kernel
theorem dX6_clearingTime_11 : decode cX6_clearingTime 11 = .ok (.new 55, 3) := by decide +kernel
theorem dX6_clearingTime_14 : decode cX6_clearingTime 14 = .ok (.dup, 1) := by decide +kernel
theorem dX6_clearingTime_15 : decode cX6_clearingTime 15 = .ok (.ldc 164, 2) := by decide +kernel
theorem dX6_clearingTime_17 : decode cX6_clearingTime 17 = .ok (.invokespecial 59, 3) := by decide +kernel
theorem dX6_clearingTime_20 : decode cX6_clearingTime 20 = .ok (.athrow, 1) := by decide +kernel
theorem dX6_clearingTime_21 : decode cX6_clearingTime 21 = .ok (.aload_n 0, 1) := by decide +kernel
theorem dX6_clearingTime_22 : decode cX6_clearingTime 22 = .ok (.getfield 35, 3) := by decide +kernel
theorem dX6_clearingTime_25 : decode cX6_clearingTime 25 = .ok (.aload_n 0, 1) := by decide +kernel
theorem dX6_clearingTime_26 : decode cX6_clearingTime 26 = .ok (.getfield 31, 3) := by decide +kernel
theorem dX6_clearingTime_29 : decode cX6_clearingTime 29 = .ok (.invokevirtual 79, 3) := by decide +kernel
theorem dX6_clearingTime_32 : decode cX6_clearingTime 32 = .ok (.aload_n 0, 1) := by decide +kernel
theorem dX6_clearingTime_33 : decode cX6_clearingTime 33 = .ok (.getfield 35, 3) := by decide +kernel
theorem dX6_clearingTime_36 : decode cX6_clearingTime 36 = .ok (.iload_n 1, 1) := by decide +kernel
theorem dX6_clearingTime_37 : decode cX6_clearingTime 37 = .ok (.invokevirtual 166, 3) := by decide +kernel
theorem dX6_clearingTime_40 : decode cX6_clearingTime 40 = .ok (.ireturn, 1) := by decide +kernel
theorem dX6_bestBays_0 : decode cX6_bestBays 0 = .ok (.aload_n 0, 1) := by decide +kernel
theorem dX6_bestBays_1 : decode cX6_bestBays 1 = .ok (.getfield 31, 3) := by decide +kernel
theorem dX6_bestBays_4 : decode cX6_bestBays 4 = .ok (.invokevirtual 170, 3) := by decide +kernel
theorem dX6_bestBays_7 : decode cX6_bestBays 7 = .ok (.istore_n 1, 1) := by decide +kernel
theorem dX6_bestBays_8 : decode cX6_bestBays 8 = .ok (.iconst (-1), 1) := by decide +kernel
theorem dX6_bestBays_9 : decode cX6_bestBays 9 = .ok (.istore_n 2, 1) := by decide +kernel
theorem dX6_bestBays_10 : decode cX6_bestBays 10 = .ok (.sipush 200, 3) := by decide +kernel
theorem dX6_bestBays_13 : decode cX6_bestBays 13 = .ok (.istore_n 3, 1) := by decide +kernel
theorem dX6_bestBays_14 : decode cX6_bestBays 14 = .ok (.iconst 0, 1) := by decide +kernel
theorem dX6_bestBays_15 : decode cX6_bestBays 15 = .ok (.istore 4, 2) := by decide +kernel
theorem dX6_bestBays_17 : decode cX6_bestBays 17 = .ok (.iload 4, 2) := by decide +kernel
theorem dX6_bestBays_19 : decode cX6_bestBays 19 = .ok (.iload_n 1, 1) := by decide +kernel
theorem dX6_bestBays_20 : decode cX6_bestBays 20 = .ok (.if_icmp .gt 84, 3) := by decide +kernel
theorem dX6_bestBays_23 : decode cX6_bestBays 23 = .ok (.iload 4, 2) := by decide +kernel
theorem dX6_bestBays_25 : decode cX6_bestBays 25 = .ok (.iload_n 1, 1) := by decide +kernel
theorem dX6_bestBays_26 : decode cX6_bestBays 26 = .ok (.iconst (-1), 1) := by decide +kernel
theorem dX6_bestBays_27 : decode cX6_bestBays 27 = .ok (.ixor, 1) := by decide +kernel
theorem dX6_bestBays_28 : decode cX6_bestBays 28 = .ok (.iand, 1) := by decide +kernel
theorem dX6_bestBays_29 : decode cX6_bestBays 29 = .ok (.ifCond .eq 6, 3) := by decide +kernel
theorem dX6_bestBays_32 : decode cX6_bestBays 32 = .ok (.goto 66, 3) := by decide +kernel
theorem dX6_bestBays_35 : decode cX6_bestBays 35 = .ok (.aload_n 0, 1) := by decide +kernel
theorem dX6_bestBays_36 : decode cX6_bestBays 36 = .ok (.getfield 35, 3) := by decide +kernel
theorem dX6_bestBays_39 : decode cX6_bestBays 39 = .ok (.aload_n 0, 1) := by decide +kernel
theorem dX6_bestBays_40 : decode cX6_bestBays 40 = .ok (.getfield 31, 3) := by decide +kernel
theorem dX6_bestBays_43 : decode cX6_bestBays 43 = .ok (.invokevirtual 79, 3) := by decide +kernel
theorem dX6_bestBays_46 : decode cX6_bestBays 46 = .ok (.aload_n 0, 1) := by decide +kernel
theorem dX6_bestBays_47 : decode cX6_bestBays 47 = .ok (.getfield 35, 3) := by decide +kernel
theorem dX6_bestBays_50 : decode cX6_bestBays 50 = .ok (.iload 4, 2) := by decide +kernel
theorem dX6_bestBays_52 : decode cX6_bestBays 52 = .ok (.invokevirtual 173, 3) := by decide +kernel
theorem dX6_bestBays_55 : decode cX6_bestBays 55 = .ok (.aload_n 0, 1) := by decide +kernel
theorem dX6_bestBays_56 : decode cX6_bestBays 56 = .ok (.getfield 35, 3) := by decide +kernel
theorem dX6_bestBays_59 : decode cX6_bestBays 59 = .ok (.iload_n 3, 1) := by decide +kernel
theorem dX6_bestBays_60 : decode cX6_bestBays 60 = .ok (.invokevirtual 166, 3) := by decide +kernel
theorem dX6_bestBays_63 : decode cX6_bestBays 63 = .ok (.istore 5, 2) := by decide +kernel
theorem dX6_bestBays_65 : decode cX6_bestBays 65 = .ok (.iload 5, 2) := by decide +kernel
theorem dX6_bestBays_67 : decode cX6_bestBays 67 = .ok (.ifCond .lt 31, 3) := by decide +kernel
theorem dX6_bestBays_70 : decode cX6_bestBays 70 = .ok (.iload_n 2, 1) := by decide +kernel
theorem dX6_bestBays_71 : decode cX6_bestBays 71 = .ok (.ifCond .lt 21, 3) := by decide +kernel
theorem dX6_bestBays_74 : decode cX6_bestBays 74 = .ok (.iload 5, 2) := by decide +kernel
theorem dX6_bestBays_76 : decode cX6_bestBays 76 = .ok (.iload_n 3, 1) := by decide +kernel
theorem dX6_bestBays_77 : decode cX6_bestBays 77 = .ok (.if_icmp .lt 15, 3) := by decide +kernel
theorem dX6_bestBays_80 : decode cX6_bestBays 80 = .ok (.iload 4, 2) := by decide +kernel
theorem dX6_bestBays_82 : decode cX6_bestBays 82 = .ok (.invokestatic 176, 3) := by decide +kernel
theorem dX6_bestBays_85 : decode cX6_bestBays 85 = .ok (.iload_n 2, 1) := by decide +kernel
theorem dX6_bestBays_86 : decode cX6_bestBays 86 = .ok (.invokestatic 176, 3) := by decide +kernel
theorem dX6_bestBays_89 : decode cX6_bestBays 89 = .ok (.if_icmp .ge 9, 3) := by decide +kernel
theorem dX6_bestBays_92 : decode cX6_bestBays 92 = .ok (.iload 4, 2) := by decide +kernel
theorem dX6_bestBays_94 : decode cX6_bestBays 94 = .ok (.istore_n 2, 1) := by decide +kernel
theorem dX6_bestBays_95 : decode cX6_bestBays 95 = .ok (.iload 5, 2) := by decide +kernel
theorem dX6_bestBays_97 : decode cX6_bestBays 97 = .ok (.istore_n 3, 1) := by decide +kernel
theorem dX6_bestBays_98 : decode cX6_bestBays 98 = .ok (.iinc 4 1, 3) := by decide +kernel
theorem dX6_bestBays_101 : decode cX6_bestBays 101 = .ok (.goto (-84), 3) := by decide +kernel
theorem dX6_bestBays_104 : decode cX6_bestBays 104 = .ok (.iload_n 2, 1) := by decide +kernel
theorem dX6_bestBays_105 : decode cX6_bestBays 105 = .ok (.ireturn, 1) := by decide +kernel
theorem dX6_bestBayTime_0 : decode cX6_bestBayTime 0 = .ok (.aload_n 0, 1) := by decide +kernel
theorem dX6_bestBayTime_1 : decode cX6_bestBayTime 1 = .ok (.invokevirtual 181, 3) := by decide +kernel
theorem dX6_bestBayTime_4 : decode cX6_bestBayTime 4 = .ok (.istore_n 1, 1) := by decide +kernel
theorem dX6_bestBayTime_5 : decode cX6_bestBayTime 5 = .ok (.iload_n 1, 1) := by decide +kernel
theorem dX6_bestBayTime_6 : decode cX6_bestBayTime 6 = .ok (.ifCond .ge 5, 3) := by decide +kernel
theorem dX6_bestBayTime_9 : decode cX6_bestBayTime 9 = .ok (.iconst (-1), 1) := by decide +kernel
theorem dX6_bestBayTime_10 : decode cX6_bestBayTime 10 = .ok (.ireturn, 1) := by decide +kernel
theorem dX6_bestBayTime_11 : decode cX6_bestBayTime 11 = .ok (.aload_n 0, 1) := by decide +kernel
theorem dX6_bestBayTime_12 : decode cX6_bestBayTime 12 = .ok (.getfield 35, 3) := by decide +kernel
theorem dX6_bestBayTime_15 : decode cX6_bestBayTime 15 = .ok (.aload_n 0, 1) := by decide +kernel
theorem dX6_bestBayTime_16 : decode cX6_bestBayTime 16 = .ok (.getfield 31, 3) := by decide +kernel
theorem dX6_bestBayTime_19 : decode cX6_bestBayTime 19 = .ok (.invokevirtual 79, 3) := by decide +kernel
theorem dX6_bestBayTime_22 : decode cX6_bestBayTime 22 = .ok (.aload_n 0, 1) := by decide +kernel
theorem dX6_bestBayTime_23 : decode cX6_bestBayTime 23 = .ok (.getfield 35, 3) := by decide +kernel
theorem dX6_bestBayTime_26 : decode cX6_bestBayTime 26 = .ok (.iload_n 1, 1) := by decide +kernel
theorem dX6_bestBayTime_27 : decode cX6_bestBayTime 27 = .ok (.invokevirtual 173, 3) := by decide +kernel
theorem dX6_bestBayTime_30 : decode cX6_bestBayTime 30 = .ok (.aload_n 0, 1) := by decide +kernel
theorem dX6_bestBayTime_31 : decode cX6_bestBayTime 31 = .ok (.getfield 35, 3) := by decide +kernel
theorem dX6_bestBayTime_34 : decode cX6_bestBayTime 34 = .ok (.sipush 200, 3) := by decide +kernel
theorem dX6_bestBayTime_37 : decode cX6_bestBayTime 37 = .ok (.invokevirtual 166, 3) := by decide +kernel
theorem dX6_bestBayTime_40 : decode cX6_bestBayTime 40 = .ok (.ireturn, 1) := by decide +kernel
theorem dX6_exposureWith_0 : decode cX6_exposureWith 0 = .ok (.iload_n 1, 1) := by decide +kernel
theorem dX6_exposureWith_1 : decode cX6_exposureWith 1 = .ok (.bipush (-10), 2) := by decide +kernel
theorem dX6_exposureWith_3 : decode cX6_exposureWith 3 = .ok (.if_icmp .lt 9, 3) := by decide +kernel
theorem dX6_exposureWith_6 : decode cX6_exposureWith 6 = .ok (.iload_n 1, 1) := by decide +kernel
theorem dX6_exposureWith_7 : decode cX6_exposureWith 7 = .ok (.bipush 10, 2) := by decide +kernel
theorem dX6_exposureWith_9 : decode cX6_exposureWith 9 = .ok (.if_icmp .le 13, 3) := by decide +kernel
theorem dX6_exposureWith_12 : decode cX6_exposureWith 12 = .ok (.new 55, 3) := by decide +kernel
theorem dX6_exposureWith_15 : decode cX6_exposureWith 15 = .ok (.dup, 1) := by decide +kernel
theorem dX6_exposureWith_16 : decode cX6_exposureWith 16 = .ok (.ldc 184, 2) := by decide +kernel
theorem dX6_exposureWith_18 : decode cX6_exposureWith 18 = .ok (.invokespecial 59, 3) := by decide +kernel
theorem dX6_exposureWith_21 : decode cX6_exposureWith 21 = .ok (.athrow, 1) := by decide +kernel
theorem dX6_exposureWith_22 : decode cX6_exposureWith 22 = .ok (.iload_n 2, 1) := by decide +kernel
theorem dX6_exposureWith_23 : decode cX6_exposureWith 23 = .ok (.ifCond .lt 9, 3) := by decide +kernel
theorem dX6_exposureWith_26 : decode cX6_exposureWith 26 = .ok (.iload_n 2, 1) := by decide +kernel
theorem dX6_exposureWith_27 : decode cX6_exposureWith 27 = .ok (.bipush 60, 2) := by decide +kernel
theorem dX6_exposureWith_29 : decode cX6_exposureWith 29 = .ok (.if_icmp .le 13, 3) := by decide +kernel
theorem dX6_exposureWith_32 : decode cX6_exposureWith 32 = .ok (.new 55, 3) := by decide +kernel
theorem dX6_exposureWith_35 : decode cX6_exposureWith 35 = .ok (.dup, 1) := by decide +kernel
theorem dX6_exposureWith_36 : decode cX6_exposureWith 36 = .ok (.ldc 186, 2) := by decide +kernel
theorem dX6_exposureWith_38 : decode cX6_exposureWith 38 = .ok (.invokespecial 59, 3) := by decide +kernel
theorem dX6_exposureWith_41 : decode cX6_exposureWith 41 = .ok (.athrow, 1) := by decide +kernel
theorem dX6_exposureWith_42 : decode cX6_exposureWith 42 = .ok (.aload_n 0, 1) := by decide +kernel
theorem dX6_exposureWith_43 : decode cX6_exposureWith 43 = .ok (.getfield 35, 3) := by decide +kernel
theorem dX6_exposureWith_46 : decode cX6_exposureWith 46 = .ok (.aload_n 0, 1) := by decide +kernel
theorem dX6_exposureWith_47 : decode cX6_exposureWith 47 = .ok (.getfield 31, 3) := by decide +kernel
theorem dX6_exposureWith_50 : decode cX6_exposureWith 50 = .ok (.invokevirtual 79, 3) := by decide +kernel
theorem dX6_exposureWith_53 : decode cX6_exposureWith 53 = .ok (.aload_n 0, 1) := by decide +kernel
theorem dX6_exposureWith_54 : decode cX6_exposureWith 54 = .ok (.getfield 35, 3) := by decide +kernel
theorem dX6_exposureWith_57 : decode cX6_exposureWith 57 = .ok (.iload_n 1, 1) := by decide +kernel
theorem dX6_exposureWith_58 : decode cX6_exposureWith 58 = .ok (.invokevirtual 188, 3) := by decide +kernel
theorem dX6_exposureWith_61 : decode cX6_exposureWith 61 = .ok (.aload_n 0, 1) := by decide +kernel
theorem dX6_exposureWith_62 : decode cX6_exposureWith 62 = .ok (.getfield 35, 3) := by decide +kernel
theorem dX6_exposureWith_65 : decode cX6_exposureWith 65 = .ok (.iload_n 2, 1) := by decide +kernel
theorem dX6_exposureWith_66 : decode cX6_exposureWith 66 = .ok (.invokevirtual 191, 3) := by decide +kernel
theorem dX6_exposureWith_69 : decode cX6_exposureWith 69 = .ok (.lreturn, 1) := by decide +kernel
theorem dX6_bestSetting_0 : decode cX6_bestSetting 0 = .ok (.iload_n 1, 1) := by decide +kernel
theorem dX6_bestSetting_1 : decode cX6_bestSetting 1 = .ok (.ifCond .lt 9, 3) := by decide +kernel
theorem dX6_bestSetting_4 : decode cX6_bestSetting 4 = .ok (.iload_n 1, 1) := by decide +kernel
theorem dX6_bestSetting_5 : decode cX6_bestSetting 5 = .ok (.bipush 60, 2) := by decide +kernel
theorem dX6_bestSetting_7 : decode cX6_bestSetting 7 = .ok (.if_icmp .le 13, 3) := by decide +kernel
theorem dX6_bestSetting_10 : decode cX6_bestSetting 10 = .ok (.new 55, 3) := by decide +kernel
theorem dX6_bestSetting_13 : decode cX6_bestSetting 13 = .ok (.dup, 1) := by decide +kernel
theorem dX6_bestSetting_14 : decode cX6_bestSetting 14 = .ok (.ldc 186, 2) := by decide +kernel
theorem dX6_bestSetting_16 : decode cX6_bestSetting 16 = .ok (.invokespecial 59, 3) := by decide +kernel
theorem dX6_bestSetting_19 : decode cX6_bestSetting 19 = .ok (.athrow, 1) := by decide +kernel
theorem dX6_bestSetting_20 : decode cX6_bestSetting 20 = .ok (.iconst 0, 1) := by decide +kernel
theorem dX6_bestSetting_21 : decode cX6_bestSetting 21 = .ok (.istore_n 2, 1) := by decide +kernel
theorem dX6_bestSetting_22 : decode cX6_bestSetting 22 = .ok (.aload_n 0, 1) := by decide +kernel
theorem dX6_bestSetting_23 : decode cX6_bestSetting 23 = .ok (.iconst 0, 1) := by decide +kernel
theorem dX6_bestSetting_24 : decode cX6_bestSetting 24 = .ok (.iload_n 1, 1) := by decide +kernel
theorem dX6_bestSetting_25 : decode cX6_bestSetting 25 = .ok (.invokevirtual 195, 3) := by decide +kernel
theorem dX6_bestSetting_28 : decode cX6_bestSetting 28 = .ok (.lstore_n 3, 1) := by decide +kernel
theorem dX6_bestSetting_29 : decode cX6_bestSetting 29 = .ok (.iconst 1, 1) := by decide +kernel
theorem dX6_bestSetting_30 : decode cX6_bestSetting 30 = .ok (.istore 5, 2) := by decide +kernel
theorem dX6_bestSetting_32 : decode cX6_bestSetting 32 = .ok (.iload 5, 2) := by decide +kernel
theorem dX6_bestSetting_34 : decode cX6_bestSetting 34 = .ok (.bipush 10, 2) := by decide +kernel
theorem dX6_bestSetting_36 : decode cX6_bestSetting 36 = .ok (.if_icmp .gt 55, 3) := by decide +kernel
theorem dX6_bestSetting_39 : decode cX6_bestSetting 39 = .ok (.aload_n 0, 1) := by decide +kernel
theorem dX6_bestSetting_40 : decode cX6_bestSetting 40 = .ok (.iload 5, 2) := by decide +kernel
theorem dX6_bestSetting_42 : decode cX6_bestSetting 42 = .ok (.iload_n 1, 1) := by decide +kernel
theorem dX6_bestSetting_43 : decode cX6_bestSetting 43 = .ok (.invokevirtual 195, 3) := by decide +kernel
theorem dX6_bestSetting_46 : decode cX6_bestSetting 46 = .ok (.lstore 6, 2) := by decide +kernel
theorem dX6_bestSetting_48 : decode cX6_bestSetting 48 = .ok (.lload 6, 2) := by decide +kernel
theorem dX6_bestSetting_50 : decode cX6_bestSetting 50 = .ok (.lload_n 3, 1) := by decide +kernel
theorem dX6_bestSetting_51 : decode cX6_bestSetting 51 = .ok (.lcmp, 1) := by decide +kernel
theorem dX6_bestSetting_52 : decode cX6_bestSetting 52 = .ok (.ifCond .ge 9, 3) := by decide +kernel
theorem dX6_bestSetting_55 : decode cX6_bestSetting 55 = .ok (.lload 6, 2) := by decide +kernel
theorem dX6_bestSetting_57 : decode cX6_bestSetting 57 = .ok (.lstore_n 3, 1) := by decide +kernel
theorem dX6_bestSetting_58 : decode cX6_bestSetting 58 = .ok (.iload 5, 2) := by decide +kernel
theorem dX6_bestSetting_60 : decode cX6_bestSetting 60 = .ok (.istore_n 2, 1) := by decide +kernel
theorem dX6_bestSetting_61 : decode cX6_bestSetting 61 = .ok (.aload_n 0, 1) := by decide +kernel
theorem dX6_bestSetting_62 : decode cX6_bestSetting 62 = .ok (.iload 5, 2) := by decide +kernel
theorem dX6_bestSetting_64 : decode cX6_bestSetting 64 = .ok (.ineg, 1) := by decide +kernel
theorem dX6_bestSetting_65 : decode cX6_bestSetting 65 = .ok (.iload_n 1, 1) := by decide +kernel
theorem dX6_bestSetting_66 : decode cX6_bestSetting 66 = .ok (.invokevirtual 195, 3) := by decide +kernel
theorem dX6_bestSetting_69 : decode cX6_bestSetting 69 = .ok (.lstore 8, 2) := by decide +kernel
theorem dX6_bestSetting_71 : decode cX6_bestSetting 71 = .ok (.lload 8, 2) := by decide +kernel
theorem dX6_bestSetting_73 : decode cX6_bestSetting 73 = .ok (.lload_n 3, 1) := by decide +kernel
theorem dX6_bestSetting_74 : decode cX6_bestSetting 74 = .ok (.lcmp, 1) := by decide +kernel
theorem dX6_bestSetting_75 : decode cX6_bestSetting 75 = .ok (.ifCond .ge 10, 3) := by decide +kernel
theorem dX6_bestSetting_78 : decode cX6_bestSetting 78 = .ok (.lload 8, 2) := by decide +kernel
theorem dX6_bestSetting_80 : decode cX6_bestSetting 80 = .ok (.lstore_n 3, 1) := by decide +kernel
theorem dX6_bestSetting_81 : decode cX6_bestSetting 81 = .ok (.iload 5, 2) := by decide +kernel
theorem dX6_bestSetting_83 : decode cX6_bestSetting 83 = .ok (.ineg, 1) := by decide +kernel
theorem dX6_bestSetting_84 : decode cX6_bestSetting 84 = .ok (.istore_n 2, 1) := by decide +kernel
theorem dX6_bestSetting_85 : decode cX6_bestSetting 85 = .ok (.iinc 5 1, 3) := by decide +kernel
theorem dX6_bestSetting_88 : decode cX6_bestSetting 88 = .ok (.goto (-56), 3) := by decide +kernel
theorem dX6_bestSetting_91 : decode cX6_bestSetting 91 = .ok (.iload_n 2, 1) := by decide +kernel
theorem dX6_bestSetting_92 : decode cX6_bestSetting 92 = .ok (.ireturn, 1) := by decide +kernel
theorem dX6_run_0 : decode cX6_run 0 = .ok (.iload_n 1, 1) := by decide +kernel
theorem dX6_run_1 : decode cX6_run 1 = .ok (.iconst 1, 1) := by decide +kernel
theorem dX6_run_2 : decode cX6_run 2 = .ok (.if_icmp .lt 9, 3) := by decide +kernel
theorem dX6_run_5 : decode cX6_run 5 = .ok (.iload_n 1, 1) := by decide +kernel
theorem dX6_run_6 : decode cX6_run 6 = .ok (.bipush 100, 2) := by decide +kernel
theorem dX6_run_8 : decode cX6_run 8 = .ok (.if_icmp .le 13, 3) := by decide +kernel
theorem dX6_run_11 : decode cX6_run 11 = .ok (.new 55, 3) := by decide +kernel
theorem dX6_run_14 : decode cX6_run 14 = .ok (.dup, 1) := by decide +kernel
theorem dX6_run_15 : decode cX6_run 15 = .ok (.ldc 199, 2) := by decide +kernel
theorem dX6_run_17 : decode cX6_run 17 = .ok (.invokespecial 59, 3) := by decide +kernel
theorem dX6_run_20 : decode cX6_run 20 = .ok (.athrow, 1) := by decide +kernel
theorem dX6_run_21 : decode cX6_run 21 = .ok (.aload_n 0, 1) := by decide +kernel
theorem dX6_run_22 : decode cX6_run 22 = .ok (.getfield 31, 3) := by decide +kernel
theorem dX6_run_25 : decode cX6_run 25 = .ok (.getfield 82, 3) := by decide +kernel
theorem dX6_run_28 : decode cX6_run 28 = .ok (.getfield 89, 3) := by decide +kernel
theorem dX6_run_31 : decode cX6_run 31 = .ok (.ifCond .ne 13, 3) := by decide +kernel
theorem dX6_run_34 : decode cX6_run 34 = .ok (.new 201, 3) := by decide +kernel
theorem dX6_run_37 : decode cX6_run 37 = .ok (.dup, 1) := by decide +kernel
theorem dX6_run_38 : decode cX6_run 38 = .ok (.ldc 203, 2) := by decide +kernel
theorem dX6_run_40 : decode cX6_run 40 = .ok (.invokespecial 205, 3) := by decide +kernel
theorem dX6_run_43 : decode cX6_run 43 = .ok (.athrow, 1) := by decide +kernel
theorem dX6_run_44 : decode cX6_run 44 = .ok (.aload_n 0, 1) := by decide +kernel
theorem dX6_run_45 : decode cX6_run 45 = .ok (.getfield 31, 3) := by decide +kernel
theorem dX6_run_48 : decode cX6_run 48 = .ok (.getfield 92, 3) := by decide +kernel
theorem dX6_run_51 : decode cX6_run 51 = .ok (.iload_n 1, 1) := by decide +kernel
theorem dX6_run_52 : decode cX6_run 52 = .ok (.iadd, 1) := by decide +kernel
theorem dX6_run_53 : decode cX6_run 53 = .ok (.sipush 10000, 3) := by decide +kernel
theorem dX6_run_56 : decode cX6_run 56 = .ok (.if_icmp .le 13, 3) := by decide +kernel
theorem dX6_run_59 : decode cX6_run 59 = .ok (.new 201, 3) := by decide +kernel
theorem dX6_run_62 : decode cX6_run 62 = .ok (.dup, 1) := by decide +kernel
theorem dX6_run_63 : decode cX6_run 63 = .ok (.ldc 206, 2) := by decide +kernel
theorem dX6_run_65 : decode cX6_run 65 = .ok (.invokespecial 205, 3) := by decide +kernel
theorem dX6_run_68 : decode cX6_run 68 = .ok (.athrow, 1) := by decide +kernel
theorem dX6_run_69 : decode cX6_run 69 = .ok (.aload_n 0, 1) := by decide +kernel
theorem dX6_run_70 : decode cX6_run 70 = .ok (.getfield 24, 3) := by decide +kernel
theorem dX6_run_73 : decode cX6_run 73 = .ok (.aload_n 0, 1) := by decide +kernel
theorem dX6_run_74 : decode cX6_run 74 = .ok (.getfield 31, 3) := by decide +kernel
theorem dX6_run_77 : decode cX6_run 77 = .ok (.invokevirtual 72, 3) := by decide +kernel
theorem dX6_run_80 : decode cX6_run 80 = .ok (.aload_n 0, 1) := by decide +kernel
theorem dX6_run_81 : decode cX6_run 81 = .ok (.getfield 31, 3) := by decide +kernel
theorem dX6_run_84 : decode cX6_run 84 = .ok (.getfield 161, 3) := by decide +kernel
theorem dX6_run_87 : decode cX6_run 87 = .ok (.istore_n 2, 1) := by decide +kernel
theorem dX6_run_88 : decode cX6_run 88 = .ok (.iconst 0, 1) := by decide +kernel
theorem dX6_run_89 : decode cX6_run 89 = .ok (.istore_n 3, 1) := by decide +kernel
theorem dX6_run_90 : decode cX6_run 90 = .ok (.iload_n 3, 1) := by decide +kernel
theorem dX6_run_91 : decode cX6_run 91 = .ok (.iload_n 1, 1) := by decide +kernel
theorem dX6_run_92 : decode cX6_run 92 = .ok (.if_icmp .ge 16, 3) := by decide +kernel
theorem dX6_run_95 : decode cX6_run 95 = .ok (.aload_n 0, 1) := by decide +kernel
theorem dX6_run_96 : decode cX6_run 96 = .ok (.getfield 31, 3) := by decide +kernel
theorem dX6_run_99 : decode cX6_run 99 = .ok (.invokevirtual 208, 3) := by decide +kernel
theorem dX6_run_102 : decode cX6_run 102 = .ok (.iinc 3 1, 3) := by decide +kernel
theorem dX6_run_105 : decode cX6_run 105 = .ok (.goto (-15), 3) := by decide +kernel
theorem dX6_run_108 : decode cX6_run 108 = .ok (.iload_n 2, 1) := by decide +kernel
theorem dX6_run_109 : decode cX6_run 109 = .ok (.aload_n 0, 1) := by decide +kernel
theorem dX6_run_110 : decode cX6_run 110 = .ok (.getfield 31, 3) := by decide +kernel
theorem dX6_run_113 : decode cX6_run 113 = .ok (.getfield 161, 3) := by decide +kernel
theorem dX6_run_116 : decode cX6_run 116 = .ok (.isub, 1) := by decide +kernel
theorem dX6_run_117 : decode cX6_run 117 = .ok (.ireturn, 1) := by decide +kernel
theorem dX6_setFan_0 : decode cX6_setFan 0 = .ok (.aload_n 0, 1) := by decide +kernel
theorem dX6_setFan_1 : decode cX6_setFan 1 = .ok (.iload_n 1, 1) := by decide +kernel
theorem dX6_setFan_2 : decode cX6_setFan 2 = .ok (.invokevirtual 105, 3) := by decide +kernel
theorem dX6_setFan_5 : decode cX6_setFan 5 = .ok (.iload_n 2, 1) := by decide +kernel
theorem dX6_setFan_6 : decode cX6_setFan 6 = .ok (.bipush (-10), 2) := by decide +kernel
theorem dX6_setFan_8 : decode cX6_setFan 8 = .ok (.if_icmp .lt 9, 3) := by decide +kernel
theorem dX6_setFan_11 : decode cX6_setFan 11 = .ok (.iload_n 2, 1) := by decide +kernel
theorem dX6_setFan_12 : decode cX6_setFan 12 = .ok (.bipush 10, 2) := by decide +kernel
theorem dX6_setFan_14 : decode cX6_setFan 14 = .ok (.if_icmp .le 13, 3) := by decide +kernel
theorem dX6_setFan_17 : decode cX6_setFan 17 = .ok (.new 55, 3) := by decide +kernel
theorem dX6_setFan_20 : decode cX6_setFan 20 = .ok (.dup, 1) := by decide +kernel
theorem dX6_setFan_21 : decode cX6_setFan 21 = .ok (.ldc 184, 2) := by decide +kernel
theorem dX6_setFan_23 : decode cX6_setFan 23 = .ok (.invokespecial 59, 3) := by decide +kernel
theorem dX6_setFan_26 : decode cX6_setFan 26 = .ok (.athrow, 1) := by decide +kernel
theorem dX6_setFan_27 : decode cX6_setFan 27 = .ok (.aload_n 0, 1) := by decide +kernel
theorem dX6_setFan_28 : decode cX6_setFan 28 = .ok (.iload_n 1, 1) := by decide +kernel
theorem dX6_setFan_29 : decode cX6_setFan 29 = .ok (.invokevirtual 125, 3) := by decide +kernel
theorem dX6_setFan_32 : decode cX6_setFan 32 = .ok (.aload_n 0, 1) := by decide +kernel
theorem dX6_setFan_33 : decode cX6_setFan 33 = .ok (.getfield 24, 3) := by decide +kernel
theorem dX6_setFan_36 : decode cX6_setFan 36 = .ok (.aload_n 0, 1) := by decide +kernel
theorem dX6_setFan_37 : decode cX6_setFan 37 = .ok (.getfield 31, 3) := by decide +kernel
theorem dX6_setFan_40 : decode cX6_setFan 40 = .ok (.invokevirtual 72, 3) := by decide +kernel
theorem dX6_setFan_43 : decode cX6_setFan 43 = .ok (.aload_n 0, 1) := by decide +kernel
theorem dX6_setFan_44 : decode cX6_setFan 44 = .ok (.getfield 31, 3) := by decide +kernel
theorem dX6_setFan_47 : decode cX6_setFan 47 = .ok (.getfield 128, 3) := by decide +kernel
theorem dX6_setFan_50 : decode cX6_setFan 50 = .ok (.iload_n 1, 1) := by decide +kernel
theorem dX6_setFan_51 : decode cX6_setFan 51 = .ok (.iload_n 2, 1) := by decide +kernel
theorem dX6_setFan_52 : decode cX6_setFan 52 = .ok (.iastore, 1) := by decide +kernel
theorem dX6_setFan_53 : decode cX6_setFan 53 = .ok (.aload_n 0, 1) := by decide +kernel
theorem dX6_setFan_54 : decode cX6_setFan 54 = .ok (.getfield 31, 3) := by decide +kernel
theorem dX6_setFan_57 : decode cX6_setFan 57 = .ok (.invokevirtual 95, 3) := by decide +kernel
theorem dX6_setFan_60 : decode cX6_setFan 60 = .ok (.ireturn, 1) := by decide +kernel
theorem dX6_setFire_0 : decode cX6_setFire 0 = .ok (.iload_n 1, 1) := by decide +kernel
theorem dX6_setFire_1 : decode cX6_setFire 1 = .ok (.iconst (-1), 1) := by decide +kernel
theorem dX6_setFire_2 : decode cX6_setFire 2 = .ok (.if_icmp .eq 8, 3) := by decide +kernel
theorem dX6_setFire_5 : decode cX6_setFire 5 = .ok (.aload_n 0, 1) := by decide +kernel
theorem dX6_setFire_6 : decode cX6_setFire 6 = .ok (.iload_n 1, 1) := by decide +kernel
theorem dX6_setFire_7 : decode cX6_setFire 7 = .ok (.invokevirtual 105, 3) := by decide +kernel
theorem dX6_setFire_10 : decode cX6_setFire 10 = .ok (.aload_n 0, 1) := by decide +kernel
theorem dX6_setFire_11 : decode cX6_setFire 11 = .ok (.getfield 24, 3) := by decide +kernel
theorem dX6_setFire_14 : decode cX6_setFire 14 = .ok (.aload_n 0, 1) := by decide +kernel
theorem dX6_setFire_15 : decode cX6_setFire 15 = .ok (.getfield 31, 3) := by decide +kernel
theorem dX6_setFire_18 : decode cX6_setFire 18 = .ok (.invokevirtual 72, 3) := by decide +kernel
theorem dX6_setFire_21 : decode cX6_setFire 21 = .ok (.aload_n 0, 1) := by decide +kernel
theorem dX6_setFire_22 : decode cX6_setFire 22 = .ok (.getfield 31, 3) := by decide +kernel
theorem dX6_setFire_25 : decode cX6_setFire 25 = .ok (.getfield 102, 3) := by decide +kernel
theorem dX6_setFire_28 : decode cX6_setFire 28 = .ok (.istore_n 2, 1) := by decide +kernel
theorem dX6_setFire_29 : decode cX6_setFire 29 = .ok (.aload_n 0, 1) := by decide +kernel
theorem dX6_setFire_30 : decode cX6_setFire 30 = .ok (.getfield 31, 3) := by decide +kernel
theorem dX6_setFire_33 : decode cX6_setFire 33 = .ok (.iload_n 1, 1) := by decide +kernel
theorem dX6_setFire_34 : decode cX6_setFire 34 = .ok (.putfield 102, 3) := by decide +kernel
theorem dX6_setFire_37 : decode cX6_setFire 37 = .ok (.iload_n 2, 1) := by decide +kernel
theorem dX6_setFire_38 : decode cX6_setFire 38 = .ok (.ireturn, 1) := by decide +kernel
theorem dX6_setSignal_0 : decode cX6_setSignal 0 = .ok (.aload_n 0, 1) := by decide +kernel
theorem dX6_setSignal_1 : decode cX6_setSignal 1 = .ok (.iload_n 1, 1) := by decide +kernel
theorem dX6_setSignal_2 : decode cX6_setSignal 2 = .ok (.invokevirtual 105, 3) := by decide +kernel
theorem dX6_setSignal_5 : decode cX6_setSignal 5 = .ok (.iload_n 2, 1) := by decide +kernel
theorem dX6_setSignal_6 : decode cX6_setSignal 6 = .ok (.invokestatic 135, 3) := by decide +kernel
theorem dX6_setSignal_9 : decode cX6_setSignal 9 = .ok (.aload_n 0, 1) := by decide +kernel
theorem dX6_setSignal_10 : decode cX6_setSignal 10 = .ok (.getfield 24, 3) := by decide +kernel
theorem dX6_setSignal_13 : decode cX6_setSignal 13 = .ok (.aload_n 0, 1) := by decide +kernel
theorem dX6_setSignal_14 : decode cX6_setSignal 14 = .ok (.getfield 31, 3) := by decide +kernel
theorem dX6_setSignal_17 : decode cX6_setSignal 17 = .ok (.invokevirtual 72, 3) := by decide +kernel
theorem dX6_setSignal_20 : decode cX6_setSignal 20 = .ok (.iload_n 1, 1) := by decide +kernel
theorem dX6_setSignal_21 : decode cX6_setSignal 21 = .ok (.iload_n 2, 1) := by decide +kernel
theorem dX6_setSignal_22 : decode cX6_setSignal 22 = .ok (.invokestatic 142, 3) := by decide +kernel
theorem dX6_setSignal_25 : decode cX6_setSignal 25 = .ok (.istore 4, 2) := by decide +kernel
theorem dX6_setSignal_27 : decode cX6_setSignal 27 = .ok (.aload_n 0, 1) := by decide +kernel
theorem dX6_setSignal_28 : decode cX6_setSignal 28 = .ok (.getfield 31, 3) := by decide +kernel
theorem dX6_setSignal_31 : decode cX6_setSignal 31 = .ok (.getfield 138, 3) := by decide +kernel
theorem dX6_setSignal_34 : decode cX6_setSignal 34 = .ok (.iload 4, 2) := by decide +kernel
theorem dX6_setSignal_36 : decode cX6_setSignal 36 = .ok (.baload, 1) := by decide +kernel
theorem dX6_setSignal_37 : decode cX6_setSignal 37 = .ok (.istore 5, 2) := by decide +kernel
theorem dX6_setSignal_39 : decode cX6_setSignal 39 = .ok (.aload_n 0, 1) := by decide +kernel
theorem dX6_setSignal_40 : decode cX6_setSignal 40 = .ok (.getfield 31, 3) := by decide +kernel
theorem dX6_setSignal_43 : decode cX6_setSignal 43 = .ok (.getfield 138, 3) := by decide +kernel
theorem dX6_setSignal_46 : decode cX6_setSignal 46 = .ok (.iload 4, 2) := by decide +kernel
theorem dX6_setSignal_48 : decode cX6_setSignal 48 = .ok (.iload_n 3, 1) := by decide +kernel
theorem dX6_setSignal_49 : decode cX6_setSignal 49 = .ok (.bastore, 1) := by decide +kernel
theorem dX6_setSignal_50 : decode cX6_setSignal 50 = .ok (.iload 5, 2) := by decide +kernel
theorem dX6_setSignal_52 : decode cX6_setSignal 52 = .ok (.ireturn, 1) := by decide +kernel
theorem dX6_setBay_0 : decode cX6_setBay 0 = .ok (.aload_n 0, 1) := by decide +kernel
theorem dX6_setBay_1 : decode cX6_setBay 1 = .ok (.iload_n 1, 1) := by decide +kernel
theorem dX6_setBay_2 : decode cX6_setBay 2 = .ok (.invokevirtual 105, 3) := by decide +kernel
theorem dX6_setBay_5 : decode cX6_setBay 5 = .ok (.aload_n 0, 1) := by decide +kernel
theorem dX6_setBay_6 : decode cX6_setBay 6 = .ok (.getfield 31, 3) := by decide +kernel
theorem dX6_setBay_9 : decode cX6_setBay 9 = .ok (.getfield 132, 3) := by decide +kernel
theorem dX6_setBay_12 : decode cX6_setBay 12 = .ok (.iload_n 1, 1) := by decide +kernel
theorem dX6_setBay_13 : decode cX6_setBay 13 = .ok (.iaload, 1) := by decide +kernel
theorem dX6_setBay_14 : decode cX6_setBay 14 = .ok (.iconst (-1), 1) := by decide +kernel
theorem dX6_setBay_15 : decode cX6_setBay 15 = .ok (.if_icmp .ne 13, 3) := by decide +kernel
theorem dX6_setBay_18 : decode cX6_setBay 18 = .ok (.new 201, 3) := by decide +kernel
theorem dX6_setBay_21 : decode cX6_setBay 21 = .ok (.dup, 1) := by decide +kernel
theorem dX6_setBay_22 : decode cX6_setBay 22 = .ok (.ldc 211, 2) := by decide +kernel
theorem dX6_setBay_24 : decode cX6_setBay 24 = .ok (.invokespecial 205, 3) := by decide +kernel
theorem dX6_setBay_27 : decode cX6_setBay 27 = .ok (.athrow, 1) := by decide +kernel
theorem dX6_setBay_28 : decode cX6_setBay 28 = .ok (.aload_n 0, 1) := by decide +kernel
theorem dX6_setBay_29 : decode cX6_setBay 29 = .ok (.getfield 24, 3) := by decide +kernel
theorem dX6_setBay_32 : decode cX6_setBay 32 = .ok (.aload_n 0, 1) := by decide +kernel
theorem dX6_setBay_33 : decode cX6_setBay 33 = .ok (.getfield 31, 3) := by decide +kernel
theorem dX6_setBay_36 : decode cX6_setBay 36 = .ok (.invokevirtual 72, 3) := by decide +kernel
theorem dX6_setBay_39 : decode cX6_setBay 39 = .ok (.aload_n 0, 1) := by decide +kernel
theorem dX6_setBay_40 : decode cX6_setBay 40 = .ok (.getfield 31, 3) := by decide +kernel
theorem dX6_setBay_43 : decode cX6_setBay 43 = .ok (.getfield 132, 3) := by decide +kernel
theorem dX6_setBay_46 : decode cX6_setBay 46 = .ok (.iload_n 1, 1) := by decide +kernel
theorem dX6_setBay_47 : decode cX6_setBay 47 = .ok (.iaload, 1) := by decide +kernel
theorem dX6_setBay_48 : decode cX6_setBay 48 = .ok (.iconst 1, 1) := by decide +kernel
theorem dX6_setBay_49 : decode cX6_setBay 49 = .ok (.if_icmp .ne 7, 3) := by decide +kernel
theorem dX6_setBay_52 : decode cX6_setBay 52 = .ok (.iconst 1, 1) := by decide +kernel
theorem dX6_setBay_53 : decode cX6_setBay 53 = .ok (.goto 4, 3) := by decide +kernel
theorem dX6_setBay_56 : decode cX6_setBay 56 = .ok (.iconst 0, 1) := by decide +kernel
theorem dX6_setBay_57 : decode cX6_setBay 57 = .ok (.istore_n 3, 1) := by decide +kernel
theorem dX6_setBay_58 : decode cX6_setBay 58 = .ok (.aload_n 0, 1) := by decide +kernel
theorem dX6_setBay_59 : decode cX6_setBay 59 = .ok (.getfield 31, 3) := by decide +kernel
theorem dX6_setBay_62 : decode cX6_setBay 62 = .ok (.getfield 132, 3) := by decide +kernel
theorem dX6_setBay_65 : decode cX6_setBay 65 = .ok (.iload_n 1, 1) := by decide +kernel
theorem dX6_setBay_66 : decode cX6_setBay 66 = .ok (.iload_n 2, 1) := by decide +kernel
theorem dX6_setBay_67 : decode cX6_setBay 67 = .ok (.ifCond .eq 7, 3) := by decide +kernel
theorem dX6_setBay_70 : decode cX6_setBay 70 = .ok (.iconst 1, 1) := by decide +kernel
theorem dX6_setBay_71 : decode cX6_setBay 71 = .ok (.goto 4, 3) := by decide +kernel
theorem dX6_setBay_74 : decode cX6_setBay 74 = .ok (.iconst 0, 1) := by decide +kernel
theorem dX6_setBay_75 : decode cX6_setBay 75 = .ok (.iastore, 1) := by decide +kernel
theorem dX6_setBay_76 : decode cX6_setBay 76 = .ok (.iload_n 3, 1) := by decide +kernel
theorem dX6_setBay_77 : decode cX6_setBay 77 = .ok (.ireturn, 1) := by decide +kernel
theorem dX6_undo_0 : decode cX6_undo 0 = .ok (.aload_n 0, 1) := by decide +kernel
theorem dX6_undo_1 : decode cX6_undo 1 = .ok (.getfield 24, 3) := by decide +kernel
theorem dX6_undo_4 : decode cX6_undo 4 = .ok (.getfield 213, 3) := by decide +kernel
theorem dX6_undo_7 : decode cX6_undo 7 = .ok (.ifCond .ne 5, 3) := by decide +kernel
theorem dX6_undo_10 : decode cX6_undo 10 = .ok (.iconst (-1), 1) := by decide +kernel
theorem dX6_undo_11 : decode cX6_undo 11 = .ok (.ireturn, 1) := by decide +kernel
theorem dX6_undo_12 : decode cX6_undo 12 = .ok (.aload_n 0, 1) := by decide +kernel
theorem dX6_undo_13 : decode cX6_undo 13 = .ok (.getfield 24, 3) := by decide +kernel
theorem dX6_undo_16 : decode cX6_undo 16 = .ok (.aload_n 0, 1) := by decide +kernel
theorem dX6_undo_17 : decode cX6_undo 17 = .ok (.getfield 31, 3) := by decide +kernel
theorem dX6_undo_20 : decode cX6_undo 20 = .ok (.invokevirtual 216, 3) := by decide +kernel
theorem dX6_undo_23 : decode cX6_undo 23 = .ok (.aload_n 0, 1) := by decide +kernel
theorem dX6_undo_24 : decode cX6_undo 24 = .ok (.getfield 24, 3) := by decide +kernel
theorem dX6_undo_27 : decode cX6_undo 27 = .ok (.getfield 213, 3) := by decide +kernel
theorem dX6_undo_30 : decode cX6_undo 30 = .ok (.ireturn, 1) := by decide +kernel
theorem dX6_checksum_0 : decode cX6_checksum 0 = .ok (.aload_n 0, 1) := by decide +kernel
theorem dX6_checksum_1 : decode cX6_checksum 1 = .ok (.getfield 31, 3) := by decide +kernel
theorem dX6_checksum_4 : decode cX6_checksum 4 = .ok (.getfield 82, 3) := by decide +kernel
theorem dX6_checksum_7 : decode cX6_checksum 7 = .ok (.getfield 89, 3) := by decide +kernel
theorem dX6_checksum_10 : decode cX6_checksum 10 = .ok (.ifCond .ne 5, 3) := by decide +kernel
theorem dX6_checksum_13 : decode cX6_checksum 13 = .ok (.lconst 0, 1) := by decide +kernel
theorem dX6_checksum_14 : decode cX6_checksum 14 = .ok (.lreturn, 1) := by decide +kernel
theorem dX6_checksum_15 : decode cX6_checksum 15 = .ok (.aload_n 0, 1) := by decide +kernel
theorem dX6_checksum_16 : decode cX6_checksum 16 = .ok (.getfield 31, 3) := by decide +kernel
theorem dX6_checksum_19 : decode cX6_checksum 19 = .ok (.getfield 92, 3) := by decide +kernel
theorem dX6_checksum_22 : decode cX6_checksum 22 = .ok (.i2l, 1) := by decide +kernel
theorem dX6_checksum_23 : decode cX6_checksum 23 = .ok (.lstore_n 1, 1) := by decide +kernel
theorem dX6_checksum_24 : decode cX6_checksum 24 = .ok (.ldc2_w 219, 3) := by decide +kernel
theorem dX6_checksum_27 : decode cX6_checksum 27 = .ok (.lload_n 1, 1) := by decide +kernel
theorem dX6_checksum_28 : decode cX6_checksum 28 = .ok (.lmul, 1) := by decide +kernel
theorem dX6_checksum_29 : decode cX6_checksum 29 = .ok (.aload_n 0, 1) := by decide +kernel
theorem dX6_checksum_30 : decode cX6_checksum 30 = .ok (.getfield 31, 3) := by decide +kernel
theorem dX6_checksum_33 : decode cX6_checksum 33 = .ok (.getfield 102, 3) := by decide +kernel
theorem dX6_checksum_36 : decode cX6_checksum 36 = .ok (.i2l, 1) := by decide +kernel
theorem dX6_checksum_37 : decode cX6_checksum 37 = .ok (.ladd, 1) := by decide +kernel
theorem dX6_checksum_38 : decode cX6_checksum 38 = .ok (.lstore_n 1, 1) := by decide +kernel
theorem dX6_checksum_39 : decode cX6_checksum 39 = .ok (.iconst 0, 1) := by decide +kernel
theorem dX6_checksum_40 : decode cX6_checksum 40 = .ok (.istore_n 3, 1) := by decide +kernel
theorem dX6_checksum_41 : decode cX6_checksum 41 = .ok (.iload_n 3, 1) := by decide +kernel
theorem dX6_checksum_42 : decode cX6_checksum 42 = .ok (.aload_n 0, 1) := by decide +kernel
theorem dX6_checksum_43 : decode cX6_checksum 43 = .ok (.getfield 31, 3) := by decide +kernel
theorem dX6_checksum_46 : decode cX6_checksum 46 = .ok (.getfield 82, 3) := by decide +kernel
theorem dX6_checksum_49 : decode cX6_checksum 49 = .ok (.getfield 89, 3) := by decide +kernel
theorem dX6_checksum_52 : decode cX6_checksum 52 = .ok (.if_icmp .ge 42, 3) := by decide +kernel
theorem dX6_checksum_55 : decode cX6_checksum 55 = .ok (.ldc2_w 219, 3) := by decide +kernel
theorem dX6_checksum_58 : decode cX6_checksum 58 = .ok (.lload_n 1, 1) := by decide +kernel
theorem dX6_checksum_59 : decode cX6_checksum 59 = .ok (.lmul, 1) := by decide +kernel
theorem dX6_checksum_60 : decode cX6_checksum 60 = .ok (.aload_n 0, 1) := by decide +kernel
theorem dX6_checksum_61 : decode cX6_checksum 61 = .ok (.getfield 31, 3) := by decide +kernel
theorem dX6_checksum_64 : decode cX6_checksum 64 = .ok (.getfield 108, 3) := by decide +kernel
theorem dX6_checksum_67 : decode cX6_checksum 67 = .ok (.iload_n 3, 1) := by decide +kernel
theorem dX6_checksum_68 : decode cX6_checksum 68 = .ok (.laload, 1) := by decide +kernel
theorem dX6_checksum_69 : decode cX6_checksum 69 = .ok (.ladd, 1) := by decide +kernel
theorem dX6_checksum_70 : decode cX6_checksum 70 = .ok (.lstore_n 1, 1) := by decide +kernel
theorem dX6_checksum_71 : decode cX6_checksum 71 = .ok (.ldc2_w 219, 3) := by decide +kernel
theorem dX6_checksum_74 : decode cX6_checksum 74 = .ok (.lload_n 1, 1) := by decide +kernel
theorem dX6_checksum_75 : decode cX6_checksum 75 = .ok (.lmul, 1) := by decide +kernel
theorem dX6_checksum_76 : decode cX6_checksum 76 = .ok (.aload_n 0, 1) := by decide +kernel
theorem dX6_checksum_77 : decode cX6_checksum 77 = .ok (.getfield 31, 3) := by decide +kernel
theorem dX6_checksum_80 : decode cX6_checksum 80 = .ok (.getfield 132, 3) := by decide +kernel
theorem dX6_checksum_83 : decode cX6_checksum 83 = .ok (.iload_n 3, 1) := by decide +kernel
theorem dX6_checksum_84 : decode cX6_checksum 84 = .ok (.iaload, 1) := by decide +kernel
theorem dX6_checksum_85 : decode cX6_checksum 85 = .ok (.i2l, 1) := by decide +kernel
theorem dX6_checksum_86 : decode cX6_checksum 86 = .ok (.ladd, 1) := by decide +kernel
theorem dX6_checksum_87 : decode cX6_checksum 87 = .ok (.lstore_n 1, 1) := by decide +kernel
theorem dX6_checksum_88 : decode cX6_checksum 88 = .ok (.iinc 3 1, 3) := by decide +kernel
theorem dX6_checksum_91 : decode cX6_checksum 91 = .ok (.goto (-50), 3) := by decide +kernel
theorem dX6_checksum_94 : decode cX6_checksum 94 = .ok (.iconst 0, 1) := by decide +kernel
theorem dX6_checksum_95 : decode cX6_checksum 95 = .ok (.istore_n 3, 1) := by decide +kernel
theorem dX6_checksum_96 : decode cX6_checksum 96 = .ok (.iload_n 3, 1) := by decide +kernel
theorem dX6_checksum_97 : decode cX6_checksum 97 = .ok (.aload_n 0, 1) := by decide +kernel
theorem dX6_checksum_98 : decode cX6_checksum 98 = .ok (.getfield 31, 3) := by decide +kernel
theorem dX6_checksum_101 : decode cX6_checksum 101 = .ok (.getfield 82, 3) := by decide +kernel
theorem dX6_checksum_104 : decode cX6_checksum 104 = .ok (.getfield 86, 3) := by decide +kernel
theorem dX6_checksum_107 : decode cX6_checksum 107 = .ok (.if_icmp .ge 59, 3) := by decide +kernel
theorem dX6_checksum_110 : decode cX6_checksum 110 = .ok (.ldc2_w 219, 3) := by decide +kernel
theorem dX6_checksum_113 : decode cX6_checksum 113 = .ok (.lload_n 1, 1) := by decide +kernel
theorem dX6_checksum_114 : decode cX6_checksum 114 = .ok (.lmul, 1) := by decide +kernel
theorem dX6_checksum_115 : decode cX6_checksum 115 = .ok (.aload_n 0, 1) := by decide +kernel
theorem dX6_checksum_116 : decode cX6_checksum 116 = .ok (.getfield 31, 3) := by decide +kernel
theorem dX6_checksum_119 : decode cX6_checksum 119 = .ok (.getfield 149, 3) := by decide +kernel
theorem dX6_checksum_122 : decode cX6_checksum 122 = .ok (.iload_n 3, 1) := by decide +kernel
theorem dX6_checksum_123 : decode cX6_checksum 123 = .ok (.iaload, 1) := by decide +kernel
theorem dX6_checksum_124 : decode cX6_checksum 124 = .ok (.i2l, 1) := by decide +kernel
theorem dX6_checksum_125 : decode cX6_checksum 125 = .ok (.ladd, 1) := by decide +kernel
theorem dX6_checksum_126 : decode cX6_checksum 126 = .ok (.lstore_n 1, 1) := by decide +kernel
theorem dX6_checksum_127 : decode cX6_checksum 127 = .ok (.ldc2_w 219, 3) := by decide +kernel
theorem dX6_checksum_130 : decode cX6_checksum 130 = .ok (.lload_n 1, 1) := by decide +kernel
theorem dX6_checksum_131 : decode cX6_checksum 131 = .ok (.lmul, 1) := by decide +kernel
theorem dX6_checksum_132 : decode cX6_checksum 132 = .ok (.aload_n 0, 1) := by decide +kernel
theorem dX6_checksum_133 : decode cX6_checksum 133 = .ok (.getfield 31, 3) := by decide +kernel
theorem dX6_checksum_136 : decode cX6_checksum 136 = .ok (.getfield 152, 3) := by decide +kernel
theorem dX6_checksum_139 : decode cX6_checksum 139 = .ok (.iload_n 3, 1) := by decide +kernel
theorem dX6_checksum_140 : decode cX6_checksum 140 = .ok (.iaload, 1) := by decide +kernel
theorem dX6_checksum_141 : decode cX6_checksum 141 = .ok (.i2l, 1) := by decide +kernel
theorem dX6_checksum_142 : decode cX6_checksum 142 = .ok (.ladd, 1) := by decide +kernel
theorem dX6_checksum_143 : decode cX6_checksum 143 = .ok (.lstore_n 1, 1) := by decide +kernel
theorem dX6_checksum_144 : decode cX6_checksum 144 = .ok (.ldc2_w 219, 3) := by decide +kernel
theorem dX6_checksum_147 : decode cX6_checksum 147 = .ok (.lload_n 1, 1) := by decide +kernel
theorem dX6_checksum_148 : decode cX6_checksum 148 = .ok (.lmul, 1) := by decide +kernel
theorem dX6_checksum_149 : decode cX6_checksum 149 = .ok (.aload_n 0, 1) := by decide +kernel
theorem dX6_checksum_150 : decode cX6_checksum 150 = .ok (.getfield 31, 3) := by decide +kernel
theorem dX6_checksum_153 : decode cX6_checksum 153 = .ok (.getfield 155, 3) := by decide +kernel
theorem dX6_checksum_156 : decode cX6_checksum 156 = .ok (.iload_n 3, 1) := by decide +kernel
theorem dX6_checksum_157 : decode cX6_checksum 157 = .ok (.laload, 1) := by decide +kernel
theorem dX6_checksum_158 : decode cX6_checksum 158 = .ok (.ladd, 1) := by decide +kernel
theorem dX6_checksum_159 : decode cX6_checksum 159 = .ok (.lstore_n 1, 1) := by decide +kernel
theorem dX6_checksum_160 : decode cX6_checksum 160 = .ok (.iinc 3 1, 3) := by decide +kernel
theorem dX6_checksum_163 : decode cX6_checksum 163 = .ok (.goto (-67), 3) := by decide +kernel
theorem dX6_checksum_166 : decode cX6_checksum 166 = .ok (.ldc2_w 219, 3) := by decide +kernel
theorem dX6_checksum_169 : decode cX6_checksum 169 = .ok (.lload_n 1, 1) := by decide +kernel
theorem dX6_checksum_170 : decode cX6_checksum 170 = .ok (.lmul, 1) := by decide +kernel
theorem dX6_checksum_171 : decode cX6_checksum 171 = .ok (.aload_n 0, 1) := by decide +kernel
theorem dX6_checksum_172 : decode cX6_checksum 172 = .ok (.getfield 31, 3) := by decide +kernel
theorem dX6_checksum_175 : decode cX6_checksum 175 = .ok (.invokevirtual 95, 3) := by decide +kernel
theorem dX6_checksum_178 : decode cX6_checksum 178 = .ok (.i2l, 1) := by decide +kernel
theorem dX6_checksum_179 : decode cX6_checksum 179 = .ok (.ladd, 1) := by decide +kernel
theorem dX6_checksum_180 : decode cX6_checksum 180 = .ok (.lreturn, 1) := by decide +kernel
theorem dX6_requireSection_0 : decode cX6_requireSection 0 = .ok (.iload_n 1, 1) := by decide +kernel
theorem dX6_requireSection_1 : decode cX6_requireSection 1 = .ok (.ifCond .lt 17, 3) := by decide +kernel
theorem dX6_requireSection_4 : decode cX6_requireSection 4 = .ok (.iload_n 1, 1) := by decide +kernel
theorem dX6_requireSection_5 : decode cX6_requireSection 5 = .ok (.aload_n 0, 1) := by decide +kernel
theorem dX6_requireSection_6 : decode cX6_requireSection 6 = .ok (.getfield 31, 3) := by decide +kernel
theorem dX6_requireSection_9 : decode cX6_requireSection 9 = .ok (.getfield 82, 3) := by decide +kernel
theorem dX6_requireSection_12 : decode cX6_requireSection 12 = .ok (.getfield 89, 3) := by decide +kernel
theorem dX6_requireSection_15 : decode cX6_requireSection 15 = .ok (.if_icmp .lt 13, 3) := by decide +kernel
theorem dX6_requireSection_18 : decode cX6_requireSection 18 = .ok (.new 221, 3) := by decide +kernel
theorem dX6_requireSection_21 : decode cX6_requireSection 21 = .ok (.dup, 1) := by decide +kernel
theorem dX6_requireSection_22 : decode cX6_requireSection 22 = .ok (.ldc 223, 2) := by decide +kernel
theorem dX6_requireSection_24 : decode cX6_requireSection 24 = .ok (.invokespecial 225, 3) := by decide +kernel
theorem dX6_requireSection_27 : decode cX6_requireSection 27 = .ok (.athrow, 1) := by decide +kernel
theorem dX6_requireSection_28 : decode cX6_requireSection 28 = .ok (.return_, 1) := by decide +kernel
theorem dX6_requireCar_0 : decode cX6_requireCar 0 = .ok (.iload_n 1, 1) := by decide +kernel
theorem dX6_requireCar_1 : decode cX6_requireCar 1 = .ok (.ifCond .lt 17, 3) := by decide +kernel
theorem dX6_requireCar_4 : decode cX6_requireCar 4 = .ok (.iload_n 1, 1) := by decide +kernel
theorem dX6_requireCar_5 : decode cX6_requireCar 5 = .ok (.aload_n 0, 1) := by decide +kernel
theorem dX6_requireCar_6 : decode cX6_requireCar 6 = .ok (.getfield 31, 3) := by decide +kernel
theorem dX6_requireCar_9 : decode cX6_requireCar 9 = .ok (.getfield 82, 3) := by decide +kernel
theorem dX6_requireCar_12 : decode cX6_requireCar 12 = .ok (.getfield 86, 3) := by decide +kernel
theorem dX6_requireCar_15 : decode cX6_requireCar 15 = .ok (.if_icmp .lt 13, 3) := by decide +kernel
theorem dX6_requireCar_18 : decode cX6_requireCar 18 = .ok (.new 221, 3) := by decide +kernel
theorem dX6_requireCar_21 : decode cX6_requireCar 21 = .ok (.dup, 1) := by decide +kernel
theorem dX6_requireCar_22 : decode cX6_requireCar 22 = .ok (.ldc 226, 2) := by decide +kernel
theorem dX6_requireCar_24 : decode cX6_requireCar 24 = .ok (.invokespecial 225, 3) := by decide +kernel
theorem dX6_requireCar_27 : decode cX6_requireCar 27 = .ok (.athrow, 1) := by decide +kernel
theorem dX6_requireCar_28 : decode cX6_requireCar 28 = .ok (.return_, 1) := by decide +kernel
theorem dX6_requireFan_0 : decode cX6_requireFan 0 = .ok (.aload_n 0, 1) := by decide +kernel
theorem dX6_requireFan_1 : decode cX6_requireFan 1 = .ok (.getfield 31, 3) := by decide +kernel
theorem dX6_requireFan_4 : decode cX6_requireFan 4 = .ok (.getfield 82, 3) := by decide +kernel
theorem dX6_requireFan_7 : decode cX6_requireFan 7 = .ok (.getfield 228, 3) := by decide +kernel
theorem dX6_requireFan_10 : decode cX6_requireFan 10 = .ok (.iload_n 1, 1) := by decide +kernel
theorem dX6_requireFan_11 : decode cX6_requireFan 11 = .ok (.baload, 1) := by decide +kernel
theorem dX6_requireFan_12 : decode cX6_requireFan 12 = .ok (.ifCond .ne 13, 3) := by decide +kernel
theorem dX6_requireFan_15 : decode cX6_requireFan 15 = .ok (.new 201, 3) := by decide +kernel
theorem dX6_requireFan_18 : decode cX6_requireFan 18 = .ok (.dup, 1) := by decide +kernel
theorem dX6_requireFan_19 : decode cX6_requireFan 19 = .ok (.ldc 231, 2) := by decide +kernel
theorem dX6_requireFan_21 : decode cX6_requireFan 21 = .ok (.invokespecial 205, 3) := by decide +kernel
theorem dX6_requireFan_24 : decode cX6_requireFan 24 = .ok (.athrow, 1) := by decide +kernel
theorem dX6_requireFan_25 : decode cX6_requireFan 25 = .ok (.return_, 1) := by decide +kernel
theorem dX6_requireDirection_0 : decode cX6_requireDirection 0 = .ok (.iload_n 0, 1) := by decide +kernel
theorem dX6_requireDirection_1 : decode cX6_requireDirection 1 = .ok (.iconst 1, 1) := by decide +kernel
theorem dX6_requireDirection_2 : decode cX6_requireDirection 2 = .ok (.if_icmp .eq 18, 3) := by decide +kernel
theorem dX6_requireDirection_5 : decode cX6_requireDirection 5 = .ok (.iload_n 0, 1) := by decide +kernel
theorem dX6_requireDirection_6 : decode cX6_requireDirection 6 = .ok (.iconst (-1), 1) := by decide +kernel
theorem dX6_requireDirection_7 : decode cX6_requireDirection 7 = .ok (.if_icmp .eq 13, 3) := by decide +kernel
theorem dX6_requireDirection_10 : decode cX6_requireDirection 10 = .ok (.new 55, 3) := by decide +kernel
theorem dX6_requireDirection_13 : decode cX6_requireDirection 13 = .ok (.dup, 1) := by decide +kernel
theorem dX6_requireDirection_14 : decode cX6_requireDirection 14 = .ok (.ldc 233, 2) := by decide +kernel
theorem dX6_requireDirection_16 : decode cX6_requireDirection 16 = .ok (.invokespecial 59, 3) := by decide +kernel
theorem dX6_requireDirection_19 : decode cX6_requireDirection 19 = .ok (.athrow, 1) := by decide +kernel
theorem dX6_requireDirection_20 : decode cX6_requireDirection 20 = .ok (.return_, 1) := by decide +kernel
theorem dX6_laneIndex_0 : decode cX6_laneIndex 0 = .ok (.iload_n 1, 1) := by decide +kernel
theorem dX6_laneIndex_1 : decode cX6_laneIndex 1 = .ok (.iconst 1, 1) := by decide +kernel
theorem dX6_laneIndex_2 : decode cX6_laneIndex 2 = .ok (.if_icmp .ne 11, 3) := by decide +kernel
theorem dX6_laneIndex_5 : decode cX6_laneIndex 5 = .ok (.iconst 2, 1) := by decide +kernel
theorem dX6_laneIndex_6 : decode cX6_laneIndex 6 = .ok (.iload_n 0, 1) := by decide +kernel
theorem dX6_laneIndex_7 : decode cX6_laneIndex 7 = .ok (.imul, 1) := by decide +kernel
theorem dX6_laneIndex_8 : decode cX6_laneIndex 8 = .ok (.iconst 1, 1) := by decide +kernel
theorem dX6_laneIndex_9 : decode cX6_laneIndex 9 = .ok (.iadd, 1) := by decide +kernel
theorem dX6_laneIndex_10 : decode cX6_laneIndex 10 = .ok (.goto 6, 3) := by decide +kernel
theorem dX6_laneIndex_13 : decode cX6_laneIndex 13 = .ok (.iconst 2, 1) := by decide +kernel
theorem dX6_laneIndex_14 : decode cX6_laneIndex 14 = .ok (.iload_n 0, 1) := by decide +kernel
theorem dX6_laneIndex_15 : decode cX6_laneIndex 15 = .ok (.imul, 1) := by decide +kernel
theorem dX6_laneIndex_16 : decode cX6_laneIndex 16 = .ok (.ireturn, 1) := by decide +kernel
theorem dX7_init_0 : decode cX7_init 0 = .ok (.aload_n 0, 1) := by decide +kernel
theorem dX7_init_1 : decode cX7_init 1 = .ok (.invokespecial 3, 3) := by decide +kernel
theorem dX7_init_4 : decode cX7_init 4 = .ok (.aload_n 0, 1) := by decide +kernel
theorem dX7_init_5 : decode cX7_init 5 = .ok (.sipush 800, 3) := by decide +kernel
theorem dX7_init_8 : decode cX7_init 8 = .ok (.newarray .int, 2) := by decide +kernel
theorem dX7_init_10 : decode cX7_init 10 = .ok (.putfield 9, 3) := by decide +kernel
theorem dX7_init_13 : decode cX7_init 13 = .ok (.aload_n 0, 1) := by decide +kernel
theorem dX7_init_14 : decode cX7_init 14 = .ok (.iconst (-1), 1) := by decide +kernel
theorem dX7_init_15 : decode cX7_init 15 = .ok (.putfield 13, 3) := by decide +kernel
theorem dX7_init_18 : decode cX7_init 18 = .ok (.aload_n 0, 1) := by decide +kernel
theorem dX7_init_19 : decode cX7_init 19 = .ok (.sipush 1476, 3) := by decide +kernel
theorem dX7_init_22 : decode cX7_init 22 = .ok (.newarray .int, 2) := by decide +kernel
theorem dX7_init_24 : decode cX7_init 24 = .ok (.putfield 17, 3) := by decide +kernel
theorem dX7_init_27 : decode cX7_init 27 = .ok (.aload_n 0, 1) := by decide +kernel
theorem dX7_init_28 : decode cX7_init 28 = .ok (.sipush 1476, 3) := by decide +kernel
theorem dX7_init_31 : decode cX7_init 31 = .ok (.newarray .int, 2) := by decide +kernel
theorem dX7_init_33 : decode cX7_init 33 = .ok (.putfield 20, 3) := by decide +kernel
theorem dX7_init_36 : decode cX7_init 36 = .ok (.aload_n 0, 1) := by decide +kernel
theorem dX7_init_37 : decode cX7_init 37 = .ok (.sipush 1476, 3) := by decide +kernel
theorem dX7_init_40 : decode cX7_init 40 = .ok (.newarray .int, 2) := by decide +kernel
theorem dX7_init_42 : decode cX7_init 42 = .ok (.putfield 23, 3) := by decide +kernel
theorem dX7_init_45 : decode cX7_init 45 = .ok (.aload_n 0, 1) := by decide +kernel
theorem dX7_init_46 : decode cX7_init 46 = .ok (.bipush 8, 2) := by decide +kernel
theorem dX7_init_48 : decode cX7_init 48 = .ok (.sipush 1476, 3) := by decide +kernel
theorem dX7_init_51 : decode cX7_init 51 = .ok (.multianewarray 26 2, 4) := by decide +kernel
theorem dX7_init_55 : decode cX7_init 55 = .ok (.putfield 28, 3) := by decide +kernel
theorem dX7_init_58 : decode cX7_init 58 = .ok (.aload_n 0, 1) := by decide +kernel
theorem dX7_init_59 : decode cX7_init 59 = .ok (.sipush 1300, 3) := by decide +kernel
theorem dX7_init_62 : decode cX7_init 62 = .ok (.newarray .long, 2) := by decide +kernel
theorem dX7_init_64 : decode cX7_init 64 = .ok (.putfield 31, 3) := by decide +kernel
theorem dX7_init_67 : decode cX7_init 67 = .ok (.aload_n 0, 1) := by decide +kernel
theorem dX7_init_68 : decode cX7_init 68 = .ok (.bipush 12, 2) := by decide +kernel
theorem dX7_init_70 : decode cX7_init 70 = .ok (.newarray .int, 2) := by decide +kernel
theorem dX7_init_72 : decode cX7_init 72 = .ok (.putfield 35, 3) := by decide +kernel
theorem dX7_init_75 : decode cX7_init 75 = .ok (.aload_n 0, 1) := by decide +kernel
theorem dX7_init_76 : decode cX7_init 76 = .ok (.bipush 20, 2) := by decide +kernel
theorem dX7_init_78 : decode cX7_init 78 = .ok (.newarray .boolean, 2) := by decide +kernel
theorem dX7_init_80 : decode cX7_init 80 = .ok (.putfield 38, 3) := by decide +kernel
theorem dX7_init_83 : decode cX7_init 83 = .ok (.aload_n 0, 1) := by decide +kernel
theorem dX7_init_84 : decode cX7_init 84 = .ok (.bipush 20, 2) := by decide +kernel
theorem dX7_init_86 : decode cX7_init 86 = .ok (.newarray .boolean, 2) := by decide +kernel
theorem dX7_init_88 : decode cX7_init 88 = .ok (.putfield 42, 3) := by decide +kernel
theorem dX7_init_91 : decode cX7_init 91 = .ok (.aload_n 0, 1) := by decide +kernel
theorem dX7_init_92 : decode cX7_init 92 = .ok (.getfield 17, 3) := by decide +kernel
theorem dX7_init_95 : decode cX7_init 95 = .ok (.iconst 4, 1) := by decide +kernel
theorem dX7_init_96 : decode cX7_init 96 = .ok (.iconst (-1), 1) := by decide +kernel
theorem dX7_init_97 : decode cX7_init 97 = .ok (.iastore, 1) := by decide +kernel
theorem dX7_init_98 : decode cX7_init 98 = .ok (.return_, 1) := by decide +kernel
theorem dX7_thrown_0 : decode cX7_thrown 0 = .ok (.aload_n 0, 1) := by decide +kernel
theorem dX7_thrown_1 : decode cX7_thrown 1 = .ok (.getfield 45, 3) := by decide +kernel
theorem dX7_thrown_4 : decode cX7_thrown 4 = .ok (.ireturn, 1) := by decide +kernel
theorem dX7_fails_0 : decode cX7_fails 0 = .ok (.iload_n 1, 1) := by decide +kernel
theorem dX7_fails_1 : decode cX7_fails 1 = .ok (.ifCond .eq 15, 3) := by decide +kernel
theorem dX7_fails_4 : decode cX7_fails 4 = .ok (.aload_n 0, 1) := by decide +kernel
theorem dX7_fails_5 : decode cX7_fails 5 = .ok (.getfield 45, 3) := by decide +kernel
theorem dX7_fails_8 : decode cX7_fails 8 = .ok (.ifCond .ne 8, 3) := by decide +kernel
theorem dX7_fails_11 : decode cX7_fails 11 = .ok (.aload_n 0, 1) := by decide +kernel
theorem dX7_fails_12 : decode cX7_fails 12 = .ok (.iload_n 2, 1) := by decide +kernel
theorem dX7_fails_13 : decode cX7_fails 13 = .ok (.putfield 45, 3) := by decide +kernel
theorem dX7_fails_16 : decode cX7_fails 16 = .ok (.aload_n 0, 1) := by decide +kernel
theorem dX7_fails_17 : decode cX7_fails 17 = .ok (.getfield 45, 3) := by decide +kernel
theorem dX7_fails_20 : decode cX7_fails 20 = .ok (.ifCond .eq 7, 3) := by decide +kernel
theorem dX7_fails_23 : decode cX7_fails 23 = .ok (.iconst 1, 1) := by decide +kernel
theorem dX7_fails_24 : decode cX7_fails 24 = .ok (.goto 4, 3) := by decide +kernel
theorem dX7_fails_27 : decode cX7_fails 27 = .ok (.iconst 0, 1) := by decide +kernel
theorem dX7_fails_28 : decode cX7_fails 28 = .ok (.ireturn, 1) := by decide +kernel
theorem dX7_in_0 : decode cX7_in 0 = .ok (.iload_n 0, 1) := by decide +kernel
theorem dX7_in_1 : decode cX7_in 1 = .ok (.iload_n 1, 1) := by decide +kernel
theorem dX7_in_2 : decode cX7_in 2 = .ok (.if_icmp .lt 12, 3) := by decide +kernel
theorem dX7_in_5 : decode cX7_in 5 = .ok (.iload_n 0, 1) := by decide +kernel
theorem dX7_in_6 : decode cX7_in 6 = .ok (.iload_n 2, 1) := by decide +kernel
theorem dX7_in_7 : decode cX7_in 7 = .ok (.if_icmp .gt 7, 3) := by decide +kernel
theorem dX7_in_10 : decode cX7_in 10 = .ok (.iconst 1, 1) := by decide +kernel
theorem dX7_in_11 : decode cX7_in 11 = .ok (.goto 4, 3) := by decide +kernel
theorem dX7_in_14 : decode cX7_in 14 = .ok (.iconst 0, 1) := by decide +kernel
theorem dX7_in_15 : decode cX7_in 15 = .ok (.ireturn, 1) := by decide +kernel
theorem dX7_min_0 : decode cX7_min 0 = .ok (.iload_n 0, 1) := by decide +kernel
theorem dX7_min_1 : decode cX7_min 1 = .ok (.iload_n 1, 1) := by decide +kernel
theorem dX7_min_2 : decode cX7_min 2 = .ok (.if_icmp .ge 7, 3) := by decide +kernel
theorem dX7_min_5 : decode cX7_min 5 = .ok (.iload_n 0, 1) := by decide +kernel
theorem dX7_min_6 : decode cX7_min 6 = .ok (.goto 4, 3) := by decide +kernel
theorem dX7_min_9 : decode cX7_min 9 = .ok (.iload_n 1, 1) := by decide +kernel
theorem dX7_min_10 : decode cX7_min 10 = .ok (.ireturn, 1) := by decide +kernel
theorem dX7_copy_0 : decode cX7_copy 0 = .ok (.iconst 0, 1) := by decide +kernel
theorem dX7_copy_1 : decode cX7_copy 1 = .ok (.istore_n 2, 1) := by decide +kernel
theorem dX7_copy_2 : decode cX7_copy 2 = .ok (.iload_n 2, 1) := by decide +kernel
theorem dX7_copy_3 : decode cX7_copy 3 = .ok (.sipush 1476, 3) := by decide +kernel
theorem dX7_copy_6 : decode cX7_copy 6 = .ok (.if_icmp .ge 15, 3) := by decide +kernel
theorem dX7_copy_9 : decode cX7_copy 9 = .ok (.aload_n 1, 1) := by decide +kernel
theorem dX7_copy_10 : decode cX7_copy 10 = .ok (.iload_n 2, 1) := by decide +kernel
theorem dX7_copy_11 : decode cX7_copy 11 = .ok (.aload_n 0, 1) := by decide +kernel
theorem dX7_copy_12 : decode cX7_copy 12 = .ok (.iload_n 2, 1) := by decide +kernel
theorem dX7_copy_13 : decode cX7_copy 13 = .ok (.iaload, 1) := by decide +kernel
theorem dX7_copy_14 : decode cX7_copy 14 = .ok (.iastore, 1) := by decide +kernel
theorem dX7_copy_15 : decode cX7_copy 15 = .ok (.iinc 2 1, 3) := by decide +kernel
theorem dX7_copy_18 : decode cX7_copy 18 = .ok (.goto (-16), 3) := by decide +kernel
theorem dX7_copy_21 : decode cX7_copy 21 = .ok (.return_, 1) := by decide +kernel
theorem dX7_section_0 : decode cX7_section 0 = .ok (.bipush 12, 2) := by decide +kernel
theorem dX7_section_2 : decode cX7_section 2 = .ok (.bipush 7, 2) := by decide +kernel
theorem dX7_section_4 : decode cX7_section 4 = .ok (.iload_n 0, 1) := by decide +kernel
theorem dX7_section_5 : decode cX7_section 5 = .ok (.imul, 1) := by decide +kernel
theorem dX7_section_6 : decode cX7_section 6 = .ok (.iadd, 1) := by decide +kernel
theorem dX7_section_7 : decode cX7_section 7 = .ok (.ireturn, 1) := by decide +kernel
theorem dX7_car_0 : decode cX7_car 0 = .ok (.bipush 96, 2) := by decide +kernel
theorem dX7_car_2 : decode cX7_car 2 = .ok (.iconst 4, 1) := by decide +kernel
theorem dX7_car_3 : decode cX7_car 3 = .ok (.iload_n 0, 1) := by decide +kernel
theorem dX7_car_4 : decode cX7_car 4 = .ok (.imul, 1) := by decide +kernel
theorem dX7_car_5 : decode cX7_car 5 = .ok (.iadd, 1) := by decide +kernel
theorem dX7_car_6 : decode cX7_car 6 = .ok (.ireturn, 1) := by decide +kernel
theorem dX7_append_0 : decode cX7_append 0 = .ok (.aload_n 0, 1) := by decide +kernel
theorem dX7_append_1 : decode cX7_append 1 = .ok (.iconst 0, 1) := by decide +kernel
theorem dX7_append_2 : decode cX7_append 2 = .ok (.putfield 45, 3) := by decide +kernel
theorem dX7_append_5 : decode cX7_append 5 = .ok (.aload_n 0, 1) := by decide +kernel
theorem dX7_append_6 : decode cX7_append 6 = .ok (.getfield 48, 3) := by decide +kernel
theorem dX7_append_9 : decode cX7_append 9 = .ok (.bipush 20, 2) := by decide +kernel
theorem dX7_append_11 : decode cX7_append 11 = .ok (.iadd, 1) := by decide +kernel
theorem dX7_append_12 : decode cX7_append 12 = .ok (.sipush 800, 3) := by decide +kernel
theorem dX7_append_15 : decode cX7_append 15 = .ok (.if_icmp .le 5, 3) := by decide +kernel
theorem dX7_append_18 : decode cX7_append 18 = .ok (.iconst (-1), 1) := by decide +kernel
theorem dX7_append_19 : decode cX7_append 19 = .ok (.ireturn, 1) := by decide +kernel
theorem dX7_append_20 : decode cX7_append 20 = .ok (.iconst 0, 1) := by decide +kernel
theorem dX7_append_21 : decode cX7_append 21 = .ok (.istore 6, 2) := by decide +kernel
theorem dX7_append_23 : decode cX7_append 23 = .ok (.iload 6, 2) := by decide +kernel
theorem dX7_append_25 : decode cX7_append 25 = .ok (.bipush 20, 2) := by decide +kernel
theorem dX7_append_27 : decode cX7_append 27 = .ok (.if_icmp .ge 93, 3) := by decide +kernel
theorem dX7_append_30 : decode cX7_append 30 = .ok (.iload 6, 2) := by decide +kernel
theorem dX7_append_32 : decode cX7_append 32 = .ok (.iconst 4, 1) := by decide +kernel
theorem dX7_append_33 : decode cX7_append 33 = .ok (.if_icmp .ge 7, 3) := by decide +kernel
theorem dX7_append_36 : decode cX7_append 36 = .ok (.iload_n 1, 1) := by decide +kernel
theorem dX7_append_37 : decode cX7_append 37 = .ok (.goto 39, 3) := by decide +kernel
theorem dX7_append_40 : decode cX7_append 40 = .ok (.iload 6, 2) := by decide +kernel
theorem dX7_append_42 : decode cX7_append 42 = .ok (.bipush 8, 2) := by decide +kernel
theorem dX7_append_44 : decode cX7_append 44 = .ok (.if_icmp .ge 7, 3) := by decide +kernel
theorem dX7_append_47 : decode cX7_append 47 = .ok (.iload_n 2, 1) := by decide +kernel
theorem dX7_append_48 : decode cX7_append 48 = .ok (.goto 28, 3) := by decide +kernel
theorem dX7_append_51 : decode cX7_append 51 = .ok (.iload 6, 2) := by decide +kernel
theorem dX7_append_53 : decode cX7_append 53 = .ok (.bipush 12, 2) := by decide +kernel
theorem dX7_append_55 : decode cX7_append 55 = .ok (.if_icmp .ge 7, 3) := by decide +kernel
theorem dX7_append_58 : decode cX7_append 58 = .ok (.iload_n 3, 1) := by decide +kernel
theorem dX7_append_59 : decode cX7_append 59 = .ok (.goto 17, 3) := by decide +kernel
theorem dX7_append_62 : decode cX7_append 62 = .ok (.iload 6, 2) := by decide +kernel
theorem dX7_append_64 : decode cX7_append 64 = .ok (.bipush 16, 2) := by decide +kernel
theorem dX7_append_66 : decode cX7_append 66 = .ok (.if_icmp .ge 8, 3) := by decide +kernel
theorem dX7_append_69 : decode cX7_append 69 = .ok (.iload 4, 2) := by decide +kernel
theorem dX7_append_71 : decode cX7_append 71 = .ok (.goto 5, 3) := by decide +kernel
theorem dX7_append_74 : decode cX7_append 74 = .ok (.iload 5, 2) := by decide +kernel
theorem dX7_append_76 : decode cX7_append 76 = .ok (.istore 7, 2) := by decide +kernel
theorem dX7_append_78 : decode cX7_append 78 = .ok (.aload_n 0, 1) := by decide +kernel
theorem dX7_append_79 : decode cX7_append 79 = .ok (.getfield 9, 3) := by decide +kernel
theorem dX7_append_82 : decode cX7_append 82 = .ok (.aload_n 0, 1) := by decide +kernel
theorem dX7_append_83 : decode cX7_append 83 = .ok (.getfield 48, 3) := by decide +kernel
theorem dX7_append_86 : decode cX7_append 86 = .ok (.iload 7, 2) := by decide +kernel
theorem dX7_append_88 : decode cX7_append 88 = .ok (.bipush 24, 2) := by decide +kernel
theorem dX7_append_90 : decode cX7_append 90 = .ok (.bipush 8, 2) := by decide +kernel
theorem dX7_append_92 : decode cX7_append 92 = .ok (.iload 6, 2) := by decide +kernel
theorem dX7_append_94 : decode cX7_append 94 = .ok (.iconst 4, 1) := by decide +kernel
theorem dX7_append_95 : decode cX7_append 95 = .ok (.irem, 1) := by decide +kernel
theorem dX7_append_96 : decode cX7_append 96 = .ok (.imul, 1) := by decide +kernel
theorem dX7_append_97 : decode cX7_append 97 = .ok (.isub, 1) := by decide +kernel
theorem dX7_append_98 : decode cX7_append 98 = .ok (.ishr, 1) := by decide +kernel
theorem dX7_append_99 : decode cX7_append 99 = .ok (.sipush 255, 3) := by decide +kernel
theorem dX7_append_102 : decode cX7_append 102 = .ok (.iand, 1) := by decide +kernel
theorem dX7_append_103 : decode cX7_append 103 = .ok (.iastore, 1) := by decide +kernel
theorem dX7_append_104 : decode cX7_append 104 = .ok (.aload_n 0, 1) := by decide +kernel
theorem dX7_append_105 : decode cX7_append 105 = .ok (.dup, 1) := by decide +kernel
theorem dX7_append_106 : decode cX7_append 106 = .ok (.getfield 48, 3) := by decide +kernel
theorem dX7_append_109 : decode cX7_append 109 = .ok (.iconst 1, 1) := by decide +kernel
theorem dX7_append_110 : decode cX7_append 110 = .ok (.iadd, 1) := by decide +kernel
theorem dX7_append_111 : decode cX7_append 111 = .ok (.putfield 48, 3) := by decide +kernel
theorem dX7_append_114 : decode cX7_append 114 = .ok (.iinc 6 1, 3) := by decide +kernel
theorem dX7_append_117 : decode cX7_append 117 = .ok (.goto (-94), 3) := by decide +kernel
theorem dX7_append_120 : decode cX7_append 120 = .ok (.aload_n 0, 1) := by decide +kernel
theorem dX7_append_121 : decode cX7_append 121 = .ok (.getfield 48, 3) := by decide +kernel
theorem dX7_append_124 : decode cX7_append 124 = .ok (.ireturn, 1) := by decide +kernel
theorem dX7_byteAt_0 : decode cX7_byteAt 0 = .ok (.iload_n 1, 1) := by decide +kernel
theorem dX7_byteAt_1 : decode cX7_byteAt 1 = .ok (.aload_n 0, 1) := by decide +kernel
theorem dX7_byteAt_2 : decode cX7_byteAt 2 = .ok (.getfield 51, 3) := by decide +kernel
theorem dX7_byteAt_5 : decode cX7_byteAt 5 = .ok (.if_icmp .ge 12, 3) := by decide +kernel
theorem dX7_byteAt_8 : decode cX7_byteAt 8 = .ok (.aload_n 0, 1) := by decide +kernel
theorem dX7_byteAt_9 : decode cX7_byteAt 9 = .ok (.getfield 9, 3) := by decide +kernel
theorem dX7_byteAt_12 : decode cX7_byteAt 12 = .ok (.iload_n 1, 1) := by decide +kernel
theorem dX7_byteAt_13 : decode cX7_byteAt 13 = .ok (.iaload, 1) := by decide +kernel
theorem dX7_byteAt_14 : decode cX7_byteAt 14 = .ok (.goto 4, 3) := by decide +kernel
theorem dX7_byteAt_17 : decode cX7_byteAt 17 = .ok (.iconst (-1), 1) := by decide +kernel
theorem dX7_byteAt_18 : decode cX7_byteAt 18 = .ok (.ireturn, 1) := by decide +kernel
theorem dX7_next_0 : decode cX7_next 0 = .ok (.aload_n 0, 1) := by decide +kernel
theorem dX7_next_1 : decode cX7_next 1 = .ok (.aload_n 0, 1) := by decide +kernel
theorem dX7_next_2 : decode cX7_next 2 = .ok (.getfield 54, 3) := by decide +kernel
theorem dX7_next_5 : decode cX7_next 5 = .ok (.invokevirtual 57, 3) := by decide +kernel
theorem dX7_next_8 : decode cX7_next 8 = .ok (.bipush 32, 2) := by decide +kernel
theorem dX7_next_10 : decode cX7_next 10 = .ok (.if_icmp .ne 16, 3) := by decide +kernel
theorem dX7_next_13 : decode cX7_next 13 = .ok (.aload_n 0, 1) := by decide +kernel
theorem dX7_next_14 : decode cX7_next 14 = .ok (.dup, 1) := by decide +kernel
theorem dX7_next_15 : decode cX7_next 15 = .ok (.getfield 54, 3) := by decide +kernel
theorem dX7_next_18 : decode cX7_next 18 = .ok (.iconst 1, 1) := by decide +kernel
theorem dX7_next_19 : decode cX7_next 19 = .ok (.iadd, 1) := by decide +kernel
theorem dX7_next_20 : decode cX7_next 20 = .ok (.putfield 54, 3) := by decide +kernel
theorem dX7_next_23 : decode cX7_next 23 = .ok (.goto (-23), 3) := by decide +kernel
theorem dX7_next_26 : decode cX7_next 26 = .ok (.aload_n 0, 1) := by decide +kernel
theorem dX7_next_27 : decode cX7_next 27 = .ok (.aload_n 0, 1) := by decide +kernel
theorem dX7_next_28 : decode cX7_next 28 = .ok (.getfield 54, 3) := by decide +kernel
theorem dX7_next_31 : decode cX7_next 31 = .ok (.invokevirtual 57, 3) := by decide +kernel
theorem dX7_next_34 : decode cX7_next 34 = .ok (.ireturn, 1) := by decide +kernel
theorem dX7_isGood_0 : decode cX7_isGood 0 = .ok (.aload_n 0, 1) := by decide +kernel
theorem dX7_isGood_1 : decode cX7_isGood 1 = .ok (.getfield 61, 3) := by decide +kernel
theorem dX7_isGood_4 : decode cX7_isGood 4 = .ok (.ifCond .ne 7, 3) := by decide +kernel
theorem dX7_isGood_7 : decode cX7_isGood 7 = .ok (.iconst 1, 1) := by decide +kernel
theorem dX7_isGood_8 : decode cX7_isGood 8 = .ok (.goto 4, 3) := by decide +kernel
theorem dX7_isGood_11 : decode cX7_isGood 11 = .ok (.iconst 0, 1) := by decide +kernel
theorem dX7_isGood_12 : decode cX7_isGood 12 = .ok (.ireturn, 1) := by decide +kernel
theorem dX7_report_0 : decode cX7_report 0 = .ok (.aload_n 0, 1) := by decide +kernel
theorem dX7_report_1 : decode cX7_report 1 = .ok (.getfield 61, 3) := by decide +kernel
theorem dX7_report_4 : decode cX7_report 4 = .ok (.ifCond .eq 4, 3) := by decide +kernel
theorem dX7_report_7 : decode cX7_report 7 = .ok (.return_, 1) := by decide +kernel
theorem dX7_report_8 : decode cX7_report 8 = .ok (.aload_n 0, 1) := by decide +kernel
theorem dX7_report_9 : decode cX7_report 9 = .ok (.iload_n 1, 1) := by decide +kernel
theorem dX7_report_10 : decode cX7_report 10 = .ok (.putfield 61, 3) := by decide +kernel
theorem dX7_report_13 : decode cX7_report 13 = .ok (.aload_n 0, 1) := by decide +kernel
theorem dX7_report_14 : decode cX7_report 14 = .ok (.iload_n 2, 1) := by decide +kernel
theorem dX7_report_15 : decode cX7_report 15 = .ok (.putfield 64, 3) := by decide +kernel
theorem dX7_report_18 : decode cX7_report 18 = .ok (.return_, 1) := by decide +kernel
theorem dX7_isDigit_0 : decode cX7_isDigit 0 = .ok (.iload_n 0, 1) := by decide +kernel
theorem dX7_isDigit_1 : decode cX7_isDigit 1 = .ok (.bipush 48, 2) := by decide +kernel
theorem dX7_isDigit_3 : decode cX7_isDigit 3 = .ok (.bipush 57, 2) := by decide +kernel
theorem dX7_isDigit_5 : decode cX7_isDigit 5 = .ok (.invokestatic 67, 3) := by decide +kernel
theorem dX7_isDigit_8 : decode cX7_isDigit 8 = .ok (.ireturn, 1) := by decide +kernel
theorem dX7_takeWord_0 : decode cX7_takeWord 0 = .ok (.aload_n 0, 1) := by decide +kernel
theorem dX7_takeWord_1 : decode cX7_takeWord 1 = .ok (.invokevirtual 71, 3) := by decide +kernel
theorem dX7_takeWord_4 : decode cX7_takeWord 4 = .ok (.ifCond .ne 5, 3) := by decide +kernel
theorem dX7_takeWord_7 : decode cX7_takeWord 7 = .ok (.iconst 0, 1) := by decide +kernel
theorem dX7_takeWord_8 : decode cX7_takeWord 8 = .ok (.ireturn, 1) := by decide +kernel
theorem dX7_takeWord_9 : decode cX7_takeWord 9 = .ok (.aload_n 0, 1) := by decide +kernel
theorem dX7_takeWord_10 : decode cX7_takeWord 10 = .ok (.invokevirtual 75, 3) := by decide +kernel
theorem dX7_takeWord_13 : decode cX7_takeWord 13 = .ok (.pop, 1) := by decide +kernel
theorem dX7_takeWord_14 : decode cX7_takeWord 14 = .ok (.iconst 0, 1) := by decide +kernel
theorem dX7_takeWord_15 : decode cX7_takeWord 15 = .ok (.istore_n 2, 1) := by decide +kernel
theorem dX7_takeWord_16 : decode cX7_takeWord 16 = .ok (.iload_n 2, 1) := by decide +kernel
theorem dX7_takeWord_17 : decode cX7_takeWord 17 = .ok (.aload_n 1, 1) := by decide +kernel
theorem dX7_takeWord_18 : decode cX7_takeWord 18 = .ok (.invokevirtual 79, 3) := by decide +kernel
theorem dX7_takeWord_21 : decode cX7_takeWord 21 = .ok (.if_icmp .ge 27, 3) := by decide +kernel
theorem dX7_takeWord_24 : decode cX7_takeWord 24 = .ok (.aload_n 0, 1) := by decide +kernel
theorem dX7_takeWord_25 : decode cX7_takeWord 25 = .ok (.aload_n 0, 1) := by decide +kernel
theorem dX7_takeWord_26 : decode cX7_takeWord 26 = .ok (.getfield 54, 3) := by decide +kernel
theorem dX7_takeWord_29 : decode cX7_takeWord 29 = .ok (.iload_n 2, 1) := by decide +kernel
theorem dX7_takeWord_30 : decode cX7_takeWord 30 = .ok (.iadd, 1) := by decide +kernel
theorem dX7_takeWord_31 : decode cX7_takeWord 31 = .ok (.invokevirtual 57, 3) := by decide +kernel
theorem dX7_takeWord_34 : decode cX7_takeWord 34 = .ok (.aload_n 1, 1) := by decide +kernel
theorem dX7_takeWord_35 : decode cX7_takeWord 35 = .ok (.iload_n 2, 1) := by decide +kernel
theorem dX7_takeWord_36 : decode cX7_takeWord 36 = .ok (.invokevirtual 84, 3) := by decide +kernel
theorem dX7_takeWord_39 : decode cX7_takeWord 39 = .ok (.if_icmp .ne 9, 3) := by decide +kernel
theorem dX7_takeWord_42 : decode cX7_takeWord 42 = .ok (.iinc 2 1, 3) := by decide +kernel
theorem dX7_takeWord_45 : decode cX7_takeWord 45 = .ok (.goto (-29), 3) := by decide +kernel
theorem dX7_takeWord_48 : decode cX7_takeWord 48 = .ok (.iload_n 2, 1) := by decide +kernel
theorem dX7_takeWord_49 : decode cX7_takeWord 49 = .ok (.aload_n 1, 1) := by decide +kernel
theorem dX7_takeWord_50 : decode cX7_takeWord 50 = .ok (.invokevirtual 79, 3) := by decide +kernel
theorem dX7_takeWord_53 : decode cX7_takeWord 53 = .ok (.if_icmp .lt 23, 3) := by decide +kernel
theorem dX7_takeWord_56 : decode cX7_takeWord 56 = .ok (.aload_n 0, 1) := by decide +kernel
theorem dX7_takeWord_57 : decode cX7_takeWord 57 = .ok (.aload_n 0, 1) := by decide +kernel
theorem dX7_takeWord_58 : decode cX7_takeWord 58 = .ok (.getfield 54, 3) := by decide +kernel
theorem dX7_takeWord_61 : decode cX7_takeWord 61 = .ok (.iload_n 2, 1) := by decide +kernel
theorem dX7_takeWord_62 : decode cX7_takeWord 62 = .ok (.iadd, 1) := by decide +kernel
theorem dX7_takeWord_63 : decode cX7_takeWord 63 = .ok (.invokevirtual 57, 3) := by decide +kernel
theorem dX7_takeWord_66 : decode cX7_takeWord 66 = .ok (.bipush 97, 2) := by decide +kernel
theorem dX7_takeWord_68 : decode cX7_takeWord 68 = .ok (.bipush 122, 2) := by decide +kernel
theorem dX7_takeWord_70 : decode cX7_takeWord 70 = .ok (.invokestatic 67, 3) := by decide +kernel
theorem dX7_takeWord_73 : decode cX7_takeWord 73 = .ok (.ifCond .eq 5, 3) := by decide +kernel
theorem dX7_takeWord_76 : decode cX7_takeWord 76 = .ok (.iconst 0, 1) := by decide +kernel
theorem dX7_takeWord_77 : decode cX7_takeWord 77 = .ok (.ireturn, 1) := by decide +kernel
theorem dX7_takeWord_78 : decode cX7_takeWord 78 = .ok (.aload_n 0, 1) := by decide +kernel
theorem dX7_takeWord_79 : decode cX7_takeWord 79 = .ok (.dup, 1) := by decide +kernel
theorem dX7_takeWord_80 : decode cX7_takeWord 80 = .ok (.getfield 54, 3) := by decide +kernel
theorem dX7_takeWord_83 : decode cX7_takeWord 83 = .ok (.iload_n 2, 1) := by decide +kernel
theorem dX7_takeWord_84 : decode cX7_takeWord 84 = .ok (.iadd, 1) := by decide +kernel
theorem dX7_takeWord_85 : decode cX7_takeWord 85 = .ok (.putfield 54, 3) := by decide +kernel
theorem dX7_takeWord_88 : decode cX7_takeWord 88 = .ok (.iconst 1, 1) := by decide +kernel
theorem dX7_takeWord_89 : decode cX7_takeWord 89 = .ok (.ireturn, 1) := by decide +kernel
theorem dX7_expect_0 : decode cX7_expect 0 = .ok (.aload_n 0, 1) := by decide +kernel
theorem dX7_expect_1 : decode cX7_expect 1 = .ok (.invokevirtual 71, 3) := by decide +kernel
theorem dX7_expect_4 : decode cX7_expect 4 = .ok (.ifCond .ne 4, 3) := by decide +kernel
theorem dX7_expect_7 : decode cX7_expect 7 = .ok (.return_, 1) := by decide +kernel
theorem dX7_expect_8 : decode cX7_expect 8 = .ok (.aload_n 0, 1) := by decide +kernel
theorem dX7_expect_9 : decode cX7_expect 9 = .ok (.invokevirtual 75, 3) := by decide +kernel
theorem dX7_expect_12 : decode cX7_expect 12 = .ok (.iload_n 1, 1) := by decide +kernel
theorem dX7_expect_13 : decode cX7_expect 13 = .ok (.if_icmp .ne 16, 3) := by decide +kernel
theorem dX7_expect_16 : decode cX7_expect 16 = .ok (.aload_n 0, 1) := by decide +kernel
theorem dX7_expect_17 : decode cX7_expect 17 = .ok (.dup, 1) := by decide +kernel
theorem dX7_expect_18 : decode cX7_expect 18 = .ok (.getfield 54, 3) := by decide +kernel
theorem dX7_expect_21 : decode cX7_expect 21 = .ok (.iconst 1, 1) := by decide +kernel
theorem dX7_expect_22 : decode cX7_expect 22 = .ok (.iadd, 1) := by decide +kernel
theorem dX7_expect_23 : decode cX7_expect 23 = .ok (.putfield 54, 3) := by decide +kernel
theorem dX7_expect_26 : decode cX7_expect 26 = .ok (.goto 13, 3) := by decide +kernel
theorem dX7_expect_29 : decode cX7_expect 29 = .ok (.aload_n 0, 1) := by decide +kernel
theorem dX7_expect_30 : decode cX7_expect 30 = .ok (.bipush (-2), 2) := by decide +kernel
theorem dX7_expect_32 : decode cX7_expect 32 = .ok (.aload_n 0, 1) := by decide +kernel
theorem dX7_expect_33 : decode cX7_expect 33 = .ok (.getfield 54, 3) := by decide +kernel
theorem dX7_expect_36 : decode cX7_expect 36 = .ok (.invokevirtual 88, 3) := by decide +kernel
theorem dX7_expect_39 : decode cX7_expect 39 = .ok (.return_, 1) := by decide +kernel
theorem dX7_number_0 : decode cX7_number 0 = .ok (.aload_n 0, 1) := by decide +kernel
theorem dX7_number_1 : decode cX7_number 1 = .ok (.invokevirtual 71, 3) := by decide +kernel
theorem dX7_number_4 : decode cX7_number 4 = .ok (.ifCond .ne 5, 3) := by decide +kernel
theorem dX7_number_7 : decode cX7_number 7 = .ok (.iconst 0, 1) := by decide +kernel
theorem dX7_number_8 : decode cX7_number 8 = .ok (.ireturn, 1) := by decide +kernel
theorem dX7_number_9 : decode cX7_number 9 = .ok (.aload_n 0, 1) := by decide +kernel
theorem dX7_number_10 : decode cX7_number 10 = .ok (.invokevirtual 75, 3) := by decide +kernel
theorem dX7_number_13 : decode cX7_number 13 = .ok (.invokestatic 92, 3) := by decide +kernel
theorem dX7_number_16 : decode cX7_number 16 = .ok (.ifCond .ne 15, 3) := by decide +kernel
theorem dX7_number_19 : decode cX7_number 19 = .ok (.aload_n 0, 1) := by decide +kernel
theorem dX7_number_20 : decode cX7_number 20 = .ok (.bipush (-2), 2) := by decide +kernel
theorem dX7_number_22 : decode cX7_number 22 = .ok (.aload_n 0, 1) := by decide +kernel
theorem dX7_number_23 : decode cX7_number 23 = .ok (.getfield 54, 3) := by decide +kernel
theorem dX7_number_26 : decode cX7_number 26 = .ok (.invokevirtual 88, 3) := by decide +kernel
theorem dX7_number_29 : decode cX7_number 29 = .ok (.iconst 0, 1) := by decide +kernel
theorem dX7_number_30 : decode cX7_number 30 = .ok (.ireturn, 1) := by decide +kernel
theorem dX7_number_31 : decode cX7_number 31 = .ok (.aload_n 0, 1) := by decide +kernel
theorem dX7_number_32 : decode cX7_number 32 = .ok (.aload_n 0, 1) := by decide +kernel
theorem dX7_number_33 : decode cX7_number 33 = .ok (.getfield 54, 3) := by decide +kernel
theorem dX7_number_36 : decode cX7_number 36 = .ok (.putfield 96, 3) := by decide +kernel
theorem dX7_number_39 : decode cX7_number 39 = .ok (.iconst 0, 1) := by decide +kernel
theorem dX7_number_40 : decode cX7_number 40 = .ok (.istore_n 3, 1) := by decide +kernel
theorem dX7_number_41 : decode cX7_number 41 = .ok (.aload_n 0, 1) := by decide +kernel
theorem dX7_number_42 : decode cX7_number 42 = .ok (.aload_n 0, 1) := by decide +kernel
theorem dX7_number_43 : decode cX7_number 43 = .ok (.getfield 54, 3) := by decide +kernel
theorem dX7_number_46 : decode cX7_number 46 = .ok (.invokevirtual 57, 3) := by decide +kernel
theorem dX7_number_49 : decode cX7_number 49 = .ok (.invokestatic 92, 3) := by decide +kernel
theorem dX7_number_52 : decode cX7_number 52 = .ok (.ifCond .eq 38, 3) := by decide +kernel
theorem dX7_number_55 : decode cX7_number 55 = .ok (.ldc 99, 2) := by decide +kernel
theorem dX7_number_57 : decode cX7_number 57 = .ok (.bipush 10, 2) := by decide +kernel
theorem dX7_number_59 : decode cX7_number 59 = .ok (.iload_n 3, 1) := by decide +kernel
theorem dX7_number_60 : decode cX7_number 60 = .ok (.imul, 1) := by decide +kernel
theorem dX7_number_61 : decode cX7_number 61 = .ok (.aload_n 0, 1) := by decide +kernel
theorem dX7_number_62 : decode cX7_number 62 = .ok (.aload_n 0, 1) := by decide +kernel
theorem dX7_number_63 : decode cX7_number 63 = .ok (.getfield 54, 3) := by decide +kernel
theorem dX7_number_66 : decode cX7_number 66 = .ok (.invokevirtual 57, 3) := by decide +kernel
theorem dX7_number_69 : decode cX7_number 69 = .ok (.iadd, 1) := by decide +kernel
theorem dX7_number_70 : decode cX7_number 70 = .ok (.bipush 48, 2) := by decide +kernel
theorem dX7_number_72 : decode cX7_number 72 = .ok (.isub, 1) := by decide +kernel
theorem dX7_number_73 : decode cX7_number 73 = .ok (.invokestatic 100, 3) := by decide +kernel
theorem dX7_number_76 : decode cX7_number 76 = .ok (.istore_n 3, 1) := by decide +kernel
theorem dX7_number_77 : decode cX7_number 77 = .ok (.aload_n 0, 1) := by decide +kernel
theorem dX7_number_78 : decode cX7_number 78 = .ok (.dup, 1) := by decide +kernel
theorem dX7_number_79 : decode cX7_number 79 = .ok (.getfield 54, 3) := by decide +kernel
theorem dX7_number_82 : decode cX7_number 82 = .ok (.iconst 1, 1) := by decide +kernel
theorem dX7_number_83 : decode cX7_number 83 = .ok (.iadd, 1) := by decide +kernel
theorem dX7_number_84 : decode cX7_number 84 = .ok (.putfield 54, 3) := by decide +kernel
theorem dX7_number_87 : decode cX7_number 87 = .ok (.goto (-46), 3) := by decide +kernel
theorem dX7_number_90 : decode cX7_number 90 = .ok (.iload_n 3, 1) := by decide +kernel
theorem dX7_number_91 : decode cX7_number 91 = .ok (.iload_n 1, 1) := by decide +kernel
theorem dX7_number_92 : decode cX7_number 92 = .ok (.iload_n 2, 1) := by decide +kernel
theorem dX7_number_93 : decode cX7_number 93 = .ok (.invokestatic 67, 3) := by decide +kernel
theorem dX7_number_96 : decode cX7_number 96 = .ok (.ifCond .ne 13, 3) := by decide +kernel
theorem dX7_number_99 : decode cX7_number 99 = .ok (.aload_n 0, 1) := by decide +kernel
theorem dX7_number_100 : decode cX7_number 100 = .ok (.bipush (-3), 2) := by decide +kernel
theorem dX7_number_102 : decode cX7_number 102 = .ok (.aload_n 0, 1) := by decide +kernel
theorem dX7_number_103 : decode cX7_number 103 = .ok (.getfield 96, 3) := by decide +kernel
theorem dX7_number_106 : decode cX7_number 106 = .ok (.invokevirtual 88, 3) := by decide +kernel
theorem dX7_number_109 : decode cX7_number 109 = .ok (.iload_n 3, 1) := by decide +kernel
theorem dX7_number_110 : decode cX7_number 110 = .ok (.ireturn, 1) := by decide +kernel
theorem dX7_setting_0 : decode cX7_setting 0 = .ok (.aload_n 0, 1) := by decide +kernel
theorem dX7_setting_1 : decode cX7_setting 1 = .ok (.invokevirtual 71, 3) := by decide +kernel
theorem dX7_setting_4 : decode cX7_setting 4 = .ok (.ifCond .eq 16, 3) := by decide +kernel
theorem dX7_setting_7 : decode cX7_setting 7 = .ok (.aload_n 0, 1) := by decide +kernel
theorem dX7_setting_8 : decode cX7_setting 8 = .ok (.invokevirtual 75, 3) := by decide +kernel
theorem dX7_setting_11 : decode cX7_setting 11 = .ok (.bipush 45, 2) := by decide +kernel
theorem dX7_setting_13 : decode cX7_setting 13 = .ok (.if_icmp .ne 7, 3) := by decide +kernel
theorem dX7_setting_16 : decode cX7_setting 16 = .ok (.iconst 1, 1) := by decide +kernel
theorem dX7_setting_17 : decode cX7_setting 17 = .ok (.goto 4, 3) := by decide +kernel
theorem dX7_setting_20 : decode cX7_setting 20 = .ok (.iconst 0, 1) := by decide +kernel
theorem dX7_setting_21 : decode cX7_setting 21 = .ok (.istore_n 2, 1) := by decide +kernel
theorem dX7_setting_22 : decode cX7_setting 22 = .ok (.iload_n 2, 1) := by decide +kernel
theorem dX7_setting_23 : decode cX7_setting 23 = .ok (.ifCond .eq 13, 3) := by decide +kernel
theorem dX7_setting_26 : decode cX7_setting 26 = .ok (.aload_n 0, 1) := by decide +kernel
theorem dX7_setting_27 : decode cX7_setting 27 = .ok (.dup, 1) := by decide +kernel
theorem dX7_setting_28 : decode cX7_setting 28 = .ok (.getfield 54, 3) := by decide +kernel
theorem dX7_setting_31 : decode cX7_setting 31 = .ok (.iconst 1, 1) := by decide +kernel
theorem dX7_setting_32 : decode cX7_setting 32 = .ok (.iadd, 1) := by decide +kernel
theorem dX7_setting_33 : decode cX7_setting 33 = .ok (.putfield 54, 3) := by decide +kernel
theorem dX7_setting_36 : decode cX7_setting 36 = .ok (.aload_n 0, 1) := by decide +kernel
theorem dX7_setting_37 : decode cX7_setting 37 = .ok (.iconst 0, 1) := by decide +kernel
theorem dX7_setting_38 : decode cX7_setting 38 = .ok (.iload_n 1, 1) := by decide +kernel
theorem dX7_setting_39 : decode cX7_setting 39 = .ok (.invokevirtual 104, 3) := by decide +kernel
theorem dX7_setting_42 : decode cX7_setting 42 = .ok (.istore_n 3, 1) := by decide +kernel
theorem dX7_setting_43 : decode cX7_setting 43 = .ok (.iload_n 2, 1) := by decide +kernel
theorem dX7_setting_44 : decode cX7_setting 44 = .ok (.ifCond .eq 8, 3) := by decide +kernel
theorem dX7_setting_47 : decode cX7_setting 47 = .ok (.iload_n 3, 1) := by decide +kernel
theorem dX7_setting_48 : decode cX7_setting 48 = .ok (.ineg, 1) := by decide +kernel
theorem dX7_setting_49 : decode cX7_setting 49 = .ok (.goto 4, 3) := by decide +kernel
theorem dX7_setting_52 : decode cX7_setting 52 = .ok (.iload_n 3, 1) := by decide +kernel
theorem dX7_setting_53 : decode cX7_setting 53 = .ok (.ireturn, 1) := by decide +kernel
theorem dX7_way_0 : decode cX7_way 0 = .ok (.aload_n 0, 1) := by decide +kernel
theorem dX7_way_1 : decode cX7_way 1 = .ok (.ldc 107, 2) := by decide +kernel
theorem dX7_way_3 : decode cX7_way 3 = .ok (.invokevirtual 109, 3) := by decide +kernel
theorem dX7_way_6 : decode cX7_way 6 = .ok (.ifCond .eq 5, 3) := by decide +kernel
theorem dX7_way_9 : decode cX7_way 9 = .ok (.iconst 1, 1) := by decide +kernel
theorem dX7_way_10 : decode cX7_way 10 = .ok (.ireturn, 1) := by decide +kernel
theorem dX7_way_11 : decode cX7_way 11 = .ok (.aload_n 0, 1) := by decide +kernel
theorem dX7_way_12 : decode cX7_way 12 = .ok (.ldc 113, 2) := by decide +kernel
theorem dX7_way_14 : decode cX7_way 14 = .ok (.invokevirtual 109, 3) := by decide +kernel
theorem dX7_way_17 : decode cX7_way 17 = .ok (.ifCond .ne 13, 3) := by decide +kernel
theorem dX7_way_20 : decode cX7_way 20 = .ok (.aload_n 0, 1) := by decide +kernel
theorem dX7_way_21 : decode cX7_way 21 = .ok (.bipush (-2), 2) := by decide +kernel
theorem dX7_way_23 : decode cX7_way 23 = .ok (.aload_n 0, 1) := by decide +kernel
theorem dX7_way_24 : decode cX7_way 24 = .ok (.getfield 54, 3) := by decide +kernel
theorem dX7_way_27 : decode cX7_way 27 = .ok (.invokevirtual 88, 3) := by decide +kernel
theorem dX7_way_30 : decode cX7_way 30 = .ok (.iconst (-1), 1) := by decide +kernel
theorem dX7_way_31 : decode cX7_way 31 = .ok (.ireturn, 1) := by decide +kernel
theorem dX7_emit_0 : decode cX7_emit 0 = .ok (.aload_n 0, 1) := by decide +kernel
theorem dX7_emit_1 : decode cX7_emit 1 = .ok (.invokevirtual 71, 3) := by decide +kernel
theorem dX7_emit_4 : decode cX7_emit 4 = .ok (.ifCond .ne 4, 3) := by decide +kernel
theorem dX7_emit_7 : decode cX7_emit 7 = .ok (.return_, 1) := by decide +kernel
theorem dX7_emit_8 : decode cX7_emit 8 = .ok (.aload_n 0, 1) := by decide +kernel
theorem dX7_emit_9 : decode cX7_emit 9 = .ok (.getfield 20, 3) := by decide +kernel
theorem dX7_emit_12 : decode cX7_emit 12 = .ok (.sipush 176, 3) := by decide +kernel
theorem dX7_emit_15 : decode cX7_emit 15 = .ok (.aload_n 0, 1) := by decide +kernel
theorem dX7_emit_16 : decode cX7_emit 16 = .ok (.getfield 20, 3) := by decide +kernel
theorem dX7_emit_19 : decode cX7_emit 19 = .ok (.bipush 7, 2) := by decide +kernel
theorem dX7_emit_21 : decode cX7_emit 21 = .ok (.iaload, 1) := by decide +kernel
theorem dX7_emit_22 : decode cX7_emit 22 = .ok (.iadd, 1) := by decide +kernel
theorem dX7_emit_23 : decode cX7_emit 23 = .ok (.iload_n 1, 1) := by decide +kernel
theorem dX7_emit_24 : decode cX7_emit 24 = .ok (.iastore, 1) := by decide +kernel
theorem dX7_emit_25 : decode cX7_emit 25 = .ok (.aload_n 0, 1) := by decide +kernel
theorem dX7_emit_26 : decode cX7_emit 26 = .ok (.getfield 20, 3) := by decide +kernel
theorem dX7_emit_29 : decode cX7_emit 29 = .ok (.bipush 7, 2) := by decide +kernel
theorem dX7_emit_31 : decode cX7_emit 31 = .ok (.dup2, 1) := by decide +kernel
theorem dX7_emit_32 : decode cX7_emit 32 = .ok (.iaload, 1) := by decide +kernel
theorem dX7_emit_33 : decode cX7_emit 33 = .ok (.iconst 1, 1) := by decide +kernel
theorem dX7_emit_34 : decode cX7_emit 34 = .ok (.iadd, 1) := by decide +kernel
theorem dX7_emit_35 : decode cX7_emit 35 = .ok (.iastore, 1) := by decide +kernel
theorem dX7_emit_36 : decode cX7_emit 36 = .ok (.return_, 1) := by decide +kernel
theorem dX7_factor_0 : decode cX7_factor 0 = .ok (.aload_n 0, 1) := by decide +kernel
theorem dX7_factor_1 : decode cX7_factor 1 = .ok (.invokevirtual 71, 3) := by decide +kernel
theorem dX7_factor_4 : decode cX7_factor 4 = .ok (.ifCond .ne 4, 3) := by decide +kernel
theorem dX7_factor_7 : decode cX7_factor 7 = .ok (.return_, 1) := by decide +kernel
theorem dX7_factor_8 : decode cX7_factor 8 = .ok (.aload_n 0, 1) := by decide +kernel
theorem dX7_factor_9 : decode cX7_factor 9 = .ok (.invokevirtual 75, 3) := by decide +kernel
theorem dX7_factor_12 : decode cX7_factor 12 = .ok (.istore_n 1, 1) := by decide +kernel
theorem dX7_factor_13 : decode cX7_factor 13 = .ok (.iload_n 1, 1) := by decide +kernel
theorem dX7_factor_14 : decode cX7_factor 14 = .ok (.bipush 40, 2) := by decide +kernel
theorem dX7_factor_16 : decode cX7_factor 16 = .ok (.if_icmp .ne 62, 3) := by decide +kernel
theorem dX7_factor_19 : decode cX7_factor 19 = .ok (.aload_n 0, 1) := by decide +kernel
theorem dX7_factor_20 : decode cX7_factor 20 = .ok (.getfield 115, 3) := by decide +kernel
theorem dX7_factor_23 : decode cX7_factor 23 = .ok (.iconst 4, 1) := by decide +kernel
theorem dX7_factor_24 : decode cX7_factor 24 = .ok (.if_icmp .ne 13, 3) := by decide +kernel
theorem dX7_factor_27 : decode cX7_factor 27 = .ok (.aload_n 0, 1) := by decide +kernel
theorem dX7_factor_28 : decode cX7_factor 28 = .ok (.bipush (-5), 2) := by decide +kernel
theorem dX7_factor_30 : decode cX7_factor 30 = .ok (.aload_n 0, 1) := by decide +kernel
theorem dX7_factor_31 : decode cX7_factor 31 = .ok (.getfield 54, 3) := by decide +kernel
theorem dX7_factor_34 : decode cX7_factor 34 = .ok (.invokevirtual 88, 3) := by decide +kernel
theorem dX7_factor_37 : decode cX7_factor 37 = .ok (.aload_n 0, 1) := by decide +kernel
theorem dX7_factor_38 : decode cX7_factor 38 = .ok (.dup, 1) := by decide +kernel
theorem dX7_factor_39 : decode cX7_factor 39 = .ok (.getfield 54, 3) := by decide +kernel
theorem dX7_factor_42 : decode cX7_factor 42 = .ok (.iconst 1, 1) := by decide +kernel
theorem dX7_factor_43 : decode cX7_factor 43 = .ok (.iadd, 1) := by decide +kernel
theorem dX7_factor_44 : decode cX7_factor 44 = .ok (.putfield 54, 3) := by decide +kernel
theorem dX7_factor_47 : decode cX7_factor 47 = .ok (.aload_n 0, 1) := by decide +kernel
theorem dX7_factor_48 : decode cX7_factor 48 = .ok (.dup, 1) := by decide +kernel
theorem dX7_factor_49 : decode cX7_factor 49 = .ok (.getfield 115, 3) := by decide +kernel
theorem dX7_factor_52 : decode cX7_factor 52 = .ok (.iconst 1, 1) := by decide +kernel
theorem dX7_factor_53 : decode cX7_factor 53 = .ok (.iadd, 1) := by decide +kernel
theorem dX7_factor_54 : decode cX7_factor 54 = .ok (.putfield 115, 3) := by decide +kernel
theorem dX7_factor_57 : decode cX7_factor 57 = .ok (.aload_n 0, 1) := by decide +kernel
theorem dX7_factor_58 : decode cX7_factor 58 = .ok (.invokevirtual 118, 3) := by decide +kernel
theorem dX7_factor_61 : decode cX7_factor 61 = .ok (.aload_n 0, 1) := by decide +kernel
theorem dX7_factor_62 : decode cX7_factor 62 = .ok (.bipush 41, 2) := by decide +kernel
theorem dX7_factor_64 : decode cX7_factor 64 = .ok (.invokevirtual 121, 3) := by decide +kernel
theorem dX7_factor_67 : decode cX7_factor 67 = .ok (.aload_n 0, 1) := by decide +kernel
theorem dX7_factor_68 : decode cX7_factor 68 = .ok (.dup, 1) := by decide +kernel
theorem dX7_factor_69 : decode cX7_factor 69 = .ok (.getfield 115, 3) := by decide +kernel
theorem dX7_factor_72 : decode cX7_factor 72 = .ok (.iconst 1, 1) := by decide +kernel
theorem dX7_factor_73 : decode cX7_factor 73 = .ok (.isub, 1) := by decide +kernel
theorem dX7_factor_74 : decode cX7_factor 74 = .ok (.putfield 115, 3) := by decide +kernel
theorem dX7_factor_77 : decode cX7_factor 77 = .ok (.return_, 1) := by decide +kernel
theorem dX7_factor_78 : decode cX7_factor 78 = .ok (.iload_n 1, 1) := by decide +kernel
theorem dX7_factor_79 : decode cX7_factor 79 = .ok (.invokestatic 92, 3) := by decide +kernel
theorem dX7_factor_82 : decode cX7_factor 82 = .ok (.ifCond .eq 7, 3) := by decide +kernel
theorem dX7_factor_85 : decode cX7_factor 85 = .ok (.iconst (-1), 1) := by decide +kernel
theorem dX7_factor_86 : decode cX7_factor 86 = .ok (.goto 43, 3) := by decide +kernel
theorem dX7_factor_89 : decode cX7_factor 89 = .ok (.aload_n 0, 1) := by decide +kernel
theorem dX7_factor_90 : decode cX7_factor 90 = .ok (.ldc 125, 2) := by decide +kernel
theorem dX7_factor_92 : decode cX7_factor 92 = .ok (.invokevirtual 109, 3) := by decide +kernel
theorem dX7_factor_95 : decode cX7_factor 95 = .ok (.ifCond .eq 7, 3) := by decide +kernel
theorem dX7_factor_98 : decode cX7_factor 98 = .ok (.iconst 0, 1) := by decide +kernel
theorem dX7_factor_99 : decode cX7_factor 99 = .ok (.goto 30, 3) := by decide +kernel
theorem dX7_factor_102 : decode cX7_factor 102 = .ok (.aload_n 0, 1) := by decide +kernel
theorem dX7_factor_103 : decode cX7_factor 103 = .ok (.ldc 127, 2) := by decide +kernel
theorem dX7_factor_105 : decode cX7_factor 105 = .ok (.invokevirtual 109, 3) := by decide +kernel
theorem dX7_factor_108 : decode cX7_factor 108 = .ok (.ifCond .eq 7, 3) := by decide +kernel
theorem dX7_factor_111 : decode cX7_factor 111 = .ok (.iconst 1, 1) := by decide +kernel
theorem dX7_factor_112 : decode cX7_factor 112 = .ok (.goto 17, 3) := by decide +kernel
theorem dX7_factor_115 : decode cX7_factor 115 = .ok (.aload_n 0, 1) := by decide +kernel
theorem dX7_factor_116 : decode cX7_factor 116 = .ok (.ldc 129, 2) := by decide +kernel
theorem dX7_factor_118 : decode cX7_factor 118 = .ok (.invokevirtual 109, 3) := by decide +kernel
theorem dX7_factor_121 : decode cX7_factor 121 = .ok (.ifCond .eq 7, 3) := by decide +kernel
theorem dX7_factor_124 : decode cX7_factor 124 = .ok (.iconst 2, 1) := by decide +kernel
theorem dX7_factor_125 : decode cX7_factor 125 = .ok (.goto 4, 3) := by decide +kernel
theorem dX7_factor_128 : decode cX7_factor 128 = .ok (.iconst (-1), 1) := by decide +kernel
theorem dX7_factor_129 : decode cX7_factor 129 = .ok (.istore_n 2, 1) := by decide +kernel
theorem dX7_factor_130 : decode cX7_factor 130 = .ok (.iload_n 2, 1) := by decide +kernel
theorem dX7_factor_131 : decode cX7_factor 131 = .ok (.ifCond .ge 14, 3) := by decide +kernel
theorem dX7_factor_134 : decode cX7_factor 134 = .ok (.aload_n 0, 1) := by decide +kernel
theorem dX7_factor_135 : decode cX7_factor 135 = .ok (.iconst 0, 1) := by decide +kernel
theorem dX7_factor_136 : decode cX7_factor 136 = .ok (.sipush 9999, 3) := by decide +kernel
theorem dX7_factor_139 : decode cX7_factor 139 = .ok (.invokevirtual 104, 3) := by decide +kernel
theorem dX7_factor_142 : decode cX7_factor 142 = .ok (.goto 4, 3) := by decide +kernel
theorem dX7_factor_145 : decode cX7_factor 145 = .ok (.iload_n 2, 1) := by decide +kernel
theorem dX7_factor_146 : decode cX7_factor 146 = .ok (.istore_n 3, 1) := by decide +kernel
theorem dX7_factor_147 : decode cX7_factor 147 = .ok (.aload_n 0, 1) := by decide +kernel
theorem dX7_factor_148 : decode cX7_factor 148 = .ok (.iload_n 2, 1) := by decide +kernel
theorem dX7_factor_149 : decode cX7_factor 149 = .ok (.ifCond .ge 7, 3) := by decide +kernel
theorem dX7_factor_152 : decode cX7_factor 152 = .ok (.iconst 0, 1) := by decide +kernel
theorem dX7_factor_153 : decode cX7_factor 153 = .ok (.goto 4, 3) := by decide +kernel
theorem dX7_factor_156 : decode cX7_factor 156 = .ok (.iconst 1, 1) := by decide +kernel
theorem dX7_factor_157 : decode cX7_factor 157 = .ok (.invokevirtual 131, 3) := by decide +kernel
theorem dX7_factor_160 : decode cX7_factor 160 = .ok (.aload_n 0, 1) := by decide +kernel
theorem dX7_factor_161 : decode cX7_factor 161 = .ok (.iload_n 3, 1) := by decide +kernel
theorem dX7_factor_162 : decode cX7_factor 162 = .ok (.invokevirtual 131, 3) := by decide +kernel
theorem dX7_factor_165 : decode cX7_factor 165 = .ok (.return_, 1) := by decide +kernel
theorem dX7_term_0 : decode cX7_term 0 = .ok (.aload_n 0, 1) := by decide +kernel
theorem dX7_term_1 : decode cX7_term 1 = .ok (.invokevirtual 134, 3) := by decide +kernel
theorem dX7_term_4 : decode cX7_term 4 = .ok (.aload_n 0, 1) := by decide +kernel
theorem dX7_term_5 : decode cX7_term 5 = .ok (.invokevirtual 71, 3) := by decide +kernel
theorem dX7_term_8 : decode cX7_term 8 = .ok (.ifCond .eq 66, 3) := by decide +kernel
theorem dX7_term_11 : decode cX7_term 11 = .ok (.aload_n 0, 1) := by decide +kernel
theorem dX7_term_12 : decode cX7_term 12 = .ok (.invokevirtual 75, 3) := by decide +kernel
theorem dX7_term_15 : decode cX7_term 15 = .ok (.bipush 42, 2) := by decide +kernel
theorem dX7_term_17 : decode cX7_term 17 = .ok (.if_icmp .eq 12, 3) := by decide +kernel
theorem dX7_term_20 : decode cX7_term 20 = .ok (.aload_n 0, 1) := by decide +kernel
theorem dX7_term_21 : decode cX7_term 21 = .ok (.invokevirtual 75, 3) := by decide +kernel
theorem dX7_term_24 : decode cX7_term 24 = .ok (.bipush 47, 2) := by decide +kernel
theorem dX7_term_26 : decode cX7_term 26 = .ok (.if_icmp .ne 48, 3) := by decide +kernel
theorem dX7_term_29 : decode cX7_term 29 = .ok (.aload_n 0, 1) := by decide +kernel
theorem dX7_term_30 : decode cX7_term 30 = .ok (.invokevirtual 75, 3) := by decide +kernel
theorem dX7_term_33 : decode cX7_term 33 = .ok (.bipush 42, 2) := by decide +kernel
theorem dX7_term_35 : decode cX7_term 35 = .ok (.if_icmp .ne 7, 3) := by decide +kernel
theorem dX7_term_38 : decode cX7_term 38 = .ok (.iconst 1, 1) := by decide +kernel
theorem dX7_term_39 : decode cX7_term 39 = .ok (.goto 4, 3) := by decide +kernel
theorem dX7_term_42 : decode cX7_term 42 = .ok (.iconst 0, 1) := by decide +kernel
theorem dX7_term_43 : decode cX7_term 43 = .ok (.istore_n 1, 1) := by decide +kernel
theorem dX7_term_44 : decode cX7_term 44 = .ok (.aload_n 0, 1) := by decide +kernel
theorem dX7_term_45 : decode cX7_term 45 = .ok (.dup, 1) := by decide +kernel
theorem dX7_term_46 : decode cX7_term 46 = .ok (.getfield 54, 3) := by decide +kernel
theorem dX7_term_49 : decode cX7_term 49 = .ok (.iconst 1, 1) := by decide +kernel
theorem dX7_term_50 : decode cX7_term 50 = .ok (.iadd, 1) := by decide +kernel
theorem dX7_term_51 : decode cX7_term 51 = .ok (.putfield 54, 3) := by decide +kernel
theorem dX7_term_54 : decode cX7_term 54 = .ok (.aload_n 0, 1) := by decide +kernel
theorem dX7_term_55 : decode cX7_term 55 = .ok (.invokevirtual 134, 3) := by decide +kernel
theorem dX7_term_58 : decode cX7_term 58 = .ok (.aload_n 0, 1) := by decide +kernel
theorem dX7_term_59 : decode cX7_term 59 = .ok (.iload_n 1, 1) := by decide +kernel
theorem dX7_term_60 : decode cX7_term 60 = .ok (.ifCond .eq 7, 3) := by decide +kernel
theorem dX7_term_63 : decode cX7_term 63 = .ok (.iconst 4, 1) := by decide +kernel
theorem dX7_term_64 : decode cX7_term 64 = .ok (.goto 4, 3) := by decide +kernel
theorem dX7_term_67 : decode cX7_term 67 = .ok (.iconst 5, 1) := by decide +kernel
theorem dX7_term_68 : decode cX7_term 68 = .ok (.invokevirtual 131, 3) := by decide +kernel
theorem dX7_term_71 : decode cX7_term 71 = .ok (.goto (-67), 3) := by decide +kernel
theorem dX7_term_74 : decode cX7_term 74 = .ok (.return_, 1) := by decide +kernel
theorem dX7_sum_0 : decode cX7_sum 0 = .ok (.aload_n 0, 1) := by decide +kernel
theorem dX7_sum_1 : decode cX7_sum 1 = .ok (.invokevirtual 137, 3) := by decide +kernel
theorem dX7_sum_4 : decode cX7_sum 4 = .ok (.aload_n 0, 1) := by decide +kernel
theorem dX7_sum_5 : decode cX7_sum 5 = .ok (.invokevirtual 71, 3) := by decide +kernel
theorem dX7_sum_8 : decode cX7_sum 8 = .ok (.ifCond .eq 66, 3) := by decide +kernel
theorem dX7_sum_11 : decode cX7_sum 11 = .ok (.aload_n 0, 1) := by decide +kernel
theorem dX7_sum_12 : decode cX7_sum 12 = .ok (.invokevirtual 75, 3) := by decide +kernel
theorem dX7_sum_15 : decode cX7_sum 15 = .ok (.bipush 43, 2) := by decide +kernel
theorem dX7_sum_17 : decode cX7_sum 17 = .ok (.if_icmp .eq 12, 3) := by decide +kernel
theorem dX7_sum_20 : decode cX7_sum 20 = .ok (.aload_n 0, 1) := by decide +kernel
theorem dX7_sum_21 : decode cX7_sum 21 = .ok (.invokevirtual 75, 3) := by decide +kernel
theorem dX7_sum_24 : decode cX7_sum 24 = .ok (.bipush 45, 2) := by decide +kernel
theorem dX7_sum_26 : decode cX7_sum 26 = .ok (.if_icmp .ne 48, 3) := by decide +kernel
theorem dX7_sum_29 : decode cX7_sum 29 = .ok (.aload_n 0, 1) := by decide +kernel
theorem dX7_sum_30 : decode cX7_sum 30 = .ok (.invokevirtual 75, 3) := by decide +kernel
theorem dX7_sum_33 : decode cX7_sum 33 = .ok (.bipush 43, 2) := by decide +kernel
theorem dX7_sum_35 : decode cX7_sum 35 = .ok (.if_icmp .ne 7, 3) := by decide +kernel
theorem dX7_sum_38 : decode cX7_sum 38 = .ok (.iconst 1, 1) := by decide +kernel
theorem dX7_sum_39 : decode cX7_sum 39 = .ok (.goto 4, 3) := by decide +kernel
theorem dX7_sum_42 : decode cX7_sum 42 = .ok (.iconst 0, 1) := by decide +kernel
theorem dX7_sum_43 : decode cX7_sum 43 = .ok (.istore_n 1, 1) := by decide +kernel
theorem dX7_sum_44 : decode cX7_sum 44 = .ok (.aload_n 0, 1) := by decide +kernel
theorem dX7_sum_45 : decode cX7_sum 45 = .ok (.dup, 1) := by decide +kernel
theorem dX7_sum_46 : decode cX7_sum 46 = .ok (.getfield 54, 3) := by decide +kernel
theorem dX7_sum_49 : decode cX7_sum 49 = .ok (.iconst 1, 1) := by decide +kernel
theorem dX7_sum_50 : decode cX7_sum 50 = .ok (.iadd, 1) := by decide +kernel
theorem dX7_sum_51 : decode cX7_sum 51 = .ok (.putfield 54, 3) := by decide +kernel
theorem dX7_sum_54 : decode cX7_sum 54 = .ok (.aload_n 0, 1) := by decide +kernel
theorem dX7_sum_55 : decode cX7_sum 55 = .ok (.invokevirtual 137, 3) := by decide +kernel
theorem dX7_sum_58 : decode cX7_sum 58 = .ok (.aload_n 0, 1) := by decide +kernel
theorem dX7_sum_59 : decode cX7_sum 59 = .ok (.iload_n 1, 1) := by decide +kernel
theorem dX7_sum_60 : decode cX7_sum 60 = .ok (.ifCond .eq 7, 3) := by decide +kernel
theorem dX7_sum_63 : decode cX7_sum 63 = .ok (.iconst 2, 1) := by decide +kernel
theorem dX7_sum_64 : decode cX7_sum 64 = .ok (.goto 4, 3) := by decide +kernel
theorem dX7_sum_67 : decode cX7_sum 67 = .ok (.iconst 3, 1) := by decide +kernel
theorem dX7_sum_68 : decode cX7_sum 68 = .ok (.invokevirtual 131, 3) := by decide +kernel
theorem dX7_sum_71 : decode cX7_sum 71 = .ok (.goto (-67), 3) := by decide +kernel
theorem dX7_sum_74 : decode cX7_sum 74 = .ok (.return_, 1) := by decide +kernel
theorem dX7_freshSection_0 : decode cX7_freshSection 0 = .ok (.aload_n 0, 1) := by decide +kernel
theorem dX7_freshSection_1 : decode cX7_freshSection 1 = .ok (.invokevirtual 140, 3) := by decide +kernel
theorem dX7_freshSection_4 : decode cX7_freshSection 4 = .ok (.invokestatic 143, 3) := by decide +kernel
theorem dX7_freshSection_7 : decode cX7_freshSection 7 = .ok (.istore_n 3, 1) := by decide +kernel
theorem dX7_freshSection_8 : decode cX7_freshSection 8 = .ok (.aload_n 0, 1) := by decide +kernel
theorem dX7_freshSection_9 : decode cX7_freshSection 9 = .ok (.invokevirtual 71, 3) := by decide +kernel
theorem dX7_freshSection_12 : decode cX7_freshSection 12 = .ok (.ifCond .eq 25, 3) := by decide +kernel
theorem dX7_freshSection_15 : decode cX7_freshSection 15 = .ok (.aload_n 0, 1) := by decide +kernel
theorem dX7_freshSection_16 : decode cX7_freshSection 16 = .ok (.getfield 20, 3) := by decide +kernel
theorem dX7_freshSection_19 : decode cX7_freshSection 19 = .ok (.iload_n 3, 1) := by decide +kernel
theorem dX7_freshSection_20 : decode cX7_freshSection 20 = .ok (.iload_n 1, 1) := by decide +kernel
theorem dX7_freshSection_21 : decode cX7_freshSection 21 = .ok (.iadd, 1) := by decide +kernel
theorem dX7_freshSection_22 : decode cX7_freshSection 22 = .ok (.iaload, 1) := by decide +kernel
theorem dX7_freshSection_23 : decode cX7_freshSection 23 = .ok (.iload_n 2, 1) := by decide +kernel
theorem dX7_freshSection_24 : decode cX7_freshSection 24 = .ok (.if_icmp .eq 13, 3) := by decide +kernel
theorem dX7_freshSection_27 : decode cX7_freshSection 27 = .ok (.aload_n 0, 1) := by decide +kernel
theorem dX7_freshSection_28 : decode cX7_freshSection 28 = .ok (.bipush (-3), 2) := by decide +kernel
theorem dX7_freshSection_30 : decode cX7_freshSection 30 = .ok (.aload_n 0, 1) := by decide +kernel
theorem dX7_freshSection_31 : decode cX7_freshSection 31 = .ok (.getfield 96, 3) := by decide +kernel
theorem dX7_freshSection_34 : decode cX7_freshSection 34 = .ok (.invokevirtual 88, 3) := by decide +kernel
theorem dX7_freshSection_37 : decode cX7_freshSection 37 = .ok (.iload_n 3, 1) := by decide +kernel
theorem dX7_freshSection_38 : decode cX7_freshSection 38 = .ok (.ireturn, 1) := by decide +kernel
theorem dX7_readSection_0 : decode cX7_readSection 0 = .ok (.aload_n 0, 1) := by decide +kernel
theorem dX7_readSection_1 : decode cX7_readSection 1 = .ok (.iconst 0, 1) := by decide +kernel
theorem dX7_readSection_2 : decode cX7_readSection 2 = .ok (.aload_n 0, 1) := by decide +kernel
theorem dX7_readSection_3 : decode cX7_readSection 3 = .ok (.getfield 20, 3) := by decide +kernel
theorem dX7_readSection_6 : decode cX7_readSection 6 = .ok (.iconst 0, 1) := by decide +kernel
theorem dX7_readSection_7 : decode cX7_readSection 7 = .ok (.iaload, 1) := by decide +kernel
theorem dX7_readSection_8 : decode cX7_readSection 8 = .ok (.iconst 1, 1) := by decide +kernel
theorem dX7_readSection_9 : decode cX7_readSection 9 = .ok (.isub, 1) := by decide +kernel
theorem dX7_readSection_10 : decode cX7_readSection 10 = .ok (.invokevirtual 104, 3) := by decide +kernel
theorem dX7_readSection_13 : decode cX7_readSection 13 = .ok (.istore_n 1, 1) := by decide +kernel
theorem dX7_readSection_14 : decode cX7_readSection 14 = .ok (.aload_n 0, 1) := by decide +kernel
theorem dX7_readSection_15 : decode cX7_readSection 15 = .ok (.invokevirtual 71, 3) := by decide +kernel
theorem dX7_readSection_18 : decode cX7_readSection 18 = .ok (.ifCond .eq 7, 3) := by decide +kernel
theorem dX7_readSection_21 : decode cX7_readSection 21 = .ok (.iload_n 1, 1) := by decide +kernel
theorem dX7_readSection_22 : decode cX7_readSection 22 = .ok (.goto 4, 3) := by decide +kernel
theorem dX7_readSection_25 : decode cX7_readSection 25 = .ok (.iconst 0, 1) := by decide +kernel
theorem dX7_readSection_26 : decode cX7_readSection 26 = .ok (.ireturn, 1) := by decide +kernel
theorem dX7_readBay_0 : decode cX7_readBay 0 = .ok (.aload_n 0, 1) := by decide +kernel
theorem dX7_readBay_1 : decode cX7_readBay 1 = .ok (.getfield 146, 3) := by decide +kernel
theorem dX7_readBay_4 : decode cX7_readBay 4 = .ok (.bipush 6, 2) := by decide +kernel
theorem dX7_readBay_6 : decode cX7_readBay 6 = .ok (.if_icmp .ne 10, 3) := by decide +kernel
theorem dX7_readBay_9 : decode cX7_readBay 9 = .ok (.aload_n 0, 1) := by decide +kernel
theorem dX7_readBay_10 : decode cX7_readBay 10 = .ok (.bipush (-4), 2) := by decide +kernel
theorem dX7_readBay_12 : decode cX7_readBay 12 = .ok (.iload_n 1, 1) := by decide +kernel
theorem dX7_readBay_13 : decode cX7_readBay 13 = .ok (.invokevirtual 88, 3) := by decide +kernel
theorem dX7_readBay_16 : decode cX7_readBay 16 = .ok (.aload_n 0, 1) := by decide +kernel
theorem dX7_readBay_17 : decode cX7_readBay 17 = .ok (.getfield 20, 3) := by decide +kernel
theorem dX7_readBay_20 : decode cX7_readBay 20 = .ok (.aload_n 0, 1) := by decide +kernel
theorem dX7_readBay_21 : decode cX7_readBay 21 = .ok (.iconst 4, 1) := by decide +kernel
theorem dX7_readBay_22 : decode cX7_readBay 22 = .ok (.iconst (-1), 1) := by decide +kernel
theorem dX7_readBay_23 : decode cX7_readBay 23 = .ok (.invokevirtual 149, 3) := by decide +kernel
theorem dX7_readBay_26 : decode cX7_readBay 26 = .ok (.iconst 4, 1) := by decide +kernel
theorem dX7_readBay_27 : decode cX7_readBay 27 = .ok (.iadd, 1) := by decide +kernel
theorem dX7_readBay_28 : decode cX7_readBay 28 = .ok (.iconst 1, 1) := by decide +kernel
theorem dX7_readBay_29 : decode cX7_readBay 29 = .ok (.iastore, 1) := by decide +kernel
theorem dX7_readBay_30 : decode cX7_readBay 30 = .ok (.aload_n 0, 1) := by decide +kernel
theorem dX7_readBay_31 : decode cX7_readBay 31 = .ok (.dup, 1) := by decide +kernel
theorem dX7_readBay_32 : decode cX7_readBay 32 = .ok (.getfield 146, 3) := by decide +kernel
theorem dX7_readBay_35 : decode cX7_readBay 35 = .ok (.iconst 1, 1) := by decide +kernel
theorem dX7_readBay_36 : decode cX7_readBay 36 = .ok (.iadd, 1) := by decide +kernel
theorem dX7_readBay_37 : decode cX7_readBay 37 = .ok (.putfield 146, 3) := by decide +kernel
theorem dX7_readBay_40 : decode cX7_readBay 40 = .ok (.return_, 1) := by decide +kernel
theorem dX7_readFan_0 : decode cX7_readFan 0 = .ok (.aload_n 0, 1) := by decide +kernel
theorem dX7_readFan_1 : decode cX7_readFan 1 = .ok (.iconst 1, 1) := by decide +kernel
theorem dX7_readFan_2 : decode cX7_readFan 2 = .ok (.iconst 0, 1) := by decide +kernel
theorem dX7_readFan_3 : decode cX7_readFan 3 = .ok (.invokevirtual 149, 3) := by decide +kernel
theorem dX7_readFan_6 : decode cX7_readFan 6 = .ok (.istore_n 1, 1) := by decide +kernel
theorem dX7_readFan_7 : decode cX7_readFan 7 = .ok (.aload_n 0, 1) := by decide +kernel
theorem dX7_readFan_8 : decode cX7_readFan 8 = .ok (.getfield 20, 3) := by decide +kernel
theorem dX7_readFan_11 : decode cX7_readFan 11 = .ok (.iload_n 1, 1) := by decide +kernel
theorem dX7_readFan_12 : decode cX7_readFan 12 = .ok (.iconst 1, 1) := by decide +kernel
theorem dX7_readFan_13 : decode cX7_readFan 13 = .ok (.iadd, 1) := by decide +kernel
theorem dX7_readFan_14 : decode cX7_readFan 14 = .ok (.iconst 1, 1) := by decide +kernel
theorem dX7_readFan_15 : decode cX7_readFan 15 = .ok (.iastore, 1) := by decide +kernel
theorem dX7_readFan_16 : decode cX7_readFan 16 = .ok (.aload_n 0, 1) := by decide +kernel
theorem dX7_readFan_17 : decode cX7_readFan 17 = .ok (.getfield 20, 3) := by decide +kernel
theorem dX7_readFan_20 : decode cX7_readFan 20 = .ok (.iload_n 1, 1) := by decide +kernel
theorem dX7_readFan_21 : decode cX7_readFan 21 = .ok (.iconst 2, 1) := by decide +kernel
theorem dX7_readFan_22 : decode cX7_readFan 22 = .ok (.iadd, 1) := by decide +kernel
theorem dX7_readFan_23 : decode cX7_readFan 23 = .ok (.aload_n 0, 1) := by decide +kernel
theorem dX7_readFan_24 : decode cX7_readFan 24 = .ok (.bipush 10, 2) := by decide +kernel
theorem dX7_readFan_26 : decode cX7_readFan 26 = .ok (.invokevirtual 152, 3) := by decide +kernel
theorem dX7_readFan_29 : decode cX7_readFan 29 = .ok (.iastore, 1) := by decide +kernel
theorem dX7_readFan_30 : decode cX7_readFan 30 = .ok (.return_, 1) := by decide +kernel
theorem dX7_readCar_0 : decode cX7_readCar 0 = .ok (.aload_n 0, 1) := by decide +kernel
theorem dX7_readCar_1 : decode cX7_readCar 1 = .ok (.getfield 20, 3) := by decide +kernel
theorem dX7_readCar_4 : decode cX7_readCar 4 = .ok (.iconst 2, 1) := by decide +kernel
theorem dX7_readCar_5 : decode cX7_readCar 5 = .ok (.iaload, 1) := by decide +kernel
theorem dX7_readCar_6 : decode cX7_readCar 6 = .ok (.bipush 20, 2) := by decide +kernel
theorem dX7_readCar_8 : decode cX7_readCar 8 = .ok (.if_icmp .ne 10, 3) := by decide +kernel
theorem dX7_readCar_11 : decode cX7_readCar 11 = .ok (.aload_n 0, 1) := by decide +kernel
theorem dX7_readCar_12 : decode cX7_readCar 12 = .ok (.bipush (-4), 2) := by decide +kernel
theorem dX7_readCar_14 : decode cX7_readCar 14 = .ok (.iload_n 1, 1) := by decide +kernel
theorem dX7_readCar_15 : decode cX7_readCar 15 = .ok (.invokevirtual 88, 3) := by decide +kernel
theorem dX7_readCar_18 : decode cX7_readCar 18 = .ok (.aload_n 0, 1) := by decide +kernel
theorem dX7_readCar_19 : decode cX7_readCar 19 = .ok (.invokevirtual 140, 3) := by decide +kernel
theorem dX7_readCar_22 : decode cX7_readCar 22 = .ok (.istore_n 2, 1) := by decide +kernel
theorem dX7_readCar_23 : decode cX7_readCar 23 = .ok (.aload_n 0, 1) := by decide +kernel
theorem dX7_readCar_24 : decode cX7_readCar 24 = .ok (.getfield 96, 3) := by decide +kernel
theorem dX7_readCar_27 : decode cX7_readCar 27 = .ok (.istore_n 3, 1) := by decide +kernel
theorem dX7_readCar_28 : decode cX7_readCar 28 = .ok (.aload_n 0, 1) := by decide +kernel
theorem dX7_readCar_29 : decode cX7_readCar 29 = .ok (.invokevirtual 155, 3) := by decide +kernel
theorem dX7_readCar_32 : decode cX7_readCar 32 = .ok (.istore 4, 2) := by decide +kernel
theorem dX7_readCar_34 : decode cX7_readCar 34 = .ok (.aload_n 0, 1) := by decide +kernel
theorem dX7_readCar_35 : decode cX7_readCar 35 = .ok (.invokevirtual 71, 3) := by decide +kernel
theorem dX7_readCar_38 : decode cX7_readCar 38 = .ok (.ifCond .eq 29, 3) := by decide +kernel
theorem dX7_readCar_41 : decode cX7_readCar 41 = .ok (.aload_n 0, 1) := by decide +kernel
theorem dX7_readCar_42 : decode cX7_readCar 42 = .ok (.getfield 20, 3) := by decide +kernel
theorem dX7_readCar_45 : decode cX7_readCar 45 = .ok (.iload_n 2, 1) := by decide +kernel
theorem dX7_readCar_46 : decode cX7_readCar 46 = .ok (.iload 4, 2) := by decide +kernel
theorem dX7_readCar_48 : decode cX7_readCar 48 = .ok (.invokestatic 158, 3) := by decide +kernel
theorem dX7_readCar_51 : decode cX7_readCar 51 = .ok (.aload_n 0, 1) := by decide +kernel
theorem dX7_readCar_52 : decode cX7_readCar 52 = .ok (.getfield 20, 3) := by decide +kernel
theorem dX7_readCar_55 : decode cX7_readCar 55 = .ok (.iconst 1, 1) := by decide +kernel
theorem dX7_readCar_56 : decode cX7_readCar 56 = .ok (.iaload, 1) := by decide +kernel
theorem dX7_readCar_57 : decode cX7_readCar 57 = .ok (.if_icmp .ne 10, 3) := by decide +kernel
theorem dX7_readCar_60 : decode cX7_readCar 60 = .ok (.aload_n 0, 1) := by decide +kernel
theorem dX7_readCar_61 : decode cX7_readCar 61 = .ok (.bipush (-3), 2) := by decide +kernel
theorem dX7_readCar_63 : decode cX7_readCar 63 = .ok (.iload_n 3, 1) := by decide +kernel
theorem dX7_readCar_64 : decode cX7_readCar 64 = .ok (.invokevirtual 88, 3) := by decide +kernel
theorem dX7_readCar_67 : decode cX7_readCar 67 = .ok (.aload_n 0, 1) := by decide +kernel
theorem dX7_readCar_68 : decode cX7_readCar 68 = .ok (.invokevirtual 71, 3) := by decide +kernel
theorem dX7_readCar_71 : decode cX7_readCar 71 = .ok (.ifCond .ne 4, 3) := by decide +kernel
theorem dX7_readCar_74 : decode cX7_readCar 74 = .ok (.return_, 1) := by decide +kernel
theorem dX7_readCar_75 : decode cX7_readCar 75 = .ok (.aload_n 0, 1) := by decide +kernel
theorem dX7_readCar_76 : decode cX7_readCar 76 = .ok (.getfield 20, 3) := by decide +kernel
theorem dX7_readCar_79 : decode cX7_readCar 79 = .ok (.iconst 2, 1) := by decide +kernel
theorem dX7_readCar_80 : decode cX7_readCar 80 = .ok (.iaload, 1) := by decide +kernel
theorem dX7_readCar_81 : decode cX7_readCar 81 = .ok (.invokestatic 162, 3) := by decide +kernel
theorem dX7_readCar_84 : decode cX7_readCar 84 = .ok (.istore 5, 2) := by decide +kernel
theorem dX7_readCar_86 : decode cX7_readCar 86 = .ok (.aload_n 0, 1) := by decide +kernel
theorem dX7_readCar_87 : decode cX7_readCar 87 = .ok (.getfield 20, 3) := by decide +kernel
theorem dX7_readCar_90 : decode cX7_readCar 90 = .ok (.iload 5, 2) := by decide +kernel
theorem dX7_readCar_92 : decode cX7_readCar 92 = .ok (.iload_n 2, 1) := by decide +kernel
theorem dX7_readCar_93 : decode cX7_readCar 93 = .ok (.iastore, 1) := by decide +kernel
theorem dX7_readCar_94 : decode cX7_readCar 94 = .ok (.aload_n 0, 1) := by decide +kernel
theorem dX7_readCar_95 : decode cX7_readCar 95 = .ok (.getfield 20, 3) := by decide +kernel
theorem dX7_readCar_98 : decode cX7_readCar 98 = .ok (.iload 5, 2) := by decide +kernel
theorem dX7_readCar_100 : decode cX7_readCar 100 = .ok (.iconst 1, 1) := by decide +kernel
theorem dX7_readCar_101 : decode cX7_readCar 101 = .ok (.iadd, 1) := by decide +kernel
theorem dX7_readCar_102 : decode cX7_readCar 102 = .ok (.iload 4, 2) := by decide +kernel
theorem dX7_readCar_104 : decode cX7_readCar 104 = .ok (.iastore, 1) := by decide +kernel
theorem dX7_readCar_105 : decode cX7_readCar 105 = .ok (.aload_n 0, 1) := by decide +kernel
theorem dX7_readCar_106 : decode cX7_readCar 106 = .ok (.getfield 20, 3) := by decide +kernel
theorem dX7_readCar_109 : decode cX7_readCar 109 = .ok (.iconst 2, 1) := by decide +kernel
theorem dX7_readCar_110 : decode cX7_readCar 110 = .ok (.dup2, 1) := by decide +kernel
theorem dX7_readCar_111 : decode cX7_readCar 111 = .ok (.iaload, 1) := by decide +kernel
theorem dX7_readCar_112 : decode cX7_readCar 112 = .ok (.iconst 1, 1) := by decide +kernel
theorem dX7_readCar_113 : decode cX7_readCar 113 = .ok (.iadd, 1) := by decide +kernel
theorem dX7_readCar_114 : decode cX7_readCar 114 = .ok (.iastore, 1) := by decide +kernel
theorem dX7_readCar_115 : decode cX7_readCar 115 = .ok (.return_, 1) := by decide +kernel
theorem dX7_once_0 : decode cX7_once 0 = .ok (.aload_n 0, 1) := by decide +kernel
theorem dX7_once_1 : decode cX7_once 1 = .ok (.getfield 165, 3) := by decide +kernel
theorem dX7_once_4 : decode cX7_once 4 = .ok (.iload_n 1, 1) := by decide +kernel
theorem dX7_once_5 : decode cX7_once 5 = .ok (.ishr, 1) := by decide +kernel
theorem dX7_once_6 : decode cX7_once 6 = .ok (.iconst 1, 1) := by decide +kernel
theorem dX7_once_7 : decode cX7_once 7 = .ok (.iand, 1) := by decide +kernel
theorem dX7_once_8 : decode cX7_once 8 = .ok (.iconst 1, 1) := by decide +kernel
theorem dX7_once_9 : decode cX7_once 9 = .ok (.if_icmp .ne 10, 3) := by decide +kernel
theorem dX7_once_12 : decode cX7_once 12 = .ok (.aload_n 0, 1) := by decide +kernel
theorem dX7_once_13 : decode cX7_once 13 = .ok (.bipush (-2), 2) := by decide +kernel
theorem dX7_once_15 : decode cX7_once 15 = .ok (.iload_n 2, 1) := by decide +kernel
theorem dX7_once_16 : decode cX7_once 16 = .ok (.invokevirtual 88, 3) := by decide +kernel
theorem dX7_once_19 : decode cX7_once 19 = .ok (.aload_n 0, 1) := by decide +kernel
theorem dX7_once_20 : decode cX7_once 20 = .ok (.dup, 1) := by decide +kernel
theorem dX7_once_21 : decode cX7_once 21 = .ok (.getfield 165, 3) := by decide +kernel
theorem dX7_once_24 : decode cX7_once 24 = .ok (.iconst 1, 1) := by decide +kernel
theorem dX7_once_25 : decode cX7_once 25 = .ok (.iload_n 1, 1) := by decide +kernel
theorem dX7_once_26 : decode cX7_once 26 = .ok (.ishl, 1) := by decide +kernel
theorem dX7_once_27 : decode cX7_once 27 = .ok (.ior, 1) := by decide +kernel
theorem dX7_once_28 : decode cX7_once 28 = .ok (.putfield 165, 3) := by decide +kernel
theorem dX7_once_31 : decode cX7_once 31 = .ok (.return_, 1) := by decide +kernel
theorem dX7_statement_0 : decode cX7_statement 0 = .ok (.aload_n 0, 1) := by decide +kernel
theorem dX7_statement_1 : decode cX7_statement 1 = .ok (.invokevirtual 75, 3) := by decide +kernel
theorem dX7_statement_4 : decode cX7_statement 4 = .ok (.pop, 1) := by decide +kernel
theorem dX7_statement_5 : decode cX7_statement 5 = .ok (.aload_n 0, 1) := by decide +kernel
theorem dX7_statement_6 : decode cX7_statement 6 = .ok (.getfield 54, 3) := by decide +kernel
theorem dX7_statement_9 : decode cX7_statement 9 = .ok (.istore_n 1, 1) := by decide +kernel
theorem dX7_statement_10 : decode cX7_statement 10 = .ok (.aload_n 0, 1) := by decide +kernel
theorem dX7_statement_11 : decode cX7_statement 11 = .ok (.ldc 168, 2) := by decide +kernel
theorem dX7_statement_13 : decode cX7_statement 13 = .ok (.invokevirtual 109, 3) := by decide +kernel
theorem dX7_statement_16 : decode cX7_statement 16 = .ok (.ifCond .eq 11, 3) := by decide +kernel
theorem dX7_statement_19 : decode cX7_statement 19 = .ok (.aload_n 0, 1) := by decide +kernel
theorem dX7_statement_20 : decode cX7_statement 20 = .ok (.iload_n 1, 1) := by decide +kernel
theorem dX7_statement_21 : decode cX7_statement 21 = .ok (.invokevirtual 170, 3) := by decide +kernel
theorem dX7_statement_24 : decode cX7_statement 24 = .ok (.goto 205, 3) := by decide +kernel
theorem dX7_statement_27 : decode cX7_statement 27 = .ok (.aload_n 0, 1) := by decide +kernel
theorem dX7_statement_28 : decode cX7_statement 28 = .ok (.ldc 173, 2) := by decide +kernel
theorem dX7_statement_30 : decode cX7_statement 30 = .ok (.invokevirtual 109, 3) := by decide +kernel
theorem dX7_statement_33 : decode cX7_statement 33 = .ok (.ifCond .eq 26, 3) := by decide +kernel
theorem dX7_statement_36 : decode cX7_statement 36 = .ok (.aload_n 0, 1) := by decide +kernel
theorem dX7_statement_37 : decode cX7_statement 37 = .ok (.getfield 20, 3) := by decide +kernel
theorem dX7_statement_40 : decode cX7_statement 40 = .ok (.aload_n 0, 1) := by decide +kernel
theorem dX7_statement_41 : decode cX7_statement 41 = .ok (.iconst 3, 1) := by decide +kernel
theorem dX7_statement_42 : decode cX7_statement 42 = .ok (.iconst 0, 1) := by decide +kernel
theorem dX7_statement_43 : decode cX7_statement 43 = .ok (.invokevirtual 149, 3) := by decide +kernel
theorem dX7_statement_46 : decode cX7_statement 46 = .ok (.iconst 3, 1) := by decide +kernel
theorem dX7_statement_47 : decode cX7_statement 47 = .ok (.iadd, 1) := by decide +kernel
theorem dX7_statement_48 : decode cX7_statement 48 = .ok (.aload_n 0, 1) := by decide +kernel
theorem dX7_statement_49 : decode cX7_statement 49 = .ok (.iconst 1, 1) := by decide +kernel
theorem dX7_statement_50 : decode cX7_statement 50 = .ok (.bipush 100, 2) := by decide +kernel
theorem dX7_statement_52 : decode cX7_statement 52 = .ok (.invokevirtual 104, 3) := by decide +kernel
theorem dX7_statement_55 : decode cX7_statement 55 = .ok (.iastore, 1) := by decide +kernel
theorem dX7_statement_56 : decode cX7_statement 56 = .ok (.goto 173, 3) := by decide +kernel
theorem dX7_statement_59 : decode cX7_statement 59 = .ok (.aload_n 0, 1) := by decide +kernel
theorem dX7_statement_60 : decode cX7_statement 60 = .ok (.ldc 175, 2) := by decide +kernel
theorem dX7_statement_62 : decode cX7_statement 62 = .ok (.invokevirtual 109, 3) := by decide +kernel
theorem dX7_statement_65 : decode cX7_statement 65 = .ok (.ifCond .eq 10, 3) := by decide +kernel
theorem dX7_statement_68 : decode cX7_statement 68 = .ok (.aload_n 0, 1) := by decide +kernel
theorem dX7_statement_69 : decode cX7_statement 69 = .ok (.invokevirtual 177, 3) := by decide +kernel
theorem dX7_statement_72 : decode cX7_statement 72 = .ok (.goto 157, 3) := by decide +kernel
theorem dX7_statement_75 : decode cX7_statement 75 = .ok (.aload_n 0, 1) := by decide +kernel
theorem dX7_statement_76 : decode cX7_statement 76 = .ok (.ldc 180, 2) := by decide +kernel
theorem dX7_statement_78 : decode cX7_statement 78 = .ok (.invokevirtual 109, 3) := by decide +kernel
theorem dX7_statement_81 : decode cX7_statement 81 = .ok (.ifCond .eq 11, 3) := by decide +kernel
theorem dX7_statement_84 : decode cX7_statement 84 = .ok (.aload_n 0, 1) := by decide +kernel
theorem dX7_statement_85 : decode cX7_statement 85 = .ok (.iload_n 1, 1) := by decide +kernel
theorem dX7_statement_86 : decode cX7_statement 86 = .ok (.invokevirtual 181, 3) := by decide +kernel
theorem dX7_statement_89 : decode cX7_statement 89 = .ok (.goto 140, 3) := by decide +kernel
theorem dX7_statement_92 : decode cX7_statement 92 = .ok (.aload_n 0, 1) := by decide +kernel
theorem dX7_statement_93 : decode cX7_statement 93 = .ok (.ldc 184, 2) := by decide +kernel
theorem dX7_statement_95 : decode cX7_statement 95 = .ok (.invokevirtual 109, 3) := by decide +kernel
theorem dX7_statement_98 : decode cX7_statement 98 = .ok (.ifCond .eq 22, 3) := by decide +kernel
theorem dX7_statement_101 : decode cX7_statement 101 = .ok (.aload_n 0, 1) := by decide +kernel
theorem dX7_statement_102 : decode cX7_statement 102 = .ok (.iconst 0, 1) := by decide +kernel
theorem dX7_statement_103 : decode cX7_statement 103 = .ok (.iload_n 1, 1) := by decide +kernel
theorem dX7_statement_104 : decode cX7_statement 104 = .ok (.invokevirtual 186, 3) := by decide +kernel
theorem dX7_statement_107 : decode cX7_statement 107 = .ok (.aload_n 0, 1) := by decide +kernel
theorem dX7_statement_108 : decode cX7_statement 108 = .ok (.getfield 20, 3) := by decide +kernel
theorem dX7_statement_111 : decode cX7_statement 111 = .ok (.iconst 4, 1) := by decide +kernel
theorem dX7_statement_112 : decode cX7_statement 112 = .ok (.aload_n 0, 1) := by decide +kernel
theorem dX7_statement_113 : decode cX7_statement 113 = .ok (.invokevirtual 140, 3) := by decide +kernel
theorem dX7_statement_116 : decode cX7_statement 116 = .ok (.iastore, 1) := by decide +kernel
theorem dX7_statement_117 : decode cX7_statement 117 = .ok (.goto 112, 3) := by decide +kernel
theorem dX7_statement_120 : decode cX7_statement 120 = .ok (.aload_n 0, 1) := by decide +kernel
theorem dX7_statement_121 : decode cX7_statement 121 = .ok (.ldc 189, 2) := by decide +kernel
theorem dX7_statement_123 : decode cX7_statement 123 = .ok (.invokevirtual 109, 3) := by decide +kernel
theorem dX7_statement_126 : decode cX7_statement 126 = .ok (.ifCond .eq 24, 3) := by decide +kernel
theorem dX7_statement_129 : decode cX7_statement 129 = .ok (.aload_n 0, 1) := by decide +kernel
theorem dX7_statement_130 : decode cX7_statement 130 = .ok (.iconst 1, 1) := by decide +kernel
theorem dX7_statement_131 : decode cX7_statement 131 = .ok (.iload_n 1, 1) := by decide +kernel
theorem dX7_statement_132 : decode cX7_statement 132 = .ok (.invokevirtual 186, 3) := by decide +kernel
theorem dX7_statement_135 : decode cX7_statement 135 = .ok (.aload_n 0, 1) := by decide +kernel
theorem dX7_statement_136 : decode cX7_statement 136 = .ok (.getfield 20, 3) := by decide +kernel
theorem dX7_statement_139 : decode cX7_statement 139 = .ok (.iconst 5, 1) := by decide +kernel
theorem dX7_statement_140 : decode cX7_statement 140 = .ok (.aload_n 0, 1) := by decide +kernel
theorem dX7_statement_141 : decode cX7_statement 141 = .ok (.bipush 100, 2) := by decide +kernel
theorem dX7_statement_143 : decode cX7_statement 143 = .ok (.invokevirtual 152, 3) := by decide +kernel
theorem dX7_statement_146 : decode cX7_statement 146 = .ok (.iastore, 1) := by decide +kernel
theorem dX7_statement_147 : decode cX7_statement 147 = .ok (.goto 82, 3) := by decide +kernel
theorem dX7_statement_150 : decode cX7_statement 150 = .ok (.aload_n 0, 1) := by decide +kernel
theorem dX7_statement_151 : decode cX7_statement 151 = .ok (.ldc 190, 2) := by decide +kernel
theorem dX7_statement_153 : decode cX7_statement 153 = .ok (.invokevirtual 109, 3) := by decide +kernel
theorem dX7_statement_156 : decode cX7_statement 156 = .ok (.ifCond .eq 36, 3) := by decide +kernel
theorem dX7_statement_159 : decode cX7_statement 159 = .ok (.aload_n 0, 1) := by decide +kernel
theorem dX7_statement_160 : decode cX7_statement 160 = .ok (.invokevirtual 140, 3) := by decide +kernel
theorem dX7_statement_163 : decode cX7_statement 163 = .ok (.invokestatic 143, 3) := by decide +kernel
theorem dX7_statement_166 : decode cX7_statement 166 = .ok (.istore_n 2, 1) := by decide +kernel
theorem dX7_statement_167 : decode cX7_statement 167 = .ok (.aload_n 0, 1) := by decide +kernel
theorem dX7_statement_168 : decode cX7_statement 168 = .ok (.getfield 20, 3) := by decide +kernel
theorem dX7_statement_171 : decode cX7_statement 171 = .ok (.iload_n 2, 1) := by decide +kernel
theorem dX7_statement_172 : decode cX7_statement 172 = .ok (.aload_n 0, 1) := by decide +kernel
theorem dX7_statement_173 : decode cX7_statement 173 = .ok (.invokevirtual 155, 3) := by decide +kernel
theorem dX7_statement_176 : decode cX7_statement 176 = .ok (.iconst 1, 1) := by decide +kernel
theorem dX7_statement_177 : decode cX7_statement 177 = .ok (.if_icmp .ne 7, 3) := by decide +kernel
theorem dX7_statement_180 : decode cX7_statement 180 = .ok (.iconst 5, 1) := by decide +kernel
theorem dX7_statement_181 : decode cX7_statement 181 = .ok (.goto 5, 3) := by decide +kernel
theorem dX7_statement_184 : decode cX7_statement 184 = .ok (.bipush 6, 2) := by decide +kernel
theorem dX7_statement_186 : decode cX7_statement 186 = .ok (.iadd, 1) := by decide +kernel
theorem dX7_statement_187 : decode cX7_statement 187 = .ok (.iconst 1, 1) := by decide +kernel
theorem dX7_statement_188 : decode cX7_statement 188 = .ok (.iastore, 1) := by decide +kernel
theorem dX7_statement_189 : decode cX7_statement 189 = .ok (.goto 40, 3) := by decide +kernel
theorem dX7_statement_192 : decode cX7_statement 192 = .ok (.aload_n 0, 1) := by decide +kernel
theorem dX7_statement_193 : decode cX7_statement 193 = .ok (.ldc 192, 2) := by decide +kernel
theorem dX7_statement_195 : decode cX7_statement 195 = .ok (.invokevirtual 109, 3) := by decide +kernel
theorem dX7_statement_198 : decode cX7_statement 198 = .ok (.ifCond .eq 24, 3) := by decide +kernel
theorem dX7_statement_201 : decode cX7_statement 201 = .ok (.aload_n 0, 1) := by decide +kernel
theorem dX7_statement_202 : decode cX7_statement 202 = .ok (.iconst 2, 1) := by decide +kernel
theorem dX7_statement_203 : decode cX7_statement 203 = .ok (.iload_n 1, 1) := by decide +kernel
theorem dX7_statement_204 : decode cX7_statement 204 = .ok (.invokevirtual 186, 3) := by decide +kernel
theorem dX7_statement_207 : decode cX7_statement 207 = .ok (.aload_n 0, 1) := by decide +kernel
theorem dX7_statement_208 : decode cX7_statement 208 = .ok (.getfield 20, 3) := by decide +kernel
theorem dX7_statement_211 : decode cX7_statement 211 = .ok (.bipush 6, 2) := by decide +kernel
theorem dX7_statement_213 : decode cX7_statement 213 = .ok (.iconst 1, 1) := by decide +kernel
theorem dX7_statement_214 : decode cX7_statement 214 = .ok (.iastore, 1) := by decide +kernel
theorem dX7_statement_215 : decode cX7_statement 215 = .ok (.aload_n 0, 1) := by decide +kernel
theorem dX7_statement_216 : decode cX7_statement 216 = .ok (.invokevirtual 118, 3) := by decide +kernel
theorem dX7_statement_219 : decode cX7_statement 219 = .ok (.goto 10, 3) := by decide +kernel
theorem dX7_statement_222 : decode cX7_statement 222 = .ok (.aload_n 0, 1) := by decide +kernel
theorem dX7_statement_223 : decode cX7_statement 223 = .ok (.bipush (-2), 2) := by decide +kernel
theorem dX7_statement_225 : decode cX7_statement 225 = .ok (.iload_n 1, 1) := by decide +kernel
theorem dX7_statement_226 : decode cX7_statement 226 = .ok (.invokevirtual 88, 3) := by decide +kernel
theorem dX7_statement_229 : decode cX7_statement 229 = .ok (.aload_n 0, 1) := by decide +kernel
theorem dX7_statement_230 : decode cX7_statement 230 = .ok (.bipush 59, 2) := by decide +kernel
theorem dX7_statement_232 : decode cX7_statement 232 = .ok (.invokevirtual 121, 3) := by decide +kernel
theorem dX7_statement_235 : decode cX7_statement 235 = .ok (.return_, 1) := by decide +kernel
theorem dX7_load_0 : decode cX7_load 0 = .ok (.aload_n 0, 1) := by decide +kernel
theorem dX7_load_1 : decode cX7_load 1 = .ok (.iconst 0, 1) := by decide +kernel
theorem dX7_load_2 : decode cX7_load 2 = .ok (.putfield 45, 3) := by decide +kernel
theorem dX7_load_5 : decode cX7_load 5 = .ok (.aload_n 0, 1) := by decide +kernel
theorem dX7_load_6 : decode cX7_load 6 = .ok (.iload_n 1, 1) := by decide +kernel
theorem dX7_load_7 : decode cX7_load 7 = .ok (.iconst 0, 1) := by decide +kernel
theorem dX7_load_8 : decode cX7_load 8 = .ok (.aload_n 0, 1) := by decide +kernel
theorem dX7_load_9 : decode cX7_load 9 = .ok (.getfield 48, 3) := by decide +kernel
theorem dX7_load_12 : decode cX7_load 12 = .ok (.invokestatic 67, 3) := by decide +kernel
theorem dX7_load_15 : decode cX7_load 15 = .ok (.ifCond .ne 7, 3) := by decide +kernel
theorem dX7_load_18 : decode cX7_load 18 = .ok (.iconst 1, 1) := by decide +kernel
theorem dX7_load_19 : decode cX7_load 19 = .ok (.goto 4, 3) := by decide +kernel
theorem dX7_load_22 : decode cX7_load 22 = .ok (.iconst 0, 1) := by decide +kernel
theorem dX7_load_23 : decode cX7_load 23 = .ok (.iconst 1, 1) := by decide +kernel
theorem dX7_load_24 : decode cX7_load 24 = .ok (.invokevirtual 194, 3) := by decide +kernel
theorem dX7_load_27 : decode cX7_load 27 = .ok (.ifCond .eq 5, 3) := by decide +kernel
theorem dX7_load_30 : decode cX7_load 30 = .ok (.iconst 0, 1) := by decide +kernel
theorem dX7_load_31 : decode cX7_load 31 = .ok (.ireturn, 1) := by decide +kernel
theorem dX7_load_32 : decode cX7_load 32 = .ok (.aload_n 0, 1) := by decide +kernel
theorem dX7_load_33 : decode cX7_load 33 = .ok (.iconst 0, 1) := by decide +kernel
theorem dX7_load_34 : decode cX7_load 34 = .ok (.putfield 48, 3) := by decide +kernel
theorem dX7_load_37 : decode cX7_load 37 = .ok (.aload_n 0, 1) := by decide +kernel
theorem dX7_load_38 : decode cX7_load 38 = .ok (.iload_n 1, 1) := by decide +kernel
theorem dX7_load_39 : decode cX7_load 39 = .ok (.putfield 51, 3) := by decide +kernel
theorem dX7_load_42 : decode cX7_load 42 = .ok (.aload_n 0, 1) := by decide +kernel
theorem dX7_load_43 : decode cX7_load 43 = .ok (.iconst 0, 1) := by decide +kernel
theorem dX7_load_44 : decode cX7_load 44 = .ok (.putfield 54, 3) := by decide +kernel
theorem dX7_load_47 : decode cX7_load 47 = .ok (.aload_n 0, 1) := by decide +kernel
theorem dX7_load_48 : decode cX7_load 48 = .ok (.iconst 0, 1) := by decide +kernel
theorem dX7_load_49 : decode cX7_load 49 = .ok (.putfield 61, 3) := by decide +kernel
theorem dX7_load_52 : decode cX7_load 52 = .ok (.aload_n 0, 1) := by decide +kernel
theorem dX7_load_53 : decode cX7_load 53 = .ok (.iconst (-1), 1) := by decide +kernel
theorem dX7_load_54 : decode cX7_load 54 = .ok (.putfield 64, 3) := by decide +kernel
theorem dX7_load_57 : decode cX7_load 57 = .ok (.aload_n 0, 1) := by decide +kernel
theorem dX7_load_58 : decode cX7_load 58 = .ok (.iconst 0, 1) := by decide +kernel
theorem dX7_load_59 : decode cX7_load 59 = .ok (.putfield 115, 3) := by decide +kernel
theorem dX7_load_62 : decode cX7_load 62 = .ok (.aload_n 0, 1) := by decide +kernel
theorem dX7_load_63 : decode cX7_load 63 = .ok (.iconst 0, 1) := by decide +kernel
theorem dX7_load_64 : decode cX7_load 64 = .ok (.putfield 165, 3) := by decide +kernel
theorem dX7_load_67 : decode cX7_load 67 = .ok (.aload_n 0, 1) := by decide +kernel
theorem dX7_load_68 : decode cX7_load 68 = .ok (.iconst 0, 1) := by decide +kernel
theorem dX7_load_69 : decode cX7_load 69 = .ok (.putfield 146, 3) := by decide +kernel
theorem dX7_load_72 : decode cX7_load 72 = .ok (.iconst 0, 1) := by decide +kernel
theorem dX7_load_73 : decode cX7_load 73 = .ok (.istore_n 2, 1) := by decide +kernel
theorem dX7_load_74 : decode cX7_load 74 = .ok (.iload_n 2, 1) := by decide +kernel
theorem dX7_load_75 : decode cX7_load 75 = .ok (.sipush 1476, 3) := by decide +kernel
theorem dX7_load_78 : decode cX7_load 78 = .ok (.if_icmp .ge 16, 3) := by decide +kernel
theorem dX7_load_81 : decode cX7_load 81 = .ok (.aload_n 0, 1) := by decide +kernel
theorem dX7_load_82 : decode cX7_load 82 = .ok (.getfield 20, 3) := by decide +kernel
theorem dX7_load_85 : decode cX7_load 85 = .ok (.iload_n 2, 1) := by decide +kernel
theorem dX7_load_86 : decode cX7_load 86 = .ok (.iconst 0, 1) := by decide +kernel
theorem dX7_load_87 : decode cX7_load 87 = .ok (.iastore, 1) := by decide +kernel
theorem dX7_load_88 : decode cX7_load 88 = .ok (.iinc 2 1, 3) := by decide +kernel
theorem dX7_load_91 : decode cX7_load 91 = .ok (.goto (-17), 3) := by decide +kernel
theorem dX7_load_94 : decode cX7_load 94 = .ok (.aload_n 0, 1) := by decide +kernel
theorem dX7_load_95 : decode cX7_load 95 = .ok (.getfield 20, 3) := by decide +kernel
theorem dX7_load_98 : decode cX7_load 98 = .ok (.iconst 4, 1) := by decide +kernel
theorem dX7_load_99 : decode cX7_load 99 = .ok (.iconst (-1), 1) := by decide +kernel
theorem dX7_load_100 : decode cX7_load 100 = .ok (.iastore, 1) := by decide +kernel
theorem dX7_load_101 : decode cX7_load 101 = .ok (.iconst 0, 1) := by decide +kernel
theorem dX7_load_102 : decode cX7_load 102 = .ok (.istore_n 2, 1) := by decide +kernel
theorem dX7_load_103 : decode cX7_load 103 = .ok (.iload_n 2, 1) := by decide +kernel
theorem dX7_load_104 : decode cX7_load 104 = .ok (.bipush 12, 2) := by decide +kernel
theorem dX7_load_106 : decode cX7_load 106 = .ok (.if_icmp .ge 21, 3) := by decide +kernel
theorem dX7_load_109 : decode cX7_load 109 = .ok (.aload_n 0, 1) := by decide +kernel
theorem dX7_load_110 : decode cX7_load 110 = .ok (.getfield 20, 3) := by decide +kernel
theorem dX7_load_113 : decode cX7_load 113 = .ok (.iload_n 2, 1) := by decide +kernel
theorem dX7_load_114 : decode cX7_load 114 = .ok (.invokestatic 143, 3) := by decide +kernel
theorem dX7_load_117 : decode cX7_load 117 = .ok (.iconst 4, 1) := by decide +kernel
theorem dX7_load_118 : decode cX7_load 118 = .ok (.iadd, 1) := by decide +kernel
theorem dX7_load_119 : decode cX7_load 119 = .ok (.iconst (-1), 1) := by decide +kernel
theorem dX7_load_120 : decode cX7_load 120 = .ok (.iastore, 1) := by decide +kernel
theorem dX7_load_121 : decode cX7_load 121 = .ok (.iinc 2 1, 3) := by decide +kernel
theorem dX7_load_124 : decode cX7_load 124 = .ok (.goto (-21), 3) := by decide +kernel
theorem dX7_load_127 : decode cX7_load 127 = .ok (.aload_n 0, 1) := by decide +kernel
theorem dX7_load_128 : decode cX7_load 128 = .ok (.ldc 198, 2) := by decide +kernel
theorem dX7_load_130 : decode cX7_load 130 = .ok (.invokevirtual 109, 3) := by decide +kernel
theorem dX7_load_133 : decode cX7_load 133 = .ok (.ifCond .ne 13, 3) := by decide +kernel
theorem dX7_load_136 : decode cX7_load 136 = .ok (.aload_n 0, 1) := by decide +kernel
theorem dX7_load_137 : decode cX7_load 137 = .ok (.bipush (-2), 2) := by decide +kernel
theorem dX7_load_139 : decode cX7_load 139 = .ok (.aload_n 0, 1) := by decide +kernel
theorem dX7_load_140 : decode cX7_load 140 = .ok (.getfield 54, 3) := by decide +kernel
theorem dX7_load_143 : decode cX7_load 143 = .ok (.invokevirtual 88, 3) := by decide +kernel
theorem dX7_load_146 : decode cX7_load 146 = .ok (.aload_n 0, 1) := by decide +kernel
theorem dX7_load_147 : decode cX7_load 147 = .ok (.getfield 20, 3) := by decide +kernel
theorem dX7_load_150 : decode cX7_load 150 = .ok (.iconst 0, 1) := by decide +kernel
theorem dX7_load_151 : decode cX7_load 151 = .ok (.aload_n 0, 1) := by decide +kernel
theorem dX7_load_152 : decode cX7_load 152 = .ok (.iconst 2, 1) := by decide +kernel
theorem dX7_load_153 : decode cX7_load 153 = .ok (.bipush 12, 2) := by decide +kernel
theorem dX7_load_155 : decode cX7_load 155 = .ok (.invokevirtual 104, 3) := by decide +kernel
theorem dX7_load_158 : decode cX7_load 158 = .ok (.iastore, 1) := by decide +kernel
theorem dX7_load_159 : decode cX7_load 159 = .ok (.aload_n 0, 1) := by decide +kernel
theorem dX7_load_160 : decode cX7_load 160 = .ok (.getfield 20, 3) := by decide +kernel
theorem dX7_load_163 : decode cX7_load 163 = .ok (.iconst 1, 1) := by decide +kernel
theorem dX7_load_164 : decode cX7_load 164 = .ok (.aload_n 0, 1) := by decide +kernel
theorem dX7_load_165 : decode cX7_load 165 = .ok (.iconst 1, 1) := by decide +kernel
theorem dX7_load_166 : decode cX7_load 166 = .ok (.iconst 4, 1) := by decide +kernel
theorem dX7_load_167 : decode cX7_load 167 = .ok (.invokevirtual 104, 3) := by decide +kernel
theorem dX7_load_170 : decode cX7_load 170 = .ok (.iastore, 1) := by decide +kernel
theorem dX7_load_171 : decode cX7_load 171 = .ok (.aload_n 0, 1) := by decide +kernel
theorem dX7_load_172 : decode cX7_load 172 = .ok (.bipush 59, 2) := by decide +kernel
theorem dX7_load_174 : decode cX7_load 174 = .ok (.invokevirtual 121, 3) := by decide +kernel
theorem dX7_load_177 : decode cX7_load 177 = .ok (.aload_n 0, 1) := by decide +kernel
theorem dX7_load_178 : decode cX7_load 178 = .ok (.invokevirtual 71, 3) := by decide +kernel
theorem dX7_load_181 : decode cX7_load 181 = .ok (.ifCond .eq 18, 3) := by decide +kernel
theorem dX7_load_184 : decode cX7_load 184 = .ok (.aload_n 0, 1) := by decide +kernel
theorem dX7_load_185 : decode cX7_load 185 = .ok (.invokevirtual 75, 3) := by decide +kernel
theorem dX7_load_188 : decode cX7_load 188 = .ok (.iconst (-1), 1) := by decide +kernel
theorem dX7_load_189 : decode cX7_load 189 = .ok (.if_icmp .eq 10, 3) := by decide +kernel
theorem dX7_load_192 : decode cX7_load 192 = .ok (.aload_n 0, 1) := by decide +kernel
theorem dX7_load_193 : decode cX7_load 193 = .ok (.invokevirtual 200, 3) := by decide +kernel
theorem dX7_load_196 : decode cX7_load 196 = .ok (.goto (-19), 3) := by decide +kernel
theorem dX7_load_199 : decode cX7_load 199 = .ok (.aload_n 0, 1) := by decide +kernel
theorem dX7_load_200 : decode cX7_load 200 = .ok (.aload_n 0, 1) := by decide +kernel
theorem dX7_load_201 : decode cX7_load 201 = .ok (.getfield 64, 3) := by decide +kernel
theorem dX7_load_204 : decode cX7_load 204 = .ok (.putfield 13, 3) := by decide +kernel
theorem dX7_load_207 : decode cX7_load 207 = .ok (.aload_n 0, 1) := by decide +kernel
theorem dX7_load_208 : decode cX7_load 208 = .ok (.invokevirtual 71, 3) := by decide +kernel
theorem dX7_load_211 : decode cX7_load 211 = .ok (.ifCond .ne 8, 3) := by decide +kernel
theorem dX7_load_214 : decode cX7_load 214 = .ok (.aload_n 0, 1) := by decide +kernel
theorem dX7_load_215 : decode cX7_load 215 = .ok (.getfield 61, 3) := by decide +kernel
theorem dX7_load_218 : decode cX7_load 218 = .ok (.ireturn, 1) := by decide +kernel
theorem dX7_load_219 : decode cX7_load 219 = .ok (.aload_n 0, 1) := by decide +kernel
theorem dX7_load_220 : decode cX7_load 220 = .ok (.invokevirtual 203, 3) := by decide +kernel
theorem dX7_load_223 : decode cX7_load 223 = .ok (.aload_n 0, 1) := by decide +kernel
theorem dX7_load_224 : decode cX7_load 224 = .ok (.getfield 20, 3) := by decide +kernel
theorem dX7_load_227 : decode cX7_load 227 = .ok (.aload_n 0, 1) := by decide +kernel
theorem dX7_load_228 : decode cX7_load 228 = .ok (.getfield 17, 3) := by decide +kernel
theorem dX7_load_231 : decode cX7_load 231 = .ok (.invokestatic 206, 3) := by decide +kernel
theorem dX7_load_234 : decode cX7_load 234 = .ok (.aload_n 0, 1) := by decide +kernel
theorem dX7_load_235 : decode cX7_load 235 = .ok (.getfield 17, 3) := by decide +kernel
theorem dX7_load_238 : decode cX7_load 238 = .ok (.iconst 2, 1) := by decide +kernel
theorem dX7_load_239 : decode cX7_load 239 = .ok (.iaload, 1) := by decide +kernel
theorem dX7_load_240 : decode cX7_load 240 = .ok (.ireturn, 1) := by decide +kernel
theorem dX7_errorOffset_0 : decode cX7_errorOffset 0 = .ok (.aload_n 0, 1) := by decide +kernel
theorem dX7_errorOffset_1 : decode cX7_errorOffset 1 = .ok (.iconst 0, 1) := by decide +kernel
theorem dX7_errorOffset_2 : decode cX7_errorOffset 2 = .ok (.putfield 45, 3) := by decide +kernel
theorem dX7_errorOffset_5 : decode cX7_errorOffset 5 = .ok (.aload_n 0, 1) := by decide +kernel
theorem dX7_errorOffset_6 : decode cX7_errorOffset 6 = .ok (.getfield 13, 3) := by decide +kernel
theorem dX7_errorOffset_9 : decode cX7_errorOffset 9 = .ok (.ireturn, 1) := by decide +kernel
theorem dX7_flowOf_0 : decode cX7_flowOf 0 = .ok (.aload_n 0, 1) := by decide +kernel
theorem dX7_flowOf_1 : decode cX7_flowOf 1 = .ok (.iconst 5, 1) := by decide +kernel
theorem dX7_flowOf_2 : decode cX7_flowOf 2 = .ok (.iaload, 1) := by decide +kernel
theorem dX7_flowOf_3 : decode cX7_flowOf 3 = .ok (.istore_n 1, 1) := by decide +kernel
theorem dX7_flowOf_4 : decode cX7_flowOf 4 = .ok (.iconst 0, 1) := by decide +kernel
theorem dX7_flowOf_5 : decode cX7_flowOf 5 = .ok (.istore_n 2, 1) := by decide +kernel
theorem dX7_flowOf_6 : decode cX7_flowOf 6 = .ok (.iload_n 2, 1) := by decide +kernel
theorem dX7_flowOf_7 : decode cX7_flowOf 7 = .ok (.aload_n 0, 1) := by decide +kernel
theorem dX7_flowOf_8 : decode cX7_flowOf 8 = .ok (.iconst 0, 1) := by decide +kernel
theorem dX7_flowOf_9 : decode cX7_flowOf 9 = .ok (.iaload, 1) := by decide +kernel
theorem dX7_flowOf_10 : decode cX7_flowOf 10 = .ok (.if_icmp .ge 20, 3) := by decide +kernel
theorem dX7_flowOf_13 : decode cX7_flowOf 13 = .ok (.iload_n 1, 1) := by decide +kernel
theorem dX7_flowOf_14 : decode cX7_flowOf 14 = .ok (.aload_n 0, 1) := by decide +kernel
theorem dX7_flowOf_15 : decode cX7_flowOf 15 = .ok (.iload_n 2, 1) := by decide +kernel
theorem dX7_flowOf_16 : decode cX7_flowOf 16 = .ok (.invokestatic 143, 3) := by decide +kernel
theorem dX7_flowOf_19 : decode cX7_flowOf 19 = .ok (.iconst 2, 1) := by decide +kernel
theorem dX7_flowOf_20 : decode cX7_flowOf 20 = .ok (.iadd, 1) := by decide +kernel
theorem dX7_flowOf_21 : decode cX7_flowOf 21 = .ok (.iaload, 1) := by decide +kernel
theorem dX7_flowOf_22 : decode cX7_flowOf 22 = .ok (.iadd, 1) := by decide +kernel
theorem dX7_flowOf_23 : decode cX7_flowOf 23 = .ok (.istore_n 1, 1) := by decide +kernel
theorem dX7_flowOf_24 : decode cX7_flowOf 24 = .ok (.iinc 2 1, 3) := by decide +kernel
theorem dX7_flowOf_27 : decode cX7_flowOf 27 = .ok (.goto (-21), 3) := by decide +kernel
theorem dX7_flowOf_30 : decode cX7_flowOf 30 = .ok (.iload_n 1, 1) := by decide +kernel
theorem dX7_flowOf_31 : decode cX7_flowOf 31 = .ok (.bipush 100, 2) := by decide +kernel
theorem dX7_flowOf_33 : decode cX7_flowOf 33 = .ok (.if_icmp .le 8, 3) := by decide +kernel
theorem dX7_flowOf_36 : decode cX7_flowOf 36 = .ok (.bipush 100, 2) := by decide +kernel
theorem dX7_flowOf_38 : decode cX7_flowOf 38 = .ok (.goto 15, 3) := by decide +kernel
theorem dX7_flowOf_41 : decode cX7_flowOf 41 = .ok (.iload_n 1, 1) := by decide +kernel
theorem dX7_flowOf_42 : decode cX7_flowOf 42 = .ok (.bipush (-100), 2) := by decide +kernel
theorem dX7_flowOf_44 : decode cX7_flowOf 44 = .ok (.if_icmp .ge 8, 3) := by decide +kernel
theorem dX7_flowOf_47 : decode cX7_flowOf 47 = .ok (.bipush (-100), 2) := by decide +kernel
theorem dX7_flowOf_49 : decode cX7_flowOf 49 = .ok (.goto 4, 3) := by decide +kernel
theorem dX7_flowOf_52 : decode cX7_flowOf 52 = .ok (.iload_n 1, 1) := by decide +kernel
theorem dX7_flowOf_53 : decode cX7_flowOf 53 = .ok (.ireturn, 1) := by decide +kernel
theorem dX7_insideOf_0 : decode cX7_insideOf 0 = .ok (.iconst 0, 1) := by decide +kernel
theorem dX7_insideOf_1 : decode cX7_insideOf 1 = .ok (.istore_n 1, 1) := by decide +kernel
theorem dX7_insideOf_2 : decode cX7_insideOf 2 = .ok (.iconst 0, 1) := by decide +kernel
theorem dX7_insideOf_3 : decode cX7_insideOf 3 = .ok (.istore_n 2, 1) := by decide +kernel
theorem dX7_insideOf_4 : decode cX7_insideOf 4 = .ok (.iload_n 2, 1) := by decide +kernel
theorem dX7_insideOf_5 : decode cX7_insideOf 5 = .ok (.aload_n 0, 1) := by decide +kernel
theorem dX7_insideOf_6 : decode cX7_insideOf 6 = .ok (.iconst 2, 1) := by decide +kernel
theorem dX7_insideOf_7 : decode cX7_insideOf 7 = .ok (.iaload, 1) := by decide +kernel
theorem dX7_insideOf_8 : decode cX7_insideOf 8 = .ok (.if_icmp .ge 26, 3) := by decide +kernel
theorem dX7_insideOf_11 : decode cX7_insideOf 11 = .ok (.iload_n 1, 1) := by decide +kernel
theorem dX7_insideOf_12 : decode cX7_insideOf 12 = .ok (.aload_n 0, 1) := by decide +kernel
theorem dX7_insideOf_13 : decode cX7_insideOf 13 = .ok (.iload_n 2, 1) := by decide +kernel
theorem dX7_insideOf_14 : decode cX7_insideOf 14 = .ok (.invokestatic 162, 3) := by decide +kernel
theorem dX7_insideOf_17 : decode cX7_insideOf 17 = .ok (.iaload, 1) := by decide +kernel
theorem dX7_insideOf_18 : decode cX7_insideOf 18 = .ok (.ifCond .lt 7, 3) := by decide +kernel
theorem dX7_insideOf_21 : decode cX7_insideOf 21 = .ok (.iconst 1, 1) := by decide +kernel
theorem dX7_insideOf_22 : decode cX7_insideOf 22 = .ok (.goto 4, 3) := by decide +kernel
theorem dX7_insideOf_25 : decode cX7_insideOf 25 = .ok (.iconst 0, 1) := by decide +kernel
theorem dX7_insideOf_26 : decode cX7_insideOf 26 = .ok (.iadd, 1) := by decide +kernel
theorem dX7_insideOf_27 : decode cX7_insideOf 27 = .ok (.istore_n 1, 1) := by decide +kernel
theorem dX7_insideOf_28 : decode cX7_insideOf 28 = .ok (.iinc 2 1, 3) := by decide +kernel
theorem dX7_insideOf_31 : decode cX7_insideOf 31 = .ok (.goto (-27), 3) := by decide +kernel
theorem dX7_insideOf_34 : decode cX7_insideOf 34 = .ok (.iload_n 1, 1) := by decide +kernel
theorem dX7_insideOf_35 : decode cX7_insideOf 35 = .ok (.ireturn, 1) := by decide +kernel
theorem dX7_limited_0 : decode cX7_limited 0 = .ok (.lload_n 0, 1) := by decide +kernel
theorem dX7_limited_1 : decode cX7_limited 1 = .ok (.ldc2_w 210, 3) := by decide +kernel
theorem dX7_limited_4 : decode cX7_limited 4 = .ok (.lcmp, 1) := by decide +kernel
theorem dX7_limited_5 : decode cX7_limited 5 = .ok (.ifCond .le 9, 3) := by decide +kernel
theorem dX7_limited_8 : decode cX7_limited 8 = .ok (.ldc2_w 210, 3) := by decide +kernel
theorem dX7_limited_11 : decode cX7_limited 11 = .ok (.goto 18, 3) := by decide +kernel
theorem dX7_limited_14 : decode cX7_limited 14 = .ok (.lload_n 0, 1) := by decide +kernel
theorem dX7_limited_15 : decode cX7_limited 15 = .ok (.ldc2_w 212, 3) := by decide +kernel
theorem dX7_limited_18 : decode cX7_limited 18 = .ok (.lcmp, 1) := by decide +kernel
theorem dX7_limited_19 : decode cX7_limited 19 = .ok (.ifCond .ge 9, 3) := by decide +kernel
theorem dX7_limited_22 : decode cX7_limited 22 = .ok (.ldc2_w 212, 3) := by decide +kernel
theorem dX7_limited_25 : decode cX7_limited 25 = .ok (.goto 4, 3) := by decide +kernel
theorem dX7_limited_28 : decode cX7_limited 28 = .ok (.lload_n 0, 1) := by decide +kernel
theorem dX7_limited_29 : decode cX7_limited 29 = .ok (.lreturn, 1) := by decide +kernel
theorem dX7_operate_0 : decode cX7_operate 0 = .ok (.iload_n 0, 1) := by decide +kernel
theorem dX7_operate_1 : decode cX7_operate 1 = .ok (.iconst 5, 1) := by decide +kernel
theorem dX7_operate_2 : decode cX7_operate 2 = .ok (.if_icmp .ne 17, 3) := by decide +kernel
theorem dX7_operate_5 : decode cX7_operate 5 = .ok (.lload_n 3, 1) := by decide +kernel
theorem dX7_operate_6 : decode cX7_operate 6 = .ok (.lconst 0, 1) := by decide +kernel
theorem dX7_operate_7 : decode cX7_operate 7 = .ok (.lcmp, 1) := by decide +kernel
theorem dX7_operate_8 : decode cX7_operate 8 = .ok (.ifCond .ne 7, 3) := by decide +kernel
theorem dX7_operate_11 : decode cX7_operate 11 = .ok (.lconst 0, 1) := by decide +kernel
theorem dX7_operate_12 : decode cX7_operate 12 = .ok (.goto 6, 3) := by decide +kernel
theorem dX7_operate_15 : decode cX7_operate 15 = .ok (.lload_n 1, 1) := by decide +kernel
theorem dX7_operate_16 : decode cX7_operate 16 = .ok (.lload_n 3, 1) := by decide +kernel
theorem dX7_operate_17 : decode cX7_operate 17 = .ok (.ldiv, 1) := by decide +kernel
theorem dX7_operate_18 : decode cX7_operate 18 = .ok (.lreturn, 1) := by decide +kernel
theorem dX7_operate_19 : decode cX7_operate 19 = .ok (.iload_n 0, 1) := by decide +kernel
theorem dX7_operate_20 : decode cX7_operate 20 = .ok (.iconst 2, 1) := by decide +kernel
theorem dX7_operate_21 : decode cX7_operate 21 = .ok (.if_icmp .ne 9, 3) := by decide +kernel
theorem dX7_operate_24 : decode cX7_operate 24 = .ok (.lload_n 1, 1) := by decide +kernel
theorem dX7_operate_25 : decode cX7_operate 25 = .ok (.lload_n 3, 1) := by decide +kernel
theorem dX7_operate_26 : decode cX7_operate 26 = .ok (.ladd, 1) := by decide +kernel
theorem dX7_operate_27 : decode cX7_operate 27 = .ok (.goto 17, 3) := by decide +kernel
theorem dX7_operate_30 : decode cX7_operate 30 = .ok (.iload_n 0, 1) := by decide +kernel
theorem dX7_operate_31 : decode cX7_operate 31 = .ok (.iconst 3, 1) := by decide +kernel
theorem dX7_operate_32 : decode cX7_operate 32 = .ok (.if_icmp .ne 9, 3) := by decide +kernel
theorem dX7_operate_35 : decode cX7_operate 35 = .ok (.lload_n 1, 1) := by decide +kernel
theorem dX7_operate_36 : decode cX7_operate 36 = .ok (.lload_n 3, 1) := by decide +kernel
theorem dX7_operate_37 : decode cX7_operate 37 = .ok (.lsub, 1) := by decide +kernel
theorem dX7_operate_38 : decode cX7_operate 38 = .ok (.goto 6, 3) := by decide +kernel
theorem dX7_operate_41 : decode cX7_operate 41 = .ok (.lload_n 1, 1) := by decide +kernel
theorem dX7_operate_42 : decode cX7_operate 42 = .ok (.lload_n 3, 1) := by decide +kernel
theorem dX7_operate_43 : decode cX7_operate 43 = .ok (.lmul, 1) := by decide +kernel
theorem dX7_operate_44 : decode cX7_operate 44 = .ok (.invokestatic 214, 3) := by decide +kernel
theorem dX7_operate_47 : decode cX7_operate 47 = .ok (.lreturn, 1) := by decide +kernel
theorem dX7_rateOf_0 : decode cX7_rateOf 0 = .ok (.aload_n 1, 1) := by decide +kernel
theorem dX7_rateOf_1 : decode cX7_rateOf 1 = .ok (.iconst 4, 1) := by decide +kernel
theorem dX7_rateOf_2 : decode cX7_rateOf 2 = .ok (.iaload, 1) := by decide +kernel
theorem dX7_rateOf_3 : decode cX7_rateOf 3 = .ok (.ifCond .ge 5, 3) := by decide +kernel
theorem dX7_rateOf_6 : decode cX7_rateOf 6 = .ok (.iconst 0, 1) := by decide +kernel
theorem dX7_rateOf_7 : decode cX7_rateOf 7 = .ok (.ireturn, 1) := by decide +kernel
theorem dX7_rateOf_8 : decode cX7_rateOf 8 = .ok (.aload_n 1, 1) := by decide +kernel
theorem dX7_rateOf_9 : decode cX7_rateOf 9 = .ok (.bipush 6, 2) := by decide +kernel
theorem dX7_rateOf_11 : decode cX7_rateOf 11 = .ok (.iaload, 1) := by decide +kernel
theorem dX7_rateOf_12 : decode cX7_rateOf 12 = .ok (.ifCond .ne 6, 3) := by decide +kernel
theorem dX7_rateOf_15 : decode cX7_rateOf 15 = .ok (.bipush 100, 2) := by decide +kernel
theorem dX7_rateOf_17 : decode cX7_rateOf 17 = .ok (.ireturn, 1) := by decide +kernel
theorem dX7_rateOf_18 : decode cX7_rateOf 18 = .ok (.iconst 0, 1) := by decide +kernel
theorem dX7_rateOf_19 : decode cX7_rateOf 19 = .ok (.istore_n 2, 1) := by decide +kernel
theorem dX7_rateOf_20 : decode cX7_rateOf 20 = .ok (.aload_n 1, 1) := by decide +kernel
theorem dX7_rateOf_21 : decode cX7_rateOf 21 = .ok (.invokestatic 218, 3) := by decide +kernel
theorem dX7_rateOf_24 : decode cX7_rateOf 24 = .ok (.istore_n 3, 1) := by decide +kernel
theorem dX7_rateOf_25 : decode cX7_rateOf 25 = .ok (.aload_n 1, 1) := by decide +kernel
theorem dX7_rateOf_26 : decode cX7_rateOf 26 = .ok (.invokestatic 222, 3) := by decide +kernel
theorem dX7_rateOf_29 : decode cX7_rateOf 29 = .ok (.istore 4, 2) := by decide +kernel
theorem dX7_rateOf_31 : decode cX7_rateOf 31 = .ok (.iconst 0, 1) := by decide +kernel
theorem dX7_rateOf_32 : decode cX7_rateOf 32 = .ok (.istore 5, 2) := by decide +kernel
theorem dX7_rateOf_34 : decode cX7_rateOf 34 = .ok (.iload 5, 2) := by decide +kernel
theorem dX7_rateOf_36 : decode cX7_rateOf 36 = .ok (.aload_n 1, 1) := by decide +kernel
theorem dX7_rateOf_37 : decode cX7_rateOf 37 = .ok (.bipush 7, 2) := by decide +kernel
theorem dX7_rateOf_39 : decode cX7_rateOf 39 = .ok (.iaload, 1) := by decide +kernel
theorem dX7_rateOf_40 : decode cX7_rateOf 40 = .ok (.if_icmp .ge 117, 3) := by decide +kernel
theorem dX7_rateOf_43 : decode cX7_rateOf 43 = .ok (.aload_n 1, 1) := by decide +kernel
theorem dX7_rateOf_44 : decode cX7_rateOf 44 = .ok (.sipush 176, 3) := by decide +kernel
theorem dX7_rateOf_47 : decode cX7_rateOf 47 = .ok (.iload 5, 2) := by decide +kernel
theorem dX7_rateOf_49 : decode cX7_rateOf 49 = .ok (.iadd, 1) := by decide +kernel
theorem dX7_rateOf_50 : decode cX7_rateOf 50 = .ok (.iaload, 1) := by decide +kernel
theorem dX7_rateOf_51 : decode cX7_rateOf 51 = .ok (.istore 6, 2) := by decide +kernel
theorem dX7_rateOf_53 : decode cX7_rateOf 53 = .ok (.iload 6, 2) := by decide +kernel
theorem dX7_rateOf_55 : decode cX7_rateOf 55 = .ok (.iconst 1, 1) := by decide +kernel
theorem dX7_rateOf_56 : decode cX7_rateOf 56 = .ok (.if_icmp .gt 65, 3) := by decide +kernel
theorem dX7_rateOf_59 : decode cX7_rateOf 59 = .ok (.iinc 5 1, 3) := by decide +kernel
theorem dX7_rateOf_62 : decode cX7_rateOf 62 = .ok (.aload_n 1, 1) := by decide +kernel
theorem dX7_rateOf_63 : decode cX7_rateOf 63 = .ok (.sipush 176, 3) := by decide +kernel
theorem dX7_rateOf_66 : decode cX7_rateOf 66 = .ok (.iload 5, 2) := by decide +kernel
theorem dX7_rateOf_68 : decode cX7_rateOf 68 = .ok (.iadd, 1) := by decide +kernel
theorem dX7_rateOf_69 : decode cX7_rateOf 69 = .ok (.iaload, 1) := by decide +kernel
theorem dX7_rateOf_70 : decode cX7_rateOf 70 = .ok (.istore 7, 2) := by decide +kernel
theorem dX7_rateOf_72 : decode cX7_rateOf 72 = .ok (.aload_n 0, 1) := by decide +kernel
theorem dX7_rateOf_73 : decode cX7_rateOf 73 = .ok (.getfield 31, 3) := by decide +kernel
theorem dX7_rateOf_76 : decode cX7_rateOf 76 = .ok (.iload_n 2, 1) := by decide +kernel
theorem dX7_rateOf_77 : decode cX7_rateOf 77 = .ok (.iload 6, 2) := by decide +kernel
theorem dX7_rateOf_79 : decode cX7_rateOf 79 = .ok (.ifCond .ne 9, 3) := by decide +kernel
theorem dX7_rateOf_82 : decode cX7_rateOf 82 = .ok (.iload 7, 2) := by decide +kernel
theorem dX7_rateOf_84 : decode cX7_rateOf 84 = .ok (.i2l, 1) := by decide +kernel
theorem dX7_rateOf_85 : decode cX7_rateOf 85 = .ok (.goto 29, 3) := by decide +kernel
theorem dX7_rateOf_88 : decode cX7_rateOf 88 = .ok (.iload 7, 2) := by decide +kernel
theorem dX7_rateOf_90 : decode cX7_rateOf 90 = .ok (.ifCond .ne 10, 3) := by decide +kernel
theorem dX7_rateOf_93 : decode cX7_rateOf 93 = .ok (.aload_n 1, 1) := by decide +kernel
theorem dX7_rateOf_94 : decode cX7_rateOf 94 = .ok (.iconst 3, 1) := by decide +kernel
theorem dX7_rateOf_95 : decode cX7_rateOf 95 = .ok (.iaload, 1) := by decide +kernel
theorem dX7_rateOf_96 : decode cX7_rateOf 96 = .ok (.i2l, 1) := by decide +kernel
theorem dX7_rateOf_97 : decode cX7_rateOf 97 = .ok (.goto 17, 3) := by decide +kernel
theorem dX7_rateOf_100 : decode cX7_rateOf 100 = .ok (.iload 7, 2) := by decide +kernel
theorem dX7_rateOf_102 : decode cX7_rateOf 102 = .ok (.iconst 1, 1) := by decide +kernel
theorem dX7_rateOf_103 : decode cX7_rateOf 103 = .ok (.if_icmp .ne 8, 3) := by decide +kernel
theorem dX7_rateOf_106 : decode cX7_rateOf 106 = .ok (.iload_n 3, 1) := by decide +kernel
theorem dX7_rateOf_107 : decode cX7_rateOf 107 = .ok (.i2l, 1) := by decide +kernel
theorem dX7_rateOf_108 : decode cX7_rateOf 108 = .ok (.goto 6, 3) := by decide +kernel
theorem dX7_rateOf_111 : decode cX7_rateOf 111 = .ok (.iload 4, 2) := by decide +kernel
theorem dX7_rateOf_113 : decode cX7_rateOf 113 = .ok (.i2l, 1) := by decide +kernel
theorem dX7_rateOf_114 : decode cX7_rateOf 114 = .ok (.lastore, 1) := by decide +kernel
theorem dX7_rateOf_115 : decode cX7_rateOf 115 = .ok (.iinc 2 1, 3) := by decide +kernel
theorem dX7_rateOf_118 : decode cX7_rateOf 118 = .ok (.goto 33, 3) := by decide +kernel
theorem dX7_rateOf_121 : decode cX7_rateOf 121 = .ok (.iinc 2 (-1), 3) := by decide +kernel
theorem dX7_rateOf_124 : decode cX7_rateOf 124 = .ok (.aload_n 0, 1) := by decide +kernel
theorem dX7_rateOf_125 : decode cX7_rateOf 125 = .ok (.getfield 31, 3) := by decide +kernel
theorem dX7_rateOf_128 : decode cX7_rateOf 128 = .ok (.iload_n 2, 1) := by decide +kernel
theorem dX7_rateOf_129 : decode cX7_rateOf 129 = .ok (.iconst 1, 1) := by decide +kernel
theorem dX7_rateOf_130 : decode cX7_rateOf 130 = .ok (.isub, 1) := by decide +kernel
theorem dX7_rateOf_131 : decode cX7_rateOf 131 = .ok (.iload 6, 2) := by decide +kernel
theorem dX7_rateOf_133 : decode cX7_rateOf 133 = .ok (.aload_n 0, 1) := by decide +kernel
theorem dX7_rateOf_134 : decode cX7_rateOf 134 = .ok (.getfield 31, 3) := by decide +kernel
theorem dX7_rateOf_137 : decode cX7_rateOf 137 = .ok (.iload_n 2, 1) := by decide +kernel
theorem dX7_rateOf_138 : decode cX7_rateOf 138 = .ok (.iconst 1, 1) := by decide +kernel
theorem dX7_rateOf_139 : decode cX7_rateOf 139 = .ok (.isub, 1) := by decide +kernel
theorem dX7_rateOf_140 : decode cX7_rateOf 140 = .ok (.laload, 1) := by decide +kernel
theorem dX7_rateOf_141 : decode cX7_rateOf 141 = .ok (.aload_n 0, 1) := by decide +kernel
theorem dX7_rateOf_142 : decode cX7_rateOf 142 = .ok (.getfield 31, 3) := by decide +kernel
theorem dX7_rateOf_145 : decode cX7_rateOf 145 = .ok (.iload_n 2, 1) := by decide +kernel
theorem dX7_rateOf_146 : decode cX7_rateOf 146 = .ok (.laload, 1) := by decide +kernel
theorem dX7_rateOf_147 : decode cX7_rateOf 147 = .ok (.invokestatic 225, 3) := by decide +kernel
theorem dX7_rateOf_150 : decode cX7_rateOf 150 = .ok (.lastore, 1) := by decide +kernel
theorem dX7_rateOf_151 : decode cX7_rateOf 151 = .ok (.iinc 5 1, 3) := by decide +kernel
theorem dX7_rateOf_154 : decode cX7_rateOf 154 = .ok (.goto (-120), 3) := by decide +kernel
theorem dX7_rateOf_157 : decode cX7_rateOf 157 = .ok (.aload_n 0, 1) := by decide +kernel
theorem dX7_rateOf_158 : decode cX7_rateOf 158 = .ok (.getfield 31, 3) := by decide +kernel
theorem dX7_rateOf_161 : decode cX7_rateOf 161 = .ok (.iconst 0, 1) := by decide +kernel
theorem dX7_rateOf_162 : decode cX7_rateOf 162 = .ok (.laload, 1) := by decide +kernel
theorem dX7_rateOf_163 : decode cX7_rateOf 163 = .ok (.lconst 0, 1) := by decide +kernel
theorem dX7_rateOf_164 : decode cX7_rateOf 164 = .ok (.lcmp, 1) := by decide +kernel
theorem dX7_rateOf_165 : decode cX7_rateOf 165 = .ok (.ifCond .ge 7, 3) := by decide +kernel
theorem dX7_rateOf_168 : decode cX7_rateOf 168 = .ok (.iconst 0, 1) := by decide +kernel
theorem dX7_rateOf_169 : decode cX7_rateOf 169 = .ok (.goto 29, 3) := by decide +kernel
theorem dX7_rateOf_172 : decode cX7_rateOf 172 = .ok (.aload_n 0, 1) := by decide +kernel
theorem dX7_rateOf_173 : decode cX7_rateOf 173 = .ok (.getfield 31, 3) := by decide +kernel
theorem dX7_rateOf_176 : decode cX7_rateOf 176 = .ok (.iconst 0, 1) := by decide +kernel
theorem dX7_rateOf_177 : decode cX7_rateOf 177 = .ok (.laload, 1) := by decide +kernel
theorem dX7_rateOf_178 : decode cX7_rateOf 178 = .ok (.ldc2_w 229, 3) := by decide +kernel
theorem dX7_rateOf_181 : decode cX7_rateOf 181 = .ok (.lcmp, 1) := by decide +kernel
theorem dX7_rateOf_182 : decode cX7_rateOf 182 = .ok (.ifCond .le 9, 3) := by decide +kernel
theorem dX7_rateOf_185 : decode cX7_rateOf 185 = .ok (.sipush 9999, 3) := by decide +kernel
theorem dX7_rateOf_188 : decode cX7_rateOf 188 = .ok (.goto 10, 3) := by decide +kernel
theorem dX7_rateOf_191 : decode cX7_rateOf 191 = .ok (.aload_n 0, 1) := by decide +kernel
theorem dX7_rateOf_192 : decode cX7_rateOf 192 = .ok (.getfield 31, 3) := by decide +kernel
theorem dX7_rateOf_195 : decode cX7_rateOf 195 = .ok (.iconst 0, 1) := by decide +kernel
theorem dX7_rateOf_196 : decode cX7_rateOf 196 = .ok (.laload, 1) := by decide +kernel
theorem dX7_rateOf_197 : decode cX7_rateOf 197 = .ok (.l2i, 1) := by decide +kernel
theorem dX7_rateOf_198 : decode cX7_rateOf 198 = .ok (.ireturn, 1) := by decide +kernel
theorem dX7_sectionCount_0 : decode cX7_sectionCount 0 = .ok (.aload_n 0, 1) := by decide +kernel
theorem dX7_sectionCount_1 : decode cX7_sectionCount 1 = .ok (.iconst 0, 1) := by decide +kernel
theorem dX7_sectionCount_2 : decode cX7_sectionCount 2 = .ok (.putfield 45, 3) := by decide +kernel
theorem dX7_sectionCount_5 : decode cX7_sectionCount 5 = .ok (.aload_n 0, 1) := by decide +kernel
theorem dX7_sectionCount_6 : decode cX7_sectionCount 6 = .ok (.getfield 17, 3) := by decide +kernel
theorem dX7_sectionCount_9 : decode cX7_sectionCount 9 = .ok (.iconst 0, 1) := by decide +kernel
theorem dX7_sectionCount_10 : decode cX7_sectionCount 10 = .ok (.iaload, 1) := by decide +kernel
theorem dX7_sectionCount_11 : decode cX7_sectionCount 11 = .ok (.ireturn, 1) := by decide +kernel
theorem dX7_carCount_0 : decode cX7_carCount 0 = .ok (.aload_n 0, 1) := by decide +kernel
theorem dX7_carCount_1 : decode cX7_carCount 1 = .ok (.iconst 0, 1) := by decide +kernel
theorem dX7_carCount_2 : decode cX7_carCount 2 = .ok (.putfield 45, 3) := by decide +kernel
theorem dX7_carCount_5 : decode cX7_carCount 5 = .ok (.aload_n 0, 1) := by decide +kernel
theorem dX7_carCount_6 : decode cX7_carCount 6 = .ok (.getfield 17, 3) := by decide +kernel
theorem dX7_carCount_9 : decode cX7_carCount 9 = .ok (.iconst 2, 1) := by decide +kernel
theorem dX7_carCount_10 : decode cX7_carCount 10 = .ok (.iaload, 1) := by decide +kernel
theorem dX7_carCount_11 : decode cX7_carCount 11 = .ok (.ireturn, 1) := by decide +kernel
theorem dX7_clock_0 : decode cX7_clock 0 = .ok (.aload_n 0, 1) := by decide +kernel
theorem dX7_clock_1 : decode cX7_clock 1 = .ok (.iconst 0, 1) := by decide +kernel
theorem dX7_clock_2 : decode cX7_clock 2 = .ok (.putfield 45, 3) := by decide +kernel
theorem dX7_clock_5 : decode cX7_clock 5 = .ok (.aload_n 0, 1) := by decide +kernel
theorem dX7_clock_6 : decode cX7_clock 6 = .ok (.getfield 17, 3) := by decide +kernel
theorem dX7_clock_9 : decode cX7_clock 9 = .ok (.iconst 3, 1) := by decide +kernel
theorem dX7_clock_10 : decode cX7_clock 10 = .ok (.iaload, 1) := by decide +kernel
theorem dX7_clock_11 : decode cX7_clock 11 = .ok (.ireturn, 1) := by decide +kernel
theorem dX7_flow_0 : decode cX7_flow 0 = .ok (.aload_n 0, 1) := by decide +kernel
theorem dX7_flow_1 : decode cX7_flow 1 = .ok (.iconst 0, 1) := by decide +kernel
theorem dX7_flow_2 : decode cX7_flow 2 = .ok (.putfield 45, 3) := by decide +kernel
theorem dX7_flow_5 : decode cX7_flow 5 = .ok (.aload_n 0, 1) := by decide +kernel
theorem dX7_flow_6 : decode cX7_flow 6 = .ok (.getfield 17, 3) := by decide +kernel
theorem dX7_flow_9 : decode cX7_flow 9 = .ok (.invokestatic 222, 3) := by decide +kernel
theorem dX7_flow_12 : decode cX7_flow 12 = .ok (.ireturn, 1) := by decide +kernel
theorem dX7_rate_0 : decode cX7_rate 0 = .ok (.aload_n 0, 1) := by decide +kernel
theorem dX7_rate_1 : decode cX7_rate 1 = .ok (.iconst 0, 1) := by decide +kernel
theorem dX7_rate_2 : decode cX7_rate 2 = .ok (.putfield 45, 3) := by decide +kernel
theorem dX7_rate_5 : decode cX7_rate 5 = .ok (.aload_n 0, 1) := by decide +kernel
theorem dX7_rate_6 : decode cX7_rate 6 = .ok (.aload_n 0, 1) := by decide +kernel
theorem dX7_rate_7 : decode cX7_rate 7 = .ok (.getfield 17, 3) := by decide +kernel
theorem dX7_rate_10 : decode cX7_rate 10 = .ok (.invokevirtual 231, 3) := by decide +kernel
theorem dX7_rate_13 : decode cX7_rate 13 = .ok (.ireturn, 1) := by decide +kernel
theorem dX7_fireSection_0 : decode cX7_fireSection 0 = .ok (.aload_n 0, 1) := by decide +kernel
theorem dX7_fireSection_1 : decode cX7_fireSection 1 = .ok (.iconst 0, 1) := by decide +kernel
theorem dX7_fireSection_2 : decode cX7_fireSection 2 = .ok (.putfield 45, 3) := by decide +kernel
theorem dX7_fireSection_5 : decode cX7_fireSection 5 = .ok (.aload_n 0, 1) := by decide +kernel
theorem dX7_fireSection_6 : decode cX7_fireSection 6 = .ok (.getfield 17, 3) := by decide +kernel
theorem dX7_fireSection_9 : decode cX7_fireSection 9 = .ok (.iconst 4, 1) := by decide +kernel
theorem dX7_fireSection_10 : decode cX7_fireSection 10 = .ok (.iaload, 1) := by decide +kernel
theorem dX7_fireSection_11 : decode cX7_fireSection 11 = .ok (.ireturn, 1) := by decide +kernel
theorem dX7_inside_0 : decode cX7_inside 0 = .ok (.aload_n 0, 1) := by decide +kernel
theorem dX7_inside_1 : decode cX7_inside 1 = .ok (.iconst 0, 1) := by decide +kernel
theorem dX7_inside_2 : decode cX7_inside 2 = .ok (.putfield 45, 3) := by decide +kernel
theorem dX7_inside_5 : decode cX7_inside 5 = .ok (.aload_n 0, 1) := by decide +kernel
theorem dX7_inside_6 : decode cX7_inside 6 = .ok (.getfield 17, 3) := by decide +kernel
theorem dX7_inside_9 : decode cX7_inside 9 = .ok (.invokestatic 218, 3) := by decide +kernel
theorem dX7_inside_12 : decode cX7_inside 12 = .ok (.ireturn, 1) := by decide +kernel
theorem dX7_lane_0 : decode cX7_lane 0 = .ok (.iconst 0, 1) := by decide +kernel
theorem dX7_lane_1 : decode cX7_lane 1 = .ok (.istore_n 3, 1) := by decide +kernel
theorem dX7_lane_2 : decode cX7_lane 2 = .ok (.iconst 0, 1) := by decide +kernel
theorem dX7_lane_3 : decode cX7_lane 3 = .ok (.istore 4, 2) := by decide +kernel
theorem dX7_lane_5 : decode cX7_lane 5 = .ok (.iload 4, 2) := by decide +kernel
theorem dX7_lane_7 : decode cX7_lane 7 = .ok (.aload_n 0, 1) := by decide +kernel
theorem dX7_lane_8 : decode cX7_lane 8 = .ok (.iconst 2, 1) := by decide +kernel
theorem dX7_lane_9 : decode cX7_lane 9 = .ok (.iaload, 1) := by decide +kernel
theorem dX7_lane_10 : decode cX7_lane 10 = .ok (.if_icmp .ge 41, 3) := by decide +kernel
theorem dX7_lane_13 : decode cX7_lane 13 = .ok (.iload_n 3, 1) := by decide +kernel
theorem dX7_lane_14 : decode cX7_lane 14 = .ok (.aload_n 0, 1) := by decide +kernel
theorem dX7_lane_15 : decode cX7_lane 15 = .ok (.iload 4, 2) := by decide +kernel
theorem dX7_lane_17 : decode cX7_lane 17 = .ok (.invokestatic 162, 3) := by decide +kernel
theorem dX7_lane_20 : decode cX7_lane 20 = .ok (.iaload, 1) := by decide +kernel
theorem dX7_lane_21 : decode cX7_lane 21 = .ok (.iload_n 1, 1) := by decide +kernel
theorem dX7_lane_22 : decode cX7_lane 22 = .ok (.if_icmp .ne 20, 3) := by decide +kernel
theorem dX7_lane_25 : decode cX7_lane 25 = .ok (.aload_n 0, 1) := by decide +kernel
theorem dX7_lane_26 : decode cX7_lane 26 = .ok (.iload 4, 2) := by decide +kernel
theorem dX7_lane_28 : decode cX7_lane 28 = .ok (.invokestatic 162, 3) := by decide +kernel
theorem dX7_lane_31 : decode cX7_lane 31 = .ok (.iconst 1, 1) := by decide +kernel
theorem dX7_lane_32 : decode cX7_lane 32 = .ok (.iadd, 1) := by decide +kernel
theorem dX7_lane_33 : decode cX7_lane 33 = .ok (.iaload, 1) := by decide +kernel
theorem dX7_lane_34 : decode cX7_lane 34 = .ok (.iload_n 2, 1) := by decide +kernel
theorem dX7_lane_35 : decode cX7_lane 35 = .ok (.if_icmp .ne 7, 3) := by decide +kernel
theorem dX7_lane_38 : decode cX7_lane 38 = .ok (.iconst 1, 1) := by decide +kernel
theorem dX7_lane_39 : decode cX7_lane 39 = .ok (.goto 4, 3) := by decide +kernel
theorem dX7_lane_42 : decode cX7_lane 42 = .ok (.iconst 0, 1) := by decide +kernel
theorem dX7_lane_43 : decode cX7_lane 43 = .ok (.iadd, 1) := by decide +kernel
theorem dX7_lane_44 : decode cX7_lane 44 = .ok (.istore_n 3, 1) := by decide +kernel
theorem dX7_lane_45 : decode cX7_lane 45 = .ok (.iinc 4 1, 3) := by decide +kernel
theorem dX7_lane_48 : decode cX7_lane 48 = .ok (.goto (-43), 3) := by decide +kernel
theorem dX7_lane_51 : decode cX7_lane 51 = .ok (.iload_n 3, 1) := by decide +kernel
theorem dX7_lane_52 : decode cX7_lane 52 = .ok (.ireturn, 1) := by decide +kernel
theorem dX7_smoulder_0 : decode cX7_smoulder 0 = .ok (.aload_n 1, 1) := by decide +kernel
theorem dX7_smoulder_1 : decode cX7_smoulder 1 = .ok (.invokestatic 222, 3) := by decide +kernel
theorem dX7_smoulder_4 : decode cX7_smoulder 4 = .ok (.istore_n 3, 1) := by decide +kernel
theorem dX7_smoulder_5 : decode cX7_smoulder 5 = .ok (.iload_n 3, 1) := by decide +kernel
theorem dX7_smoulder_6 : decode cX7_smoulder 6 = .ok (.ifCond .ge 8, 3) := by decide +kernel
theorem dX7_smoulder_9 : decode cX7_smoulder 9 = .ok (.iload_n 3, 1) := by decide +kernel
theorem dX7_smoulder_10 : decode cX7_smoulder 10 = .ok (.ineg, 1) := by decide +kernel
theorem dX7_smoulder_11 : decode cX7_smoulder 11 = .ok (.goto 4, 3) := by decide +kernel
theorem dX7_smoulder_14 : decode cX7_smoulder 14 = .ok (.iload_n 3, 1) := by decide +kernel
theorem dX7_smoulder_15 : decode cX7_smoulder 15 = .ok (.istore 4, 2) := by decide +kernel
theorem dX7_smoulder_17 : decode cX7_smoulder 17 = .ok (.iload_n 3, 1) := by decide +kernel
theorem dX7_smoulder_18 : decode cX7_smoulder 18 = .ok (.ifCond .ge 7, 3) := by decide +kernel
theorem dX7_smoulder_21 : decode cX7_smoulder 21 = .ok (.iconst (-1), 1) := by decide +kernel
theorem dX7_smoulder_22 : decode cX7_smoulder 22 = .ok (.goto 4, 3) := by decide +kernel
theorem dX7_smoulder_25 : decode cX7_smoulder 25 = .ok (.iconst 1, 1) := by decide +kernel
theorem dX7_smoulder_26 : decode cX7_smoulder 26 = .ok (.istore 5, 2) := by decide +kernel
theorem dX7_smoulder_28 : decode cX7_smoulder 28 = .ok (.iconst 0, 1) := by decide +kernel
theorem dX7_smoulder_29 : decode cX7_smoulder 29 = .ok (.istore 6, 2) := by decide +kernel
theorem dX7_smoulder_31 : decode cX7_smoulder 31 = .ok (.iload 6, 2) := by decide +kernel
theorem dX7_smoulder_33 : decode cX7_smoulder 33 = .ok (.aload_n 1, 1) := by decide +kernel
theorem dX7_smoulder_34 : decode cX7_smoulder 34 = .ok (.iconst 0, 1) := by decide +kernel
theorem dX7_smoulder_35 : decode cX7_smoulder 35 = .ok (.iaload, 1) := by decide +kernel
theorem dX7_smoulder_36 : decode cX7_smoulder 36 = .ok (.if_icmp .ge 68, 3) := by decide +kernel
theorem dX7_smoulder_39 : decode cX7_smoulder 39 = .ok (.aload_n 1, 1) := by decide +kernel
theorem dX7_smoulder_40 : decode cX7_smoulder 40 = .ok (.iload 6, 2) := by decide +kernel
theorem dX7_smoulder_42 : decode cX7_smoulder 42 = .ok (.invokestatic 143, 3) := by decide +kernel
theorem dX7_smoulder_45 : decode cX7_smoulder 45 = .ok (.iaload, 1) := by decide +kernel
theorem dX7_smoulder_46 : decode cX7_smoulder 46 = .ok (.istore 7, 2) := by decide +kernel
theorem dX7_smoulder_48 : decode cX7_smoulder 48 = .ok (.iload 7, 2) := by decide +kernel
theorem dX7_smoulder_50 : decode cX7_smoulder 50 = .ok (.i2l, 1) := by decide +kernel
theorem dX7_smoulder_51 : decode cX7_smoulder 51 = .ok (.aload_n 1, 1) := by decide +kernel
theorem dX7_smoulder_52 : decode cX7_smoulder 52 = .ok (.iload 6, 2) := by decide +kernel
theorem dX7_smoulder_54 : decode cX7_smoulder 54 = .ok (.invokestatic 143, 3) := by decide +kernel
theorem dX7_smoulder_57 : decode cX7_smoulder 57 = .ok (.iconst 3, 1) := by decide +kernel
theorem dX7_smoulder_58 : decode cX7_smoulder 58 = .ok (.iadd, 1) := by decide +kernel
theorem dX7_smoulder_59 : decode cX7_smoulder 59 = .ok (.iaload, 1) := by decide +kernel
theorem dX7_smoulder_60 : decode cX7_smoulder 60 = .ok (.i2l, 1) := by decide +kernel
theorem dX7_smoulder_61 : decode cX7_smoulder 61 = .ok (.lmul, 1) := by decide +kernel
theorem dX7_smoulder_62 : decode cX7_smoulder 62 = .ok (.ldc2_w 234, 3) := by decide +kernel
theorem dX7_smoulder_65 : decode cX7_smoulder 65 = .ok (.ldiv, 1) := by decide +kernel
theorem dX7_smoulder_66 : decode cX7_smoulder 66 = .ok (.l2i, 1) := by decide +kernel
theorem dX7_smoulder_67 : decode cX7_smoulder 67 = .ok (.istore 8, 2) := by decide +kernel
theorem dX7_smoulder_69 : decode cX7_smoulder 69 = .ok (.aload_n 1, 1) := by decide +kernel
theorem dX7_smoulder_70 : decode cX7_smoulder 70 = .ok (.bipush 10, 2) := by decide +kernel
theorem dX7_smoulder_72 : decode cX7_smoulder 72 = .ok (.dup2, 1) := by decide +kernel
theorem dX7_smoulder_73 : decode cX7_smoulder 73 = .ok (.iaload, 1) := by decide +kernel
theorem dX7_smoulder_74 : decode cX7_smoulder 74 = .ok (.iload 8, 2) := by decide +kernel
theorem dX7_smoulder_76 : decode cX7_smoulder 76 = .ok (.iadd, 1) := by decide +kernel
theorem dX7_smoulder_77 : decode cX7_smoulder 77 = .ok (.iastore, 1) := by decide +kernel
theorem dX7_smoulder_78 : decode cX7_smoulder 78 = .ok (.aload_n 0, 1) := by decide +kernel
theorem dX7_smoulder_79 : decode cX7_smoulder 79 = .ok (.getfield 35, 3) := by decide +kernel
theorem dX7_smoulder_82 : decode cX7_smoulder 82 = .ok (.iload 6, 2) := by decide +kernel
theorem dX7_smoulder_84 : decode cX7_smoulder 84 = .ok (.iload 7, 2) := by decide +kernel
theorem dX7_smoulder_86 : decode cX7_smoulder 86 = .ok (.iload 8, 2) := by decide +kernel
theorem dX7_smoulder_88 : decode cX7_smoulder 88 = .ok (.isub, 1) := by decide +kernel
theorem dX7_smoulder_89 : decode cX7_smoulder 89 = .ok (.iastore, 1) := by decide +kernel
theorem dX7_smoulder_90 : decode cX7_smoulder 90 = .ok (.aload_n 1, 1) := by decide +kernel
theorem dX7_smoulder_91 : decode cX7_smoulder 91 = .ok (.iload 6, 2) := by decide +kernel
theorem dX7_smoulder_93 : decode cX7_smoulder 93 = .ok (.invokestatic 143, 3) := by decide +kernel
theorem dX7_smoulder_96 : decode cX7_smoulder 96 = .ok (.iconst 0, 1) := by decide +kernel
theorem dX7_smoulder_97 : decode cX7_smoulder 97 = .ok (.iastore, 1) := by decide +kernel
theorem dX7_smoulder_98 : decode cX7_smoulder 98 = .ok (.iinc 6 1, 3) := by decide +kernel
theorem dX7_smoulder_101 : decode cX7_smoulder 101 = .ok (.goto (-70), 3) := by decide +kernel
theorem dX7_smoulder_104 : decode cX7_smoulder 104 = .ok (.iconst 0, 1) := by decide +kernel
theorem dX7_smoulder_105 : decode cX7_smoulder 105 = .ok (.istore 6, 2) := by decide +kernel
theorem dX7_smoulder_107 : decode cX7_smoulder 107 = .ok (.iload 6, 2) := by decide +kernel
theorem dX7_smoulder_109 : decode cX7_smoulder 109 = .ok (.aload_n 1, 1) := by decide +kernel
theorem dX7_smoulder_110 : decode cX7_smoulder 110 = .ok (.iconst 0, 1) := by decide +kernel
theorem dX7_smoulder_111 : decode cX7_smoulder 111 = .ok (.iaload, 1) := by decide +kernel
theorem dX7_smoulder_112 : decode cX7_smoulder 112 = .ok (.if_icmp .ge 92, 3) := by decide +kernel
theorem dX7_smoulder_115 : decode cX7_smoulder 115 = .ok (.aload_n 0, 1) := by decide +kernel
theorem dX7_smoulder_116 : decode cX7_smoulder 116 = .ok (.getfield 35, 3) := by decide +kernel
theorem dX7_smoulder_119 : decode cX7_smoulder 119 = .ok (.iload 6, 2) := by decide +kernel
theorem dX7_smoulder_121 : decode cX7_smoulder 121 = .ok (.iaload, 1) := by decide +kernel
theorem dX7_smoulder_122 : decode cX7_smoulder 122 = .ok (.i2l, 1) := by decide +kernel
theorem dX7_smoulder_123 : decode cX7_smoulder 123 = .ok (.iload 4, 2) := by decide +kernel
theorem dX7_smoulder_125 : decode cX7_smoulder 125 = .ok (.i2l, 1) := by decide +kernel
theorem dX7_smoulder_126 : decode cX7_smoulder 126 = .ok (.lmul, 1) := by decide +kernel
theorem dX7_smoulder_127 : decode cX7_smoulder 127 = .ok (.ldc2_w 234, 3) := by decide +kernel
theorem dX7_smoulder_130 : decode cX7_smoulder 130 = .ok (.ldiv, 1) := by decide +kernel
theorem dX7_smoulder_131 : decode cX7_smoulder 131 = .ok (.l2i, 1) := by decide +kernel
theorem dX7_smoulder_132 : decode cX7_smoulder 132 = .ok (.istore 7, 2) := by decide +kernel
theorem dX7_smoulder_134 : decode cX7_smoulder 134 = .ok (.aload_n 1, 1) := by decide +kernel
theorem dX7_smoulder_135 : decode cX7_smoulder 135 = .ok (.iload 6, 2) := by decide +kernel
theorem dX7_smoulder_137 : decode cX7_smoulder 137 = .ok (.invokestatic 143, 3) := by decide +kernel
theorem dX7_smoulder_140 : decode cX7_smoulder 140 = .ok (.dup2, 1) := by decide +kernel
theorem dX7_smoulder_141 : decode cX7_smoulder 141 = .ok (.iaload, 1) := by decide +kernel
theorem dX7_smoulder_142 : decode cX7_smoulder 142 = .ok (.aload_n 0, 1) := by decide +kernel
theorem dX7_smoulder_143 : decode cX7_smoulder 143 = .ok (.getfield 35, 3) := by decide +kernel
theorem dX7_smoulder_146 : decode cX7_smoulder 146 = .ok (.iload 6, 2) := by decide +kernel
theorem dX7_smoulder_148 : decode cX7_smoulder 148 = .ok (.iaload, 1) := by decide +kernel
theorem dX7_smoulder_149 : decode cX7_smoulder 149 = .ok (.iload 7, 2) := by decide +kernel
theorem dX7_smoulder_151 : decode cX7_smoulder 151 = .ok (.isub, 1) := by decide +kernel
theorem dX7_smoulder_152 : decode cX7_smoulder 152 = .ok (.iadd, 1) := by decide +kernel
theorem dX7_smoulder_153 : decode cX7_smoulder 153 = .ok (.iastore, 1) := by decide +kernel
theorem dX7_smoulder_154 : decode cX7_smoulder 154 = .ok (.iload 6, 2) := by decide +kernel
theorem dX7_smoulder_156 : decode cX7_smoulder 156 = .ok (.iload 5, 2) := by decide +kernel
theorem dX7_smoulder_158 : decode cX7_smoulder 158 = .ok (.iadd, 1) := by decide +kernel
theorem dX7_smoulder_159 : decode cX7_smoulder 159 = .ok (.iconst 0, 1) := by decide +kernel
theorem dX7_smoulder_160 : decode cX7_smoulder 160 = .ok (.aload_n 1, 1) := by decide +kernel
theorem dX7_smoulder_161 : decode cX7_smoulder 161 = .ok (.iconst 0, 1) := by decide +kernel
theorem dX7_smoulder_162 : decode cX7_smoulder 162 = .ok (.iaload, 1) := by decide +kernel
theorem dX7_smoulder_163 : decode cX7_smoulder 163 = .ok (.iconst 1, 1) := by decide +kernel
theorem dX7_smoulder_164 : decode cX7_smoulder 164 = .ok (.isub, 1) := by decide +kernel
theorem dX7_smoulder_165 : decode cX7_smoulder 165 = .ok (.invokestatic 67, 3) := by decide +kernel
theorem dX7_smoulder_168 : decode cX7_smoulder 168 = .ok (.ifCond .eq 21, 3) := by decide +kernel
theorem dX7_smoulder_171 : decode cX7_smoulder 171 = .ok (.aload_n 1, 1) := by decide +kernel
theorem dX7_smoulder_172 : decode cX7_smoulder 172 = .ok (.iload 6, 2) := by decide +kernel
theorem dX7_smoulder_174 : decode cX7_smoulder 174 = .ok (.iload 5, 2) := by decide +kernel
theorem dX7_smoulder_176 : decode cX7_smoulder 176 = .ok (.iadd, 1) := by decide +kernel
theorem dX7_smoulder_177 : decode cX7_smoulder 177 = .ok (.invokestatic 143, 3) := by decide +kernel
theorem dX7_smoulder_180 : decode cX7_smoulder 180 = .ok (.dup2, 1) := by decide +kernel
theorem dX7_smoulder_181 : decode cX7_smoulder 181 = .ok (.iaload, 1) := by decide +kernel
theorem dX7_smoulder_182 : decode cX7_smoulder 182 = .ok (.iload 7, 2) := by decide +kernel
theorem dX7_smoulder_184 : decode cX7_smoulder 184 = .ok (.iadd, 1) := by decide +kernel
theorem dX7_smoulder_185 : decode cX7_smoulder 185 = .ok (.iastore, 1) := by decide +kernel
theorem dX7_smoulder_186 : decode cX7_smoulder 186 = .ok (.goto 12, 3) := by decide +kernel
theorem dX7_smoulder_189 : decode cX7_smoulder 189 = .ok (.aload_n 1, 1) := by decide +kernel
theorem dX7_smoulder_190 : decode cX7_smoulder 190 = .ok (.bipush 9, 2) := by decide +kernel
theorem dX7_smoulder_192 : decode cX7_smoulder 192 = .ok (.dup2, 1) := by decide +kernel
theorem dX7_smoulder_193 : decode cX7_smoulder 193 = .ok (.iaload, 1) := by decide +kernel
theorem dX7_smoulder_194 : decode cX7_smoulder 194 = .ok (.iload 7, 2) := by decide +kernel
theorem dX7_smoulder_196 : decode cX7_smoulder 196 = .ok (.iadd, 1) := by decide +kernel
theorem dX7_smoulder_197 : decode cX7_smoulder 197 = .ok (.iastore, 1) := by decide +kernel
theorem dX7_smoulder_198 : decode cX7_smoulder 198 = .ok (.iinc 6 1, 3) := by decide +kernel
theorem dX7_smoulder_201 : decode cX7_smoulder 201 = .ok (.goto (-94), 3) := by decide +kernel
theorem dX7_smoulder_204 : decode cX7_smoulder 204 = .ok (.aload_n 1, 1) := by decide +kernel
theorem dX7_smoulder_205 : decode cX7_smoulder 205 = .ok (.iconst 4, 1) := by decide +kernel
theorem dX7_smoulder_206 : decode cX7_smoulder 206 = .ok (.iaload, 1) := by decide +kernel
theorem dX7_smoulder_207 : decode cX7_smoulder 207 = .ok (.ifCond .ge 4, 3) := by decide +kernel
theorem dX7_smoulder_210 : decode cX7_smoulder 210 = .ok (.return_, 1) := by decide +kernel
theorem dX7_smoulder_211 : decode cX7_smoulder 211 = .ok (.aload_n 1, 1) := by decide +kernel
theorem dX7_smoulder_212 : decode cX7_smoulder 212 = .ok (.aload_n 1, 1) := by decide +kernel
theorem dX7_smoulder_213 : decode cX7_smoulder 213 = .ok (.iconst 4, 1) := by decide +kernel
theorem dX7_smoulder_214 : decode cX7_smoulder 214 = .ok (.iaload, 1) := by decide +kernel
theorem dX7_smoulder_215 : decode cX7_smoulder 215 = .ok (.invokestatic 143, 3) := by decide +kernel
theorem dX7_smoulder_218 : decode cX7_smoulder 218 = .ok (.dup2, 1) := by decide +kernel
theorem dX7_smoulder_219 : decode cX7_smoulder 219 = .ok (.iaload, 1) := by decide +kernel
theorem dX7_smoulder_220 : decode cX7_smoulder 220 = .ok (.iload_n 2, 1) := by decide +kernel
theorem dX7_smoulder_221 : decode cX7_smoulder 221 = .ok (.iadd, 1) := by decide +kernel
theorem dX7_smoulder_222 : decode cX7_smoulder 222 = .ok (.iastore, 1) := by decide +kernel
theorem dX7_smoulder_223 : decode cX7_smoulder 223 = .ok (.aload_n 1, 1) := by decide +kernel
theorem dX7_smoulder_224 : decode cX7_smoulder 224 = .ok (.bipush 8, 2) := by decide +kernel
theorem dX7_smoulder_226 : decode cX7_smoulder 226 = .ok (.dup2, 1) := by decide +kernel
theorem dX7_smoulder_227 : decode cX7_smoulder 227 = .ok (.iaload, 1) := by decide +kernel
theorem dX7_smoulder_228 : decode cX7_smoulder 228 = .ok (.iload_n 2, 1) := by decide +kernel
theorem dX7_smoulder_229 : decode cX7_smoulder 229 = .ok (.iadd, 1) := by decide +kernel
theorem dX7_smoulder_230 : decode cX7_smoulder 230 = .ok (.iastore, 1) := by decide +kernel
theorem dX7_smoulder_231 : decode cX7_smoulder 231 = .ok (.return_, 1) := by decide +kernel
theorem dX7_drive_0 : decode cX7_drive 0 = .ok (.iload_n 2, 1) := by decide +kernel
theorem dX7_drive_1 : decode cX7_drive 1 = .ok (.invokestatic 162, 3) := by decide +kernel
theorem dX7_drive_4 : decode cX7_drive 4 = .ok (.istore_n 3, 1) := by decide +kernel
theorem dX7_drive_5 : decode cX7_drive 5 = .ok (.aload_n 1, 1) := by decide +kernel
theorem dX7_drive_6 : decode cX7_drive 6 = .ok (.iload_n 3, 1) := by decide +kernel
theorem dX7_drive_7 : decode cX7_drive 7 = .ok (.iaload, 1) := by decide +kernel
theorem dX7_drive_8 : decode cX7_drive 8 = .ok (.istore 4, 2) := by decide +kernel
theorem dX7_drive_10 : decode cX7_drive 10 = .ok (.aload_n 1, 1) := by decide +kernel
theorem dX7_drive_11 : decode cX7_drive 11 = .ok (.iload_n 3, 1) := by decide +kernel
theorem dX7_drive_12 : decode cX7_drive 12 = .ok (.iconst 1, 1) := by decide +kernel
theorem dX7_drive_13 : decode cX7_drive 13 = .ok (.iadd, 1) := by decide +kernel
theorem dX7_drive_14 : decode cX7_drive 14 = .ok (.iaload, 1) := by decide +kernel
theorem dX7_drive_15 : decode cX7_drive 15 = .ok (.istore 5, 2) := by decide +kernel
theorem dX7_drive_17 : decode cX7_drive 17 = .ok (.iload 4, 2) := by decide +kernel
theorem dX7_drive_19 : decode cX7_drive 19 = .ok (.iload 5, 2) := by decide +kernel
theorem dX7_drive_21 : decode cX7_drive 21 = .ok (.iadd, 1) := by decide +kernel
theorem dX7_drive_22 : decode cX7_drive 22 = .ok (.istore 6, 2) := by decide +kernel
theorem dX7_drive_24 : decode cX7_drive 24 = .ok (.aload_n 0, 1) := by decide +kernel
theorem dX7_drive_25 : decode cX7_drive 25 = .ok (.getfield 38, 3) := by decide +kernel
theorem dX7_drive_28 : decode cX7_drive 28 = .ok (.iload_n 2, 1) := by decide +kernel
theorem dX7_drive_29 : decode cX7_drive 29 = .ok (.iconst 0, 1) := by decide +kernel
theorem dX7_drive_30 : decode cX7_drive 30 = .ok (.bastore, 1) := by decide +kernel
theorem dX7_drive_31 : decode cX7_drive 31 = .ok (.iload 6, 2) := by decide +kernel
theorem dX7_drive_33 : decode cX7_drive 33 = .ok (.iconst 0, 1) := by decide +kernel
theorem dX7_drive_34 : decode cX7_drive 34 = .ok (.aload_n 1, 1) := by decide +kernel
theorem dX7_drive_35 : decode cX7_drive 35 = .ok (.iconst 0, 1) := by decide +kernel
theorem dX7_drive_36 : decode cX7_drive 36 = .ok (.iaload, 1) := by decide +kernel
theorem dX7_drive_37 : decode cX7_drive 37 = .ok (.iconst 1, 1) := by decide +kernel
theorem dX7_drive_38 : decode cX7_drive 38 = .ok (.isub, 1) := by decide +kernel
theorem dX7_drive_39 : decode cX7_drive 39 = .ok (.invokestatic 67, 3) := by decide +kernel
theorem dX7_drive_42 : decode cX7_drive 42 = .ok (.ifCond .ne 8, 3) := by decide +kernel
theorem dX7_drive_45 : decode cX7_drive 45 = .ok (.aload_n 1, 1) := by decide +kernel
theorem dX7_drive_46 : decode cX7_drive 46 = .ok (.iload_n 3, 1) := by decide +kernel
theorem dX7_drive_47 : decode cX7_drive 47 = .ok (.iconst (-1), 1) := by decide +kernel
theorem dX7_drive_48 : decode cX7_drive 48 = .ok (.iastore, 1) := by decide +kernel
theorem dX7_drive_49 : decode cX7_drive 49 = .ok (.return_, 1) := by decide +kernel
theorem dX7_drive_50 : decode cX7_drive 50 = .ok (.iload 6, 2) := by decide +kernel
theorem dX7_drive_52 : decode cX7_drive 52 = .ok (.aload_n 1, 1) := by decide +kernel
theorem dX7_drive_53 : decode cX7_drive 53 = .ok (.iconst 4, 1) := by decide +kernel
theorem dX7_drive_54 : decode cX7_drive 54 = .ok (.iaload, 1) := by decide +kernel
theorem dX7_drive_55 : decode cX7_drive 55 = .ok (.if_icmp .eq 44, 3) := by decide +kernel
theorem dX7_drive_58 : decode cX7_drive 58 = .ok (.aload_n 1, 1) := by decide +kernel
theorem dX7_drive_59 : decode cX7_drive 59 = .ok (.iload 6, 2) := by decide +kernel
theorem dX7_drive_61 : decode cX7_drive 61 = .ok (.invokestatic 143, 3) := by decide +kernel
theorem dX7_drive_64 : decode cX7_drive 64 = .ok (.iload 5, 2) := by decide +kernel
theorem dX7_drive_66 : decode cX7_drive 66 = .ok (.iconst 1, 1) := by decide +kernel
theorem dX7_drive_67 : decode cX7_drive 67 = .ok (.if_icmp .ne 7, 3) := by decide +kernel
theorem dX7_drive_70 : decode cX7_drive 70 = .ok (.iconst 5, 1) := by decide +kernel
theorem dX7_drive_71 : decode cX7_drive 71 = .ok (.goto 5, 3) := by decide +kernel
theorem dX7_drive_74 : decode cX7_drive 74 = .ok (.bipush 6, 2) := by decide +kernel
theorem dX7_drive_76 : decode cX7_drive 76 = .ok (.iadd, 1) := by decide +kernel
theorem dX7_drive_77 : decode cX7_drive 77 = .ok (.iaload, 1) := by decide +kernel
theorem dX7_drive_78 : decode cX7_drive 78 = .ok (.ifCond .ne 21, 3) := by decide +kernel
theorem dX7_drive_81 : decode cX7_drive 81 = .ok (.aload_n 1, 1) := by decide +kernel
theorem dX7_drive_82 : decode cX7_drive 82 = .ok (.iload 6, 2) := by decide +kernel
theorem dX7_drive_84 : decode cX7_drive 84 = .ok (.iload 5, 2) := by decide +kernel
theorem dX7_drive_86 : decode cX7_drive 86 = .ok (.invokestatic 158, 3) := by decide +kernel
theorem dX7_drive_89 : decode cX7_drive 89 = .ok (.aload_n 1, 1) := by decide +kernel
theorem dX7_drive_90 : decode cX7_drive 90 = .ok (.iconst 1, 1) := by decide +kernel
theorem dX7_drive_91 : decode cX7_drive 91 = .ok (.iaload, 1) := by decide +kernel
theorem dX7_drive_92 : decode cX7_drive 92 = .ok (.if_icmp .ge 7, 3) := by decide +kernel
theorem dX7_drive_95 : decode cX7_drive 95 = .ok (.iconst 1, 1) := by decide +kernel
theorem dX7_drive_96 : decode cX7_drive 96 = .ok (.goto 4, 3) := by decide +kernel
theorem dX7_drive_99 : decode cX7_drive 99 = .ok (.iconst 0, 1) := by decide +kernel
theorem dX7_drive_100 : decode cX7_drive 100 = .ok (.istore 7, 2) := by decide +kernel
theorem dX7_drive_102 : decode cX7_drive 102 = .ok (.iload 7, 2) := by decide +kernel
theorem dX7_drive_104 : decode cX7_drive 104 = .ok (.ifCond .eq 11, 3) := by decide +kernel
theorem dX7_drive_107 : decode cX7_drive 107 = .ok (.aload_n 1, 1) := by decide +kernel
theorem dX7_drive_108 : decode cX7_drive 108 = .ok (.iload_n 3, 1) := by decide +kernel
theorem dX7_drive_109 : decode cX7_drive 109 = .ok (.iload 6, 2) := by decide +kernel
theorem dX7_drive_111 : decode cX7_drive 111 = .ok (.iastore, 1) := by decide +kernel
theorem dX7_drive_112 : decode cX7_drive 112 = .ok (.goto 10, 3) := by decide +kernel
theorem dX7_drive_115 : decode cX7_drive 115 = .ok (.aload_n 0, 1) := by decide +kernel
theorem dX7_drive_116 : decode cX7_drive 116 = .ok (.getfield 38, 3) := by decide +kernel
theorem dX7_drive_119 : decode cX7_drive 119 = .ok (.iload_n 2, 1) := by decide +kernel
theorem dX7_drive_120 : decode cX7_drive 120 = .ok (.iconst 1, 1) := by decide +kernel
theorem dX7_drive_121 : decode cX7_drive 121 = .ok (.bastore, 1) := by decide +kernel
theorem dX7_drive_122 : decode cX7_drive 122 = .ok (.return_, 1) := by decide +kernel
theorem dX7_driveFrom_0 : decode cX7_driveFrom 0 = .ok (.iconst 0, 1) := by decide +kernel
theorem dX7_driveFrom_1 : decode cX7_driveFrom 1 = .ok (.istore 4, 2) := by decide +kernel
theorem dX7_driveFrom_3 : decode cX7_driveFrom 3 = .ok (.iload 4, 2) := by decide +kernel
theorem dX7_driveFrom_5 : decode cX7_driveFrom 5 = .ok (.aload_n 1, 1) := by decide +kernel
theorem dX7_driveFrom_6 : decode cX7_driveFrom 6 = .ok (.iconst 2, 1) := by decide +kernel
theorem dX7_driveFrom_7 : decode cX7_driveFrom 7 = .ok (.iaload, 1) := by decide +kernel
theorem dX7_driveFrom_8 : decode cX7_driveFrom 8 = .ok (.if_icmp .ge 61, 3) := by decide +kernel
theorem dX7_driveFrom_11 : decode cX7_driveFrom 11 = .ok (.aload_n 0, 1) := by decide +kernel
theorem dX7_driveFrom_12 : decode cX7_driveFrom 12 = .ok (.getfield 42, 3) := by decide +kernel
theorem dX7_driveFrom_15 : decode cX7_driveFrom 15 = .ok (.iload 4, 2) := by decide +kernel
theorem dX7_driveFrom_17 : decode cX7_driveFrom 17 = .ok (.baload, 1) := by decide +kernel
theorem dX7_driveFrom_18 : decode cX7_driveFrom 18 = .ok (.ifCond .ne 45, 3) := by decide +kernel
theorem dX7_driveFrom_21 : decode cX7_driveFrom 21 = .ok (.aload_n 1, 1) := by decide +kernel
theorem dX7_driveFrom_22 : decode cX7_driveFrom 22 = .ok (.iload 4, 2) := by decide +kernel
theorem dX7_driveFrom_24 : decode cX7_driveFrom 24 = .ok (.invokestatic 162, 3) := by decide +kernel
theorem dX7_driveFrom_27 : decode cX7_driveFrom 27 = .ok (.iaload, 1) := by decide +kernel
theorem dX7_driveFrom_28 : decode cX7_driveFrom 28 = .ok (.iload_n 2, 1) := by decide +kernel
theorem dX7_driveFrom_29 : decode cX7_driveFrom 29 = .ok (.if_icmp .ne 34, 3) := by decide +kernel
theorem dX7_driveFrom_32 : decode cX7_driveFrom 32 = .ok (.aload_n 1, 1) := by decide +kernel
theorem dX7_driveFrom_33 : decode cX7_driveFrom 33 = .ok (.iload 4, 2) := by decide +kernel
theorem dX7_driveFrom_35 : decode cX7_driveFrom 35 = .ok (.invokestatic 162, 3) := by decide +kernel
theorem dX7_driveFrom_38 : decode cX7_driveFrom 38 = .ok (.iconst 1, 1) := by decide +kernel
theorem dX7_driveFrom_39 : decode cX7_driveFrom 39 = .ok (.iadd, 1) := by decide +kernel
theorem dX7_driveFrom_40 : decode cX7_driveFrom 40 = .ok (.iaload, 1) := by decide +kernel
theorem dX7_driveFrom_41 : decode cX7_driveFrom 41 = .ok (.iload_n 3, 1) := by decide +kernel
theorem dX7_driveFrom_42 : decode cX7_driveFrom 42 = .ok (.if_icmp .eq 6, 3) := by decide +kernel
theorem dX7_driveFrom_45 : decode cX7_driveFrom 45 = .ok (.goto 18, 3) := by decide +kernel
theorem dX7_driveFrom_48 : decode cX7_driveFrom 48 = .ok (.aload_n 0, 1) := by decide +kernel
theorem dX7_driveFrom_49 : decode cX7_driveFrom 49 = .ok (.getfield 42, 3) := by decide +kernel
theorem dX7_driveFrom_52 : decode cX7_driveFrom 52 = .ok (.iload 4, 2) := by decide +kernel
theorem dX7_driveFrom_54 : decode cX7_driveFrom 54 = .ok (.iconst 1, 1) := by decide +kernel
theorem dX7_driveFrom_55 : decode cX7_driveFrom 55 = .ok (.bastore, 1) := by decide +kernel
theorem dX7_driveFrom_56 : decode cX7_driveFrom 56 = .ok (.aload_n 0, 1) := by decide +kernel
theorem dX7_driveFrom_57 : decode cX7_driveFrom 57 = .ok (.aload_n 1, 1) := by decide +kernel
theorem dX7_driveFrom_58 : decode cX7_driveFrom 58 = .ok (.iload 4, 2) := by decide +kernel
theorem dX7_driveFrom_60 : decode cX7_driveFrom 60 = .ok (.invokevirtual 236, 3) := by decide +kernel
theorem dX7_driveFrom_63 : decode cX7_driveFrom 63 = .ok (.iinc 4 1, 3) := by decide +kernel
theorem dX7_driveFrom_66 : decode cX7_driveFrom 66 = .ok (.goto (-63), 3) := by decide +kernel
theorem dX7_driveFrom_69 : decode cX7_driveFrom 69 = .ok (.return_, 1) := by decide +kernel
theorem dX7_turn_0 : decode cX7_turn 0 = .ok (.iload_n 2, 1) := by decide +kernel
theorem dX7_turn_1 : decode cX7_turn 1 = .ok (.invokestatic 162, 3) := by decide +kernel
theorem dX7_turn_4 : decode cX7_turn 4 = .ok (.istore_n 3, 1) := by decide +kernel
theorem dX7_turn_5 : decode cX7_turn 5 = .ok (.aload_n 1, 1) := by decide +kernel
theorem dX7_turn_6 : decode cX7_turn 6 = .ok (.iload_n 3, 1) := by decide +kernel
theorem dX7_turn_7 : decode cX7_turn 7 = .ok (.iaload, 1) := by decide +kernel
theorem dX7_turn_8 : decode cX7_turn 8 = .ok (.istore 4, 2) := by decide +kernel
theorem dX7_turn_10 : decode cX7_turn 10 = .ok (.aload_n 1, 1) := by decide +kernel
theorem dX7_turn_11 : decode cX7_turn 11 = .ok (.iload_n 3, 1) := by decide +kernel
theorem dX7_turn_12 : decode cX7_turn 12 = .ok (.iconst 1, 1) := by decide +kernel
theorem dX7_turn_13 : decode cX7_turn 13 = .ok (.iadd, 1) := by decide +kernel
theorem dX7_turn_14 : decode cX7_turn 14 = .ok (.iaload, 1) := by decide +kernel
theorem dX7_turn_15 : decode cX7_turn 15 = .ok (.istore 5, 2) := by decide +kernel
theorem dX7_turn_17 : decode cX7_turn 17 = .ok (.aload_n 1, 1) := by decide +kernel
theorem dX7_turn_18 : decode cX7_turn 18 = .ok (.iconst 4, 1) := by decide +kernel
theorem dX7_turn_19 : decode cX7_turn 19 = .ok (.iaload, 1) := by decide +kernel
theorem dX7_turn_20 : decode cX7_turn 20 = .ok (.ifCond .lt 19, 3) := by decide +kernel
theorem dX7_turn_23 : decode cX7_turn 23 = .ok (.aload_n 1, 1) := by decide +kernel
theorem dX7_turn_24 : decode cX7_turn 24 = .ok (.iconst 4, 1) := by decide +kernel
theorem dX7_turn_25 : decode cX7_turn 25 = .ok (.iaload, 1) := by decide +kernel
theorem dX7_turn_26 : decode cX7_turn 26 = .ok (.iload 4, 2) := by decide +kernel
theorem dX7_turn_28 : decode cX7_turn 28 = .ok (.isub, 1) := by decide +kernel
theorem dX7_turn_29 : decode cX7_turn 29 = .ok (.iload 5, 2) := by decide +kernel
theorem dX7_turn_31 : decode cX7_turn 31 = .ok (.imul, 1) := by decide +kernel
theorem dX7_turn_32 : decode cX7_turn 32 = .ok (.ifCond .le 7, 3) := by decide +kernel
theorem dX7_turn_35 : decode cX7_turn 35 = .ok (.iconst 1, 1) := by decide +kernel
theorem dX7_turn_36 : decode cX7_turn 36 = .ok (.goto 4, 3) := by decide +kernel
theorem dX7_turn_39 : decode cX7_turn 39 = .ok (.iconst 0, 1) := by decide +kernel
theorem dX7_turn_40 : decode cX7_turn 40 = .ok (.istore 6, 2) := by decide +kernel
theorem dX7_turn_42 : decode cX7_turn 42 = .ok (.iload 6, 2) := by decide +kernel
theorem dX7_turn_44 : decode cX7_turn 44 = .ok (.ifCond .eq 39, 3) := by decide +kernel
theorem dX7_turn_47 : decode cX7_turn 47 = .ok (.aload_n 1, 1) := by decide +kernel
theorem dX7_turn_48 : decode cX7_turn 48 = .ok (.iload 4, 2) := by decide +kernel
theorem dX7_turn_50 : decode cX7_turn 50 = .ok (.invokestatic 143, 3) := by decide +kernel
theorem dX7_turn_53 : decode cX7_turn 53 = .ok (.iconst 4, 1) := by decide +kernel
theorem dX7_turn_54 : decode cX7_turn 54 = .ok (.iadd, 1) := by decide +kernel
theorem dX7_turn_55 : decode cX7_turn 55 = .ok (.iaload, 1) := by decide +kernel
theorem dX7_turn_56 : decode cX7_turn 56 = .ok (.iconst 1, 1) := by decide +kernel
theorem dX7_turn_57 : decode cX7_turn 57 = .ok (.if_icmp .ne 26, 3) := by decide +kernel
theorem dX7_turn_60 : decode cX7_turn 60 = .ok (.aload_n 1, 1) := by decide +kernel
theorem dX7_turn_61 : decode cX7_turn 61 = .ok (.iload 4, 2) := by decide +kernel
theorem dX7_turn_63 : decode cX7_turn 63 = .ok (.iload 5, 2) := by decide +kernel
theorem dX7_turn_65 : decode cX7_turn 65 = .ok (.ineg, 1) := by decide +kernel
theorem dX7_turn_66 : decode cX7_turn 66 = .ok (.invokestatic 158, 3) := by decide +kernel
theorem dX7_turn_69 : decode cX7_turn 69 = .ok (.aload_n 1, 1) := by decide +kernel
theorem dX7_turn_70 : decode cX7_turn 70 = .ok (.iconst 1, 1) := by decide +kernel
theorem dX7_turn_71 : decode cX7_turn 71 = .ok (.iaload, 1) := by decide +kernel
theorem dX7_turn_72 : decode cX7_turn 72 = .ok (.if_icmp .ge 11, 3) := by decide +kernel
theorem dX7_turn_75 : decode cX7_turn 75 = .ok (.aload_n 1, 1) := by decide +kernel
theorem dX7_turn_76 : decode cX7_turn 76 = .ok (.iload_n 3, 1) := by decide +kernel
theorem dX7_turn_77 : decode cX7_turn 77 = .ok (.iconst 1, 1) := by decide +kernel
theorem dX7_turn_78 : decode cX7_turn 78 = .ok (.iadd, 1) := by decide +kernel
theorem dX7_turn_79 : decode cX7_turn 79 = .ok (.iload 5, 2) := by decide +kernel
theorem dX7_turn_81 : decode cX7_turn 81 = .ok (.ineg, 1) := by decide +kernel
theorem dX7_turn_82 : decode cX7_turn 82 = .ok (.iastore, 1) := by decide +kernel
theorem dX7_turn_83 : decode cX7_turn 83 = .ok (.return_, 1) := by decide +kernel
theorem dX7_exposed_0 : decode cX7_exposed 0 = .ok (.aload_n 0, 1) := by decide +kernel
theorem dX7_exposed_1 : decode cX7_exposed 1 = .ok (.iload_n 1, 1) := by decide +kernel
theorem dX7_exposed_2 : decode cX7_exposed 2 = .ok (.iconst 1, 1) := by decide +kernel
theorem dX7_exposed_3 : decode cX7_exposed 3 = .ok (.iadd, 1) := by decide +kernel
theorem dX7_exposed_4 : decode cX7_exposed 4 = .ok (.iaload, 1) := by decide +kernel
theorem dX7_exposed_5 : decode cX7_exposed 5 = .ok (.i2l, 1) := by decide +kernel
theorem dX7_exposed_6 : decode cX7_exposed 6 = .ok (.bipush 32, 2) := by decide +kernel
theorem dX7_exposed_8 : decode cX7_exposed 8 = .ok (.lshl, 1) := by decide +kernel
theorem dX7_exposed_9 : decode cX7_exposed 9 = .ok (.aload_n 0, 1) := by decide +kernel
theorem dX7_exposed_10 : decode cX7_exposed 10 = .ok (.iload_n 1, 1) := by decide +kernel
theorem dX7_exposed_11 : decode cX7_exposed 11 = .ok (.iaload, 1) := by decide +kernel
theorem dX7_exposed_12 : decode cX7_exposed 12 = .ok (.i2l, 1) := by decide +kernel
theorem dX7_exposed_13 : decode cX7_exposed 13 = .ok (.ldc2_w 240, 3) := by decide +kernel
theorem dX7_exposed_16 : decode cX7_exposed 16 = .ok (.land, 1) := by decide +kernel
theorem dX7_exposed_17 : decode cX7_exposed 17 = .ok (.lor, 1) := by decide +kernel
theorem dX7_exposed_18 : decode cX7_exposed 18 = .ok (.lreturn, 1) := by decide +kernel
theorem dX7_expose_0 : decode cX7_expose 0 = .ok (.aload_n 0, 1) := by decide +kernel
theorem dX7_expose_1 : decode cX7_expose 1 = .ok (.iload_n 1, 1) := by decide +kernel
theorem dX7_expose_2 : decode cX7_expose 2 = .ok (.invokestatic 242, 3) := by decide +kernel
theorem dX7_expose_5 : decode cX7_expose 5 = .ok (.iload_n 2, 1) := by decide +kernel
theorem dX7_expose_6 : decode cX7_expose 6 = .ok (.i2l, 1) := by decide +kernel
theorem dX7_expose_7 : decode cX7_expose 7 = .ok (.ladd, 1) := by decide +kernel
theorem dX7_expose_8 : decode cX7_expose 8 = .ok (.lstore_n 3, 1) := by decide +kernel
theorem dX7_expose_9 : decode cX7_expose 9 = .ok (.aload_n 0, 1) := by decide +kernel
theorem dX7_expose_10 : decode cX7_expose 10 = .ok (.iload_n 1, 1) := by decide +kernel
theorem dX7_expose_11 : decode cX7_expose 11 = .ok (.lload_n 3, 1) := by decide +kernel
theorem dX7_expose_12 : decode cX7_expose 12 = .ok (.l2i, 1) := by decide +kernel
theorem dX7_expose_13 : decode cX7_expose 13 = .ok (.iastore, 1) := by decide +kernel
theorem dX7_expose_14 : decode cX7_expose 14 = .ok (.aload_n 0, 1) := by decide +kernel
theorem dX7_expose_15 : decode cX7_expose 15 = .ok (.iload_n 1, 1) := by decide +kernel
theorem dX7_expose_16 : decode cX7_expose 16 = .ok (.iconst 1, 1) := by decide +kernel
theorem dX7_expose_17 : decode cX7_expose 17 = .ok (.iadd, 1) := by decide +kernel
theorem dX7_expose_18 : decode cX7_expose 18 = .ok (.lload_n 3, 1) := by decide +kernel
theorem dX7_expose_19 : decode cX7_expose 19 = .ok (.bipush 32, 2) := by decide +kernel
theorem dX7_expose_21 : decode cX7_expose 21 = .ok (.lshr, 1) := by decide +kernel
theorem dX7_expose_22 : decode cX7_expose 22 = .ok (.l2i, 1) := by decide +kernel
theorem dX7_expose_23 : decode cX7_expose 23 = .ok (.iastore, 1) := by decide +kernel
theorem dX7_expose_24 : decode cX7_expose 24 = .ok (.return_, 1) := by decide +kernel
theorem dX7_tick_0 : decode cX7_tick 0 = .ok (.aload_n 0, 1) := by decide +kernel
theorem dX7_tick_1 : decode cX7_tick 1 = .ok (.aload_n 1, 1) := by decide +kernel
theorem dX7_tick_2 : decode cX7_tick 2 = .ok (.aload_n 0, 1) := by decide +kernel
theorem dX7_tick_3 : decode cX7_tick 3 = .ok (.aload_n 1, 1) := by decide +kernel
theorem dX7_tick_4 : decode cX7_tick 4 = .ok (.invokevirtual 231, 3) := by decide +kernel
theorem dX7_tick_7 : decode cX7_tick 7 = .ok (.invokevirtual 246, 3) := by decide +kernel
theorem dX7_tick_10 : decode cX7_tick 10 = .ok (.iconst 0, 1) := by decide +kernel
theorem dX7_tick_11 : decode cX7_tick 11 = .ok (.istore_n 2, 1) := by decide +kernel
theorem dX7_tick_12 : decode cX7_tick 12 = .ok (.iload_n 2, 1) := by decide +kernel
theorem dX7_tick_13 : decode cX7_tick 13 = .ok (.aload_n 1, 1) := by decide +kernel
theorem dX7_tick_14 : decode cX7_tick 14 = .ok (.iconst 2, 1) := by decide +kernel
theorem dX7_tick_15 : decode cX7_tick 15 = .ok (.iaload, 1) := by decide +kernel
theorem dX7_tick_16 : decode cX7_tick 16 = .ok (.if_icmp .ge 23, 3) := by decide +kernel
theorem dX7_tick_19 : decode cX7_tick 19 = .ok (.aload_n 0, 1) := by decide +kernel
theorem dX7_tick_20 : decode cX7_tick 20 = .ok (.getfield 42, 3) := by decide +kernel
theorem dX7_tick_23 : decode cX7_tick 23 = .ok (.iload_n 2, 1) := by decide +kernel
theorem dX7_tick_24 : decode cX7_tick 24 = .ok (.iconst 0, 1) := by decide +kernel
theorem dX7_tick_25 : decode cX7_tick 25 = .ok (.bastore, 1) := by decide +kernel
theorem dX7_tick_26 : decode cX7_tick 26 = .ok (.aload_n 0, 1) := by decide +kernel
theorem dX7_tick_27 : decode cX7_tick 27 = .ok (.getfield 38, 3) := by decide +kernel
theorem dX7_tick_30 : decode cX7_tick 30 = .ok (.iload_n 2, 1) := by decide +kernel
theorem dX7_tick_31 : decode cX7_tick 31 = .ok (.iconst 0, 1) := by decide +kernel
theorem dX7_tick_32 : decode cX7_tick 32 = .ok (.bastore, 1) := by decide +kernel
theorem dX7_tick_33 : decode cX7_tick 33 = .ok (.iinc 2 1, 3) := by decide +kernel
theorem dX7_tick_36 : decode cX7_tick 36 = .ok (.goto (-24), 3) := by decide +kernel
theorem dX7_tick_39 : decode cX7_tick 39 = .ok (.aload_n 1, 1) := by decide +kernel
theorem dX7_tick_40 : decode cX7_tick 40 = .ok (.iconst 0, 1) := by decide +kernel
theorem dX7_tick_41 : decode cX7_tick 41 = .ok (.iaload, 1) := by decide +kernel
theorem dX7_tick_42 : decode cX7_tick 42 = .ok (.iconst 1, 1) := by decide +kernel
theorem dX7_tick_43 : decode cX7_tick 43 = .ok (.isub, 1) := by decide +kernel
theorem dX7_tick_44 : decode cX7_tick 44 = .ok (.istore_n 2, 1) := by decide +kernel
theorem dX7_tick_45 : decode cX7_tick 45 = .ok (.iload_n 2, 1) := by decide +kernel
theorem dX7_tick_46 : decode cX7_tick 46 = .ok (.ifCond .lt 16, 3) := by decide +kernel
theorem dX7_tick_49 : decode cX7_tick 49 = .ok (.aload_n 0, 1) := by decide +kernel
theorem dX7_tick_50 : decode cX7_tick 50 = .ok (.aload_n 1, 1) := by decide +kernel
theorem dX7_tick_51 : decode cX7_tick 51 = .ok (.iload_n 2, 1) := by decide +kernel
theorem dX7_tick_52 : decode cX7_tick 52 = .ok (.iconst 1, 1) := by decide +kernel
theorem dX7_tick_53 : decode cX7_tick 53 = .ok (.invokevirtual 249, 3) := by decide +kernel
theorem dX7_tick_56 : decode cX7_tick 56 = .ok (.iinc 2 (-1), 3) := by decide +kernel
theorem dX7_tick_59 : decode cX7_tick 59 = .ok (.goto (-14), 3) := by decide +kernel
theorem dX7_tick_62 : decode cX7_tick 62 = .ok (.iconst 0, 1) := by decide +kernel
theorem dX7_tick_63 : decode cX7_tick 63 = .ok (.istore_n 2, 1) := by decide +kernel
theorem dX7_tick_64 : decode cX7_tick 64 = .ok (.iload_n 2, 1) := by decide +kernel
theorem dX7_tick_65 : decode cX7_tick 65 = .ok (.aload_n 1, 1) := by decide +kernel
theorem dX7_tick_66 : decode cX7_tick 66 = .ok (.iconst 0, 1) := by decide +kernel
theorem dX7_tick_67 : decode cX7_tick 67 = .ok (.iaload, 1) := by decide +kernel
theorem dX7_tick_68 : decode cX7_tick 68 = .ok (.if_icmp .ge 16, 3) := by decide +kernel
theorem dX7_tick_71 : decode cX7_tick 71 = .ok (.aload_n 0, 1) := by decide +kernel
theorem dX7_tick_72 : decode cX7_tick 72 = .ok (.aload_n 1, 1) := by decide +kernel
theorem dX7_tick_73 : decode cX7_tick 73 = .ok (.iload_n 2, 1) := by decide +kernel
theorem dX7_tick_74 : decode cX7_tick 74 = .ok (.iconst (-1), 1) := by decide +kernel
theorem dX7_tick_75 : decode cX7_tick 75 = .ok (.invokevirtual 249, 3) := by decide +kernel
theorem dX7_tick_78 : decode cX7_tick 78 = .ok (.iinc 2 1, 3) := by decide +kernel
theorem dX7_tick_81 : decode cX7_tick 81 = .ok (.goto (-17), 3) := by decide +kernel
theorem dX7_tick_84 : decode cX7_tick 84 = .ok (.iconst 0, 1) := by decide +kernel
theorem dX7_tick_85 : decode cX7_tick 85 = .ok (.istore_n 2, 1) := by decide +kernel
theorem dX7_tick_86 : decode cX7_tick 86 = .ok (.iload_n 2, 1) := by decide +kernel
theorem dX7_tick_87 : decode cX7_tick 87 = .ok (.aload_n 1, 1) := by decide +kernel
theorem dX7_tick_88 : decode cX7_tick 88 = .ok (.iconst 2, 1) := by decide +kernel
theorem dX7_tick_89 : decode cX7_tick 89 = .ok (.iaload, 1) := by decide +kernel
theorem dX7_tick_90 : decode cX7_tick 90 = .ok (.if_icmp .ge 24, 3) := by decide +kernel
theorem dX7_tick_93 : decode cX7_tick 93 = .ok (.aload_n 0, 1) := by decide +kernel
theorem dX7_tick_94 : decode cX7_tick 94 = .ok (.getfield 38, 3) := by decide +kernel
theorem dX7_tick_97 : decode cX7_tick 97 = .ok (.iload_n 2, 1) := by decide +kernel
theorem dX7_tick_98 : decode cX7_tick 98 = .ok (.baload, 1) := by decide +kernel
theorem dX7_tick_99 : decode cX7_tick 99 = .ok (.ifCond .eq 9, 3) := by decide +kernel
theorem dX7_tick_102 : decode cX7_tick 102 = .ok (.aload_n 0, 1) := by decide +kernel
theorem dX7_tick_103 : decode cX7_tick 103 = .ok (.aload_n 1, 1) := by decide +kernel
theorem dX7_tick_104 : decode cX7_tick 104 = .ok (.iload_n 2, 1) := by decide +kernel
theorem dX7_tick_105 : decode cX7_tick 105 = .ok (.invokevirtual 253, 3) := by decide +kernel
theorem dX7_tick_108 : decode cX7_tick 108 = .ok (.iinc 2 1, 3) := by decide +kernel
theorem dX7_tick_111 : decode cX7_tick 111 = .ok (.goto (-25), 3) := by decide +kernel
theorem dX7_tick_114 : decode cX7_tick 114 = .ok (.iconst 0, 1) := by decide +kernel
theorem dX7_tick_115 : decode cX7_tick 115 = .ok (.istore_n 2, 1) := by decide +kernel
theorem dX7_tick_116 : decode cX7_tick 116 = .ok (.iload_n 2, 1) := by decide +kernel
theorem dX7_tick_117 : decode cX7_tick 117 = .ok (.aload_n 1, 1) := by decide +kernel
theorem dX7_tick_118 : decode cX7_tick 118 = .ok (.iconst 2, 1) := by decide +kernel
theorem dX7_tick_119 : decode cX7_tick 119 = .ok (.iaload, 1) := by decide +kernel
theorem dX7_tick_120 : decode cX7_tick 120 = .ok (.if_icmp .ge 39, 3) := by decide +kernel
theorem dX7_tick_123 : decode cX7_tick 123 = .ok (.aload_n 1, 1) := by decide +kernel
theorem dX7_tick_124 : decode cX7_tick 124 = .ok (.iload_n 2, 1) := by decide +kernel
theorem dX7_tick_125 : decode cX7_tick 125 = .ok (.invokestatic 162, 3) := by decide +kernel
theorem dX7_tick_128 : decode cX7_tick 128 = .ok (.iaload, 1) := by decide +kernel
theorem dX7_tick_129 : decode cX7_tick 129 = .ok (.ifCond .lt 24, 3) := by decide +kernel
theorem dX7_tick_132 : decode cX7_tick 132 = .ok (.aload_n 1, 1) := by decide +kernel
theorem dX7_tick_133 : decode cX7_tick 133 = .ok (.iload_n 2, 1) := by decide +kernel
theorem dX7_tick_134 : decode cX7_tick 134 = .ok (.invokestatic 162, 3) := by decide +kernel
theorem dX7_tick_137 : decode cX7_tick 137 = .ok (.iconst 2, 1) := by decide +kernel
theorem dX7_tick_138 : decode cX7_tick 138 = .ok (.iadd, 1) := by decide +kernel
theorem dX7_tick_139 : decode cX7_tick 139 = .ok (.aload_n 1, 1) := by decide +kernel
theorem dX7_tick_140 : decode cX7_tick 140 = .ok (.aload_n 1, 1) := by decide +kernel
theorem dX7_tick_141 : decode cX7_tick 141 = .ok (.iload_n 2, 1) := by decide +kernel
theorem dX7_tick_142 : decode cX7_tick 142 = .ok (.invokestatic 162, 3) := by decide +kernel
theorem dX7_tick_145 : decode cX7_tick 145 = .ok (.iaload, 1) := by decide +kernel
theorem dX7_tick_146 : decode cX7_tick 146 = .ok (.invokestatic 143, 3) := by decide +kernel
theorem dX7_tick_149 : decode cX7_tick 149 = .ok (.iaload, 1) := by decide +kernel
theorem dX7_tick_150 : decode cX7_tick 150 = .ok (.invokestatic 256, 3) := by decide +kernel
theorem dX7_tick_153 : decode cX7_tick 153 = .ok (.iinc 2 1, 3) := by decide +kernel
theorem dX7_tick_156 : decode cX7_tick 156 = .ok (.goto (-40), 3) := by decide +kernel
theorem dX7_tick_159 : decode cX7_tick 159 = .ok (.aload_n 1, 1) := by decide +kernel
theorem dX7_tick_160 : decode cX7_tick 160 = .ok (.iconst 3, 1) := by decide +kernel
theorem dX7_tick_161 : decode cX7_tick 161 = .ok (.dup2, 1) := by decide +kernel
theorem dX7_tick_162 : decode cX7_tick 162 = .ok (.iaload, 1) := by decide +kernel
theorem dX7_tick_163 : decode cX7_tick 163 = .ok (.iconst 1, 1) := by decide +kernel
theorem dX7_tick_164 : decode cX7_tick 164 = .ok (.iadd, 1) := by decide +kernel
theorem dX7_tick_165 : decode cX7_tick 165 = .ok (.iastore, 1) := by decide +kernel
theorem dX7_tick_166 : decode cX7_tick 166 = .ok (.return_, 1) := by decide +kernel
theorem dX7_noSection_0 : decode cX7_noSection 0 = .ok (.aload_n 0, 1) := by decide +kernel
theorem dX7_noSection_1 : decode cX7_noSection 1 = .ok (.iload_n 1, 1) := by decide +kernel
theorem dX7_noSection_2 : decode cX7_noSection 2 = .ok (.iconst 0, 1) := by decide +kernel
theorem dX7_noSection_3 : decode cX7_noSection 3 = .ok (.aload_n 0, 1) := by decide +kernel
theorem dX7_noSection_4 : decode cX7_noSection 4 = .ok (.getfield 17, 3) := by decide +kernel
theorem dX7_noSection_7 : decode cX7_noSection 7 = .ok (.iconst 0, 1) := by decide +kernel
theorem dX7_noSection_8 : decode cX7_noSection 8 = .ok (.iaload, 1) := by decide +kernel
theorem dX7_noSection_9 : decode cX7_noSection 9 = .ok (.iconst 1, 1) := by decide +kernel
theorem dX7_noSection_10 : decode cX7_noSection 10 = .ok (.isub, 1) := by decide +kernel
theorem dX7_noSection_11 : decode cX7_noSection 11 = .ok (.invokestatic 67, 3) := by decide +kernel
theorem dX7_noSection_14 : decode cX7_noSection 14 = .ok (.ifCond .ne 7, 3) := by decide +kernel
theorem dX7_noSection_17 : decode cX7_noSection 17 = .ok (.iconst 1, 1) := by decide +kernel
theorem dX7_noSection_18 : decode cX7_noSection 18 = .ok (.goto 4, 3) := by decide +kernel
theorem dX7_noSection_21 : decode cX7_noSection 21 = .ok (.iconst 0, 1) := by decide +kernel
theorem dX7_noSection_22 : decode cX7_noSection 22 = .ok (.iconst 1, 1) := by decide +kernel
theorem dX7_noSection_23 : decode cX7_noSection 23 = .ok (.invokevirtual 194, 3) := by decide +kernel
theorem dX7_noSection_26 : decode cX7_noSection 26 = .ok (.ireturn, 1) := by decide +kernel
theorem dX7_noCar_0 : decode cX7_noCar 0 = .ok (.aload_n 0, 1) := by decide +kernel
theorem dX7_noCar_1 : decode cX7_noCar 1 = .ok (.iload_n 1, 1) := by decide +kernel
theorem dX7_noCar_2 : decode cX7_noCar 2 = .ok (.iconst 0, 1) := by decide +kernel
theorem dX7_noCar_3 : decode cX7_noCar 3 = .ok (.aload_n 0, 1) := by decide +kernel
theorem dX7_noCar_4 : decode cX7_noCar 4 = .ok (.getfield 17, 3) := by decide +kernel
theorem dX7_noCar_7 : decode cX7_noCar 7 = .ok (.iconst 2, 1) := by decide +kernel
theorem dX7_noCar_8 : decode cX7_noCar 8 = .ok (.iaload, 1) := by decide +kernel
theorem dX7_noCar_9 : decode cX7_noCar 9 = .ok (.iconst 1, 1) := by decide +kernel
theorem dX7_noCar_10 : decode cX7_noCar 10 = .ok (.isub, 1) := by decide +kernel
theorem dX7_noCar_11 : decode cX7_noCar 11 = .ok (.invokestatic 67, 3) := by decide +kernel
theorem dX7_noCar_14 : decode cX7_noCar 14 = .ok (.ifCond .ne 7, 3) := by decide +kernel
theorem dX7_noCar_17 : decode cX7_noCar 17 = .ok (.iconst 1, 1) := by decide +kernel
theorem dX7_noCar_18 : decode cX7_noCar 18 = .ok (.goto 4, 3) := by decide +kernel
theorem dX7_noCar_21 : decode cX7_noCar 21 = .ok (.iconst 0, 1) := by decide +kernel
theorem dX7_noCar_22 : decode cX7_noCar 22 = .ok (.iconst 1, 1) := by decide +kernel
theorem dX7_noCar_23 : decode cX7_noCar 23 = .ok (.invokevirtual 194, 3) := by decide +kernel
theorem dX7_noCar_26 : decode cX7_noCar 26 = .ok (.ireturn, 1) := by decide +kernel
theorem dX7_noWay_0 : decode cX7_noWay 0 = .ok (.aload_n 0, 1) := by decide +kernel
theorem dX7_noWay_1 : decode cX7_noWay 1 = .ok (.iload_n 1, 1) := by decide +kernel
theorem dX7_noWay_2 : decode cX7_noWay 2 = .ok (.iconst 1, 1) := by decide +kernel
theorem dX7_noWay_3 : decode cX7_noWay 3 = .ok (.if_icmp .eq 12, 3) := by decide +kernel
theorem dX7_noWay_6 : decode cX7_noWay 6 = .ok (.iload_n 1, 1) := by decide +kernel
theorem dX7_noWay_7 : decode cX7_noWay 7 = .ok (.iconst (-1), 1) := by decide +kernel
theorem dX7_noWay_8 : decode cX7_noWay 8 = .ok (.if_icmp .eq 7, 3) := by decide +kernel
theorem dX7_noWay_11 : decode cX7_noWay 11 = .ok (.iconst 1, 1) := by decide +kernel
theorem dX7_noWay_12 : decode cX7_noWay 12 = .ok (.goto 4, 3) := by decide +kernel
theorem dX7_noWay_15 : decode cX7_noWay 15 = .ok (.iconst 0, 1) := by decide +kernel
theorem dX7_noWay_16 : decode cX7_noWay 16 = .ok (.iconst 2, 1) := by decide +kernel
theorem dX7_noWay_17 : decode cX7_noWay 17 = .ok (.invokevirtual 194, 3) := by decide +kernel
theorem dX7_noWay_20 : decode cX7_noWay 20 = .ok (.ireturn, 1) := by decide +kernel
theorem dX7_signal_0 : decode cX7_signal 0 = .ok (.iload_n 0, 1) := by decide +kernel
theorem dX7_signal_1 : decode cX7_signal 1 = .ok (.invokestatic 143, 3) := by decide +kernel
theorem dX7_signal_4 : decode cX7_signal 4 = .ok (.iload_n 1, 1) := by decide +kernel
theorem dX7_signal_5 : decode cX7_signal 5 = .ok (.iconst 1, 1) := by decide +kernel
theorem dX7_signal_6 : decode cX7_signal 6 = .ok (.if_icmp .ne 7, 3) := by decide +kernel
theorem dX7_signal_9 : decode cX7_signal 9 = .ok (.iconst 5, 1) := by decide +kernel
theorem dX7_signal_10 : decode cX7_signal 10 = .ok (.goto 5, 3) := by decide +kernel
theorem dX7_signal_13 : decode cX7_signal 13 = .ok (.bipush 6, 2) := by decide +kernel
theorem dX7_signal_15 : decode cX7_signal 15 = .ok (.iadd, 1) := by decide +kernel
theorem dX7_signal_16 : decode cX7_signal 16 = .ok (.ireturn, 1) := by decide +kernel
theorem dX7_smoke_0 : decode cX7_smoke 0 = .ok (.aload_n 0, 1) := by decide +kernel
theorem dX7_smoke_1 : decode cX7_smoke 1 = .ok (.iconst 0, 1) := by decide +kernel
theorem dX7_smoke_2 : decode cX7_smoke 2 = .ok (.putfield 45, 3) := by decide +kernel
theorem dX7_smoke_5 : decode cX7_smoke 5 = .ok (.aload_n 0, 1) := by decide +kernel
theorem dX7_smoke_6 : decode cX7_smoke 6 = .ok (.iload_n 1, 1) := by decide +kernel
theorem dX7_smoke_7 : decode cX7_smoke 7 = .ok (.invokevirtual 259, 3) := by decide +kernel
theorem dX7_smoke_10 : decode cX7_smoke 10 = .ok (.ifCond .eq 7, 3) := by decide +kernel
theorem dX7_smoke_13 : decode cX7_smoke 13 = .ok (.iconst 0, 1) := by decide +kernel
theorem dX7_smoke_14 : decode cX7_smoke 14 = .ok (.goto 12, 3) := by decide +kernel
theorem dX7_smoke_17 : decode cX7_smoke 17 = .ok (.aload_n 0, 1) := by decide +kernel
theorem dX7_smoke_18 : decode cX7_smoke 18 = .ok (.getfield 17, 3) := by decide +kernel
theorem dX7_smoke_21 : decode cX7_smoke 21 = .ok (.iload_n 1, 1) := by decide +kernel
theorem dX7_smoke_22 : decode cX7_smoke 22 = .ok (.invokestatic 143, 3) := by decide +kernel
theorem dX7_smoke_25 : decode cX7_smoke 25 = .ok (.iaload, 1) := by decide +kernel
theorem dX7_smoke_26 : decode cX7_smoke 26 = .ok (.ireturn, 1) := by decide +kernel
theorem dX7_total_0 : decode cX7_total 0 = .ok (.aload_n 0, 1) := by decide +kernel
theorem dX7_total_1 : decode cX7_total 1 = .ok (.iconst 0, 1) := by decide +kernel
theorem dX7_total_2 : decode cX7_total 2 = .ok (.putfield 45, 3) := by decide +kernel
theorem dX7_total_5 : decode cX7_total 5 = .ok (.aload_n 0, 1) := by decide +kernel
theorem dX7_total_6 : decode cX7_total 6 = .ok (.iload_n 1, 1) := by decide +kernel
theorem dX7_total_7 : decode cX7_total 7 = .ok (.iconst 0, 1) := by decide +kernel
theorem dX7_total_8 : decode cX7_total 8 = .ok (.iconst 3, 1) := by decide +kernel
theorem dX7_total_9 : decode cX7_total 9 = .ok (.invokestatic 67, 3) := by decide +kernel
theorem dX7_total_12 : decode cX7_total 12 = .ok (.ifCond .ne 7, 3) := by decide +kernel
theorem dX7_total_15 : decode cX7_total 15 = .ok (.iconst 1, 1) := by decide +kernel
theorem dX7_total_16 : decode cX7_total 16 = .ok (.goto 4, 3) := by decide +kernel
theorem dX7_total_19 : decode cX7_total 19 = .ok (.iconst 0, 1) := by decide +kernel
theorem dX7_total_20 : decode cX7_total 20 = .ok (.iconst 1, 1) := by decide +kernel
theorem dX7_total_21 : decode cX7_total 21 = .ok (.invokevirtual 194, 3) := by decide +kernel
theorem dX7_total_24 : decode cX7_total 24 = .ok (.ifCond .eq 5, 3) := by decide +kernel
theorem dX7_total_27 : decode cX7_total 27 = .ok (.lconst 0, 1) := by decide +kernel
theorem dX7_total_28 : decode cX7_total 28 = .ok (.lreturn, 1) := by decide +kernel
theorem dX7_total_29 : decode cX7_total 29 = .ok (.iload_n 1, 1) := by decide +kernel
theorem dX7_total_30 : decode cX7_total 30 = .ok (.iconst 1, 1) := by decide +kernel
theorem dX7_total_31 : decode cX7_total 31 = .ok (.if_icmp .eq 31, 3) := by decide +kernel
theorem dX7_total_34 : decode cX7_total 34 = .ok (.aload_n 0, 1) := by decide +kernel
theorem dX7_total_35 : decode cX7_total 35 = .ok (.getfield 17, 3) := by decide +kernel
theorem dX7_total_38 : decode cX7_total 38 = .ok (.iload_n 1, 1) := by decide +kernel
theorem dX7_total_39 : decode cX7_total 39 = .ok (.ifCond .ne 8, 3) := by decide +kernel
theorem dX7_total_42 : decode cX7_total 42 = .ok (.bipush 8, 2) := by decide +kernel
theorem dX7_total_44 : decode cX7_total 44 = .ok (.goto 15, 3) := by decide +kernel
theorem dX7_total_47 : decode cX7_total 47 = .ok (.iload_n 1, 1) := by decide +kernel
theorem dX7_total_48 : decode cX7_total 48 = .ok (.iconst 2, 1) := by decide +kernel
theorem dX7_total_49 : decode cX7_total 49 = .ok (.if_icmp .ne 8, 3) := by decide +kernel
theorem dX7_total_52 : decode cX7_total 52 = .ok (.bipush 9, 2) := by decide +kernel
theorem dX7_total_54 : decode cX7_total 54 = .ok (.goto 5, 3) := by decide +kernel
theorem dX7_total_57 : decode cX7_total 57 = .ok (.bipush 10, 2) := by decide +kernel
theorem dX7_total_59 : decode cX7_total 59 = .ok (.iaload, 1) := by decide +kernel
theorem dX7_total_60 : decode cX7_total 60 = .ok (.i2l, 1) := by decide +kernel
theorem dX7_total_61 : decode cX7_total 61 = .ok (.lreturn, 1) := by decide +kernel
theorem dX7_total_62 : decode cX7_total 62 = .ok (.lconst 0, 1) := by decide +kernel
theorem dX7_total_63 : decode cX7_total 63 = .ok (.lstore_n 2, 1) := by decide +kernel
theorem dX7_total_64 : decode cX7_total 64 = .ok (.iconst 0, 1) := by decide +kernel
theorem dX7_total_65 : decode cX7_total 65 = .ok (.istore 4, 2) := by decide +kernel
theorem dX7_total_67 : decode cX7_total 67 = .ok (.iload 4, 2) := by decide +kernel
theorem dX7_total_69 : decode cX7_total 69 = .ok (.aload_n 0, 1) := by decide +kernel
theorem dX7_total_70 : decode cX7_total 70 = .ok (.getfield 17, 3) := by decide +kernel
theorem dX7_total_73 : decode cX7_total 73 = .ok (.iconst 0, 1) := by decide +kernel
theorem dX7_total_74 : decode cX7_total 74 = .ok (.iaload, 1) := by decide +kernel
theorem dX7_total_75 : decode cX7_total 75 = .ok (.if_icmp .ge 23, 3) := by decide +kernel
theorem dX7_total_78 : decode cX7_total 78 = .ok (.lload_n 2, 1) := by decide +kernel
theorem dX7_total_79 : decode cX7_total 79 = .ok (.aload_n 0, 1) := by decide +kernel
theorem dX7_total_80 : decode cX7_total 80 = .ok (.getfield 17, 3) := by decide +kernel
theorem dX7_total_83 : decode cX7_total 83 = .ok (.iload 4, 2) := by decide +kernel
theorem dX7_total_85 : decode cX7_total 85 = .ok (.invokestatic 143, 3) := by decide +kernel
theorem dX7_total_88 : decode cX7_total 88 = .ok (.iaload, 1) := by decide +kernel
theorem dX7_total_89 : decode cX7_total 89 = .ok (.i2l, 1) := by decide +kernel
theorem dX7_total_90 : decode cX7_total 90 = .ok (.ladd, 1) := by decide +kernel
theorem dX7_total_91 : decode cX7_total 91 = .ok (.lstore_n 2, 1) := by decide +kernel
theorem dX7_total_92 : decode cX7_total 92 = .ok (.iinc 4 1, 3) := by decide +kernel
theorem dX7_total_95 : decode cX7_total 95 = .ok (.goto (-28), 3) := by decide +kernel
theorem dX7_total_98 : decode cX7_total 98 = .ok (.lload_n 2, 1) := by decide +kernel
theorem dX7_total_99 : decode cX7_total 99 = .ok (.lreturn, 1) := by decide +kernel
theorem dX7_fan_0 : decode cX7_fan 0 = .ok (.aload_n 0, 1) := by decide +kernel
theorem dX7_fan_1 : decode cX7_fan 1 = .ok (.iconst 0, 1) := by decide +kernel
theorem dX7_fan_2 : decode cX7_fan 2 = .ok (.putfield 45, 3) := by decide +kernel
theorem dX7_fan_5 : decode cX7_fan 5 = .ok (.aload_n 0, 1) := by decide +kernel
theorem dX7_fan_6 : decode cX7_fan 6 = .ok (.iload_n 1, 1) := by decide +kernel
theorem dX7_fan_7 : decode cX7_fan 7 = .ok (.invokevirtual 259, 3) := by decide +kernel
theorem dX7_fan_10 : decode cX7_fan 10 = .ok (.ifCond .ne 30, 3) := by decide +kernel
theorem dX7_fan_13 : decode cX7_fan 13 = .ok (.aload_n 0, 1) := by decide +kernel
theorem dX7_fan_14 : decode cX7_fan 14 = .ok (.aload_n 0, 1) := by decide +kernel
theorem dX7_fan_15 : decode cX7_fan 15 = .ok (.getfield 17, 3) := by decide +kernel
theorem dX7_fan_18 : decode cX7_fan 18 = .ok (.iload_n 1, 1) := by decide +kernel
theorem dX7_fan_19 : decode cX7_fan 19 = .ok (.invokestatic 143, 3) := by decide +kernel
theorem dX7_fan_22 : decode cX7_fan 22 = .ok (.iconst 1, 1) := by decide +kernel
theorem dX7_fan_23 : decode cX7_fan 23 = .ok (.iadd, 1) := by decide +kernel
theorem dX7_fan_24 : decode cX7_fan 24 = .ok (.iaload, 1) := by decide +kernel
theorem dX7_fan_25 : decode cX7_fan 25 = .ok (.ifCond .ne 7, 3) := by decide +kernel
theorem dX7_fan_28 : decode cX7_fan 28 = .ok (.iconst 1, 1) := by decide +kernel
theorem dX7_fan_29 : decode cX7_fan 29 = .ok (.goto 4, 3) := by decide +kernel
theorem dX7_fan_32 : decode cX7_fan 32 = .ok (.iconst 0, 1) := by decide +kernel
theorem dX7_fan_33 : decode cX7_fan 33 = .ok (.iconst 2, 1) := by decide +kernel
theorem dX7_fan_34 : decode cX7_fan 34 = .ok (.invokevirtual 194, 3) := by decide +kernel
theorem dX7_fan_37 : decode cX7_fan 37 = .ok (.ifCond .eq 7, 3) := by decide +kernel
theorem dX7_fan_40 : decode cX7_fan 40 = .ok (.iconst 0, 1) := by decide +kernel
theorem dX7_fan_41 : decode cX7_fan 41 = .ok (.goto 14, 3) := by decide +kernel
theorem dX7_fan_44 : decode cX7_fan 44 = .ok (.aload_n 0, 1) := by decide +kernel
theorem dX7_fan_45 : decode cX7_fan 45 = .ok (.getfield 17, 3) := by decide +kernel
theorem dX7_fan_48 : decode cX7_fan 48 = .ok (.iload_n 1, 1) := by decide +kernel
theorem dX7_fan_49 : decode cX7_fan 49 = .ok (.invokestatic 143, 3) := by decide +kernel
theorem dX7_fan_52 : decode cX7_fan 52 = .ok (.iconst 2, 1) := by decide +kernel
theorem dX7_fan_53 : decode cX7_fan 53 = .ok (.iadd, 1) := by decide +kernel
theorem dX7_fan_54 : decode cX7_fan 54 = .ok (.iaload, 1) := by decide +kernel
theorem dX7_fan_55 : decode cX7_fan 55 = .ok (.ireturn, 1) := by decide +kernel
theorem dX7_bay_0 : decode cX7_bay 0 = .ok (.aload_n 0, 1) := by decide +kernel
theorem dX7_bay_1 : decode cX7_bay 1 = .ok (.iconst 0, 1) := by decide +kernel
theorem dX7_bay_2 : decode cX7_bay 2 = .ok (.putfield 45, 3) := by decide +kernel
theorem dX7_bay_5 : decode cX7_bay 5 = .ok (.aload_n 0, 1) := by decide +kernel
theorem dX7_bay_6 : decode cX7_bay 6 = .ok (.iload_n 1, 1) := by decide +kernel
theorem dX7_bay_7 : decode cX7_bay 7 = .ok (.invokevirtual 259, 3) := by decide +kernel
theorem dX7_bay_10 : decode cX7_bay 10 = .ok (.ifCond .eq 7, 3) := by decide +kernel
theorem dX7_bay_13 : decode cX7_bay 13 = .ok (.iconst 0, 1) := by decide +kernel
theorem dX7_bay_14 : decode cX7_bay 14 = .ok (.goto 14, 3) := by decide +kernel
theorem dX7_bay_17 : decode cX7_bay 17 = .ok (.aload_n 0, 1) := by decide +kernel
theorem dX7_bay_18 : decode cX7_bay 18 = .ok (.getfield 17, 3) := by decide +kernel
theorem dX7_bay_21 : decode cX7_bay 21 = .ok (.iload_n 1, 1) := by decide +kernel
theorem dX7_bay_22 : decode cX7_bay 22 = .ok (.invokestatic 143, 3) := by decide +kernel
theorem dX7_bay_25 : decode cX7_bay 25 = .ok (.iconst 4, 1) := by decide +kernel
theorem dX7_bay_26 : decode cX7_bay 26 = .ok (.iadd, 1) := by decide +kernel
theorem dX7_bay_27 : decode cX7_bay 27 = .ok (.iaload, 1) := by decide +kernel
theorem dX7_bay_28 : decode cX7_bay 28 = .ok (.ireturn, 1) := by decide +kernel
theorem dX7_isRed_0 : decode cX7_isRed 0 = .ok (.aload_n 0, 1) := by decide +kernel
theorem dX7_isRed_1 : decode cX7_isRed 1 = .ok (.iconst 0, 1) := by decide +kernel
theorem dX7_isRed_2 : decode cX7_isRed 2 = .ok (.putfield 45, 3) := by decide +kernel
theorem dX7_isRed_5 : decode cX7_isRed 5 = .ok (.aload_n 0, 1) := by decide +kernel
theorem dX7_isRed_6 : decode cX7_isRed 6 = .ok (.iload_n 1, 1) := by decide +kernel
theorem dX7_isRed_7 : decode cX7_isRed 7 = .ok (.invokevirtual 259, 3) := by decide +kernel
theorem dX7_isRed_10 : decode cX7_isRed 10 = .ok (.ifCond .ne 29, 3) := by decide +kernel
theorem dX7_isRed_13 : decode cX7_isRed 13 = .ok (.aload_n 0, 1) := by decide +kernel
theorem dX7_isRed_14 : decode cX7_isRed 14 = .ok (.iload_n 2, 1) := by decide +kernel
theorem dX7_isRed_15 : decode cX7_isRed 15 = .ok (.invokevirtual 262, 3) := by decide +kernel
theorem dX7_isRed_18 : decode cX7_isRed 18 = .ok (.ifCond .ne 21, 3) := by decide +kernel
theorem dX7_isRed_21 : decode cX7_isRed 21 = .ok (.aload_n 0, 1) := by decide +kernel
theorem dX7_isRed_22 : decode cX7_isRed 22 = .ok (.getfield 17, 3) := by decide +kernel
theorem dX7_isRed_25 : decode cX7_isRed 25 = .ok (.iload_n 1, 1) := by decide +kernel
theorem dX7_isRed_26 : decode cX7_isRed 26 = .ok (.iload_n 2, 1) := by decide +kernel
theorem dX7_isRed_27 : decode cX7_isRed 27 = .ok (.invokestatic 265, 3) := by decide +kernel
theorem dX7_isRed_30 : decode cX7_isRed 30 = .ok (.iaload, 1) := by decide +kernel
theorem dX7_isRed_31 : decode cX7_isRed 31 = .ok (.iconst 1, 1) := by decide +kernel
theorem dX7_isRed_32 : decode cX7_isRed 32 = .ok (.if_icmp .ne 7, 3) := by decide +kernel
theorem dX7_isRed_35 : decode cX7_isRed 35 = .ok (.iconst 1, 1) := by decide +kernel
theorem dX7_isRed_36 : decode cX7_isRed 36 = .ok (.goto 4, 3) := by decide +kernel
theorem dX7_isRed_39 : decode cX7_isRed 39 = .ok (.iconst 0, 1) := by decide +kernel
theorem dX7_isRed_40 : decode cX7_isRed 40 = .ok (.ireturn, 1) := by decide +kernel
theorem dX7_carSection_0 : decode cX7_carSection 0 = .ok (.aload_n 0, 1) := by decide +kernel
theorem dX7_carSection_1 : decode cX7_carSection 1 = .ok (.iconst 0, 1) := by decide +kernel
theorem dX7_carSection_2 : decode cX7_carSection 2 = .ok (.putfield 45, 3) := by decide +kernel
theorem dX7_carSection_5 : decode cX7_carSection 5 = .ok (.aload_n 0, 1) := by decide +kernel
theorem dX7_carSection_6 : decode cX7_carSection 6 = .ok (.iload_n 1, 1) := by decide +kernel
theorem dX7_carSection_7 : decode cX7_carSection 7 = .ok (.invokevirtual 268, 3) := by decide +kernel
theorem dX7_carSection_10 : decode cX7_carSection 10 = .ok (.ifCond .eq 7, 3) := by decide +kernel
theorem dX7_carSection_13 : decode cX7_carSection 13 = .ok (.iconst 0, 1) := by decide +kernel
theorem dX7_carSection_14 : decode cX7_carSection 14 = .ok (.goto 12, 3) := by decide +kernel
theorem dX7_carSection_17 : decode cX7_carSection 17 = .ok (.aload_n 0, 1) := by decide +kernel
theorem dX7_carSection_18 : decode cX7_carSection 18 = .ok (.getfield 17, 3) := by decide +kernel
theorem dX7_carSection_21 : decode cX7_carSection 21 = .ok (.iload_n 1, 1) := by decide +kernel
theorem dX7_carSection_22 : decode cX7_carSection 22 = .ok (.invokestatic 162, 3) := by decide +kernel
theorem dX7_carSection_25 : decode cX7_carSection 25 = .ok (.iaload, 1) := by decide +kernel
theorem dX7_carSection_26 : decode cX7_carSection 26 = .ok (.ireturn, 1) := by decide +kernel
theorem dX7_carDirection_0 : decode cX7_carDirection 0 = .ok (.aload_n 0, 1) := by decide +kernel
theorem dX7_carDirection_1 : decode cX7_carDirection 1 = .ok (.iconst 0, 1) := by decide +kernel
theorem dX7_carDirection_2 : decode cX7_carDirection 2 = .ok (.putfield 45, 3) := by decide +kernel
theorem dX7_carDirection_5 : decode cX7_carDirection 5 = .ok (.aload_n 0, 1) := by decide +kernel
theorem dX7_carDirection_6 : decode cX7_carDirection 6 = .ok (.iload_n 1, 1) := by decide +kernel
theorem dX7_carDirection_7 : decode cX7_carDirection 7 = .ok (.invokevirtual 268, 3) := by decide +kernel
theorem dX7_carDirection_10 : decode cX7_carDirection 10 = .ok (.ifCond .eq 7, 3) := by decide +kernel
theorem dX7_carDirection_13 : decode cX7_carDirection 13 = .ok (.iconst 0, 1) := by decide +kernel
theorem dX7_carDirection_14 : decode cX7_carDirection 14 = .ok (.goto 14, 3) := by decide +kernel
theorem dX7_carDirection_17 : decode cX7_carDirection 17 = .ok (.aload_n 0, 1) := by decide +kernel
theorem dX7_carDirection_18 : decode cX7_carDirection 18 = .ok (.getfield 17, 3) := by decide +kernel
theorem dX7_carDirection_21 : decode cX7_carDirection 21 = .ok (.iload_n 1, 1) := by decide +kernel
theorem dX7_carDirection_22 : decode cX7_carDirection 22 = .ok (.invokestatic 162, 3) := by decide +kernel
theorem dX7_carDirection_25 : decode cX7_carDirection 25 = .ok (.iconst 1, 1) := by decide +kernel
theorem dX7_carDirection_26 : decode cX7_carDirection 26 = .ok (.iadd, 1) := by decide +kernel
theorem dX7_carDirection_27 : decode cX7_carDirection 27 = .ok (.iaload, 1) := by decide +kernel
theorem dX7_carDirection_28 : decode cX7_carDirection 28 = .ok (.ireturn, 1) := by decide +kernel
theorem dX7_exposure_0 : decode cX7_exposure 0 = .ok (.aload_n 0, 1) := by decide +kernel
theorem dX7_exposure_1 : decode cX7_exposure 1 = .ok (.iconst 0, 1) := by decide +kernel
theorem dX7_exposure_2 : decode cX7_exposure 2 = .ok (.putfield 45, 3) := by decide +kernel
theorem dX7_exposure_5 : decode cX7_exposure 5 = .ok (.aload_n 0, 1) := by decide +kernel
theorem dX7_exposure_6 : decode cX7_exposure 6 = .ok (.iload_n 1, 1) := by decide +kernel
theorem dX7_exposure_7 : decode cX7_exposure 7 = .ok (.invokevirtual 268, 3) := by decide +kernel
theorem dX7_exposure_10 : decode cX7_exposure 10 = .ok (.ifCond .eq 7, 3) := by decide +kernel
theorem dX7_exposure_13 : decode cX7_exposure 13 = .ok (.lconst 0, 1) := by decide +kernel
theorem dX7_exposure_14 : decode cX7_exposure 14 = .ok (.goto 16, 3) := by decide +kernel
theorem dX7_exposure_17 : decode cX7_exposure 17 = .ok (.aload_n 0, 1) := by decide +kernel
theorem dX7_exposure_18 : decode cX7_exposure 18 = .ok (.getfield 17, 3) := by decide +kernel
theorem dX7_exposure_21 : decode cX7_exposure 21 = .ok (.iload_n 1, 1) := by decide +kernel
theorem dX7_exposure_22 : decode cX7_exposure 22 = .ok (.invokestatic 162, 3) := by decide +kernel
theorem dX7_exposure_25 : decode cX7_exposure 25 = .ok (.iconst 2, 1) := by decide +kernel
theorem dX7_exposure_26 : decode cX7_exposure 26 = .ok (.iadd, 1) := by decide +kernel
theorem dX7_exposure_27 : decode cX7_exposure 27 = .ok (.invokestatic 242, 3) := by decide +kernel
theorem dX7_exposure_30 : decode cX7_exposure 30 = .ok (.lreturn, 1) := by decide +kernel
theorem dX7_carsIn_0 : decode cX7_carsIn 0 = .ok (.aload_n 0, 1) := by decide +kernel
theorem dX7_carsIn_1 : decode cX7_carsIn 1 = .ok (.iconst 0, 1) := by decide +kernel
theorem dX7_carsIn_2 : decode cX7_carsIn 2 = .ok (.putfield 45, 3) := by decide +kernel
theorem dX7_carsIn_5 : decode cX7_carsIn 5 = .ok (.aload_n 0, 1) := by decide +kernel
theorem dX7_carsIn_6 : decode cX7_carsIn 6 = .ok (.iload_n 1, 1) := by decide +kernel
theorem dX7_carsIn_7 : decode cX7_carsIn 7 = .ok (.invokevirtual 259, 3) := by decide +kernel
theorem dX7_carsIn_10 : decode cX7_carsIn 10 = .ok (.ifCond .ne 11, 3) := by decide +kernel
theorem dX7_carsIn_13 : decode cX7_carsIn 13 = .ok (.aload_n 0, 1) := by decide +kernel
theorem dX7_carsIn_14 : decode cX7_carsIn 14 = .ok (.iload_n 2, 1) := by decide +kernel
theorem dX7_carsIn_15 : decode cX7_carsIn 15 = .ok (.invokevirtual 262, 3) := by decide +kernel
theorem dX7_carsIn_18 : decode cX7_carsIn 18 = .ok (.ifCond .eq 7, 3) := by decide +kernel
theorem dX7_carsIn_21 : decode cX7_carsIn 21 = .ok (.iconst 0, 1) := by decide +kernel
theorem dX7_carsIn_22 : decode cX7_carsIn 22 = .ok (.goto 12, 3) := by decide +kernel
theorem dX7_carsIn_25 : decode cX7_carsIn 25 = .ok (.aload_n 0, 1) := by decide +kernel
theorem dX7_carsIn_26 : decode cX7_carsIn 26 = .ok (.getfield 17, 3) := by decide +kernel
theorem dX7_carsIn_29 : decode cX7_carsIn 29 = .ok (.iload_n 1, 1) := by decide +kernel
theorem dX7_carsIn_30 : decode cX7_carsIn 30 = .ok (.iload_n 2, 1) := by decide +kernel
theorem dX7_carsIn_31 : decode cX7_carsIn 31 = .ok (.invokestatic 158, 3) := by decide +kernel
theorem dX7_carsIn_34 : decode cX7_carsIn 34 = .ok (.ireturn, 1) := by decide +kernel
theorem dX7_clears_0 : decode cX7_clears 0 = .ok (.iconst 0, 1) := by decide +kernel
theorem dX7_clears_1 : decode cX7_clears 1 = .ok (.istore_n 2, 1) := by decide +kernel
theorem dX7_clears_2 : decode cX7_clears 2 = .ok (.iload_n 2, 1) := by decide +kernel
theorem dX7_clears_3 : decode cX7_clears 3 = .ok (.iload_n 1, 1) := by decide +kernel
theorem dX7_clears_4 : decode cX7_clears 4 = .ok (.if_icmp .gt 29, 3) := by decide +kernel
theorem dX7_clears_7 : decode cX7_clears 7 = .ok (.aload_n 0, 1) := by decide +kernel
theorem dX7_clears_8 : decode cX7_clears 8 = .ok (.getfield 23, 3) := by decide +kernel
theorem dX7_clears_11 : decode cX7_clears 11 = .ok (.invokestatic 218, 3) := by decide +kernel
theorem dX7_clears_14 : decode cX7_clears 14 = .ok (.ifCond .ne 5, 3) := by decide +kernel
theorem dX7_clears_17 : decode cX7_clears 17 = .ok (.iload_n 2, 1) := by decide +kernel
theorem dX7_clears_18 : decode cX7_clears 18 = .ok (.ireturn, 1) := by decide +kernel
theorem dX7_clears_19 : decode cX7_clears 19 = .ok (.aload_n 0, 1) := by decide +kernel
theorem dX7_clears_20 : decode cX7_clears 20 = .ok (.aload_n 0, 1) := by decide +kernel
theorem dX7_clears_21 : decode cX7_clears 21 = .ok (.getfield 23, 3) := by decide +kernel
theorem dX7_clears_24 : decode cX7_clears 24 = .ok (.invokevirtual 271, 3) := by decide +kernel
theorem dX7_clears_27 : decode cX7_clears 27 = .ok (.iinc 2 1, 3) := by decide +kernel
theorem dX7_clears_30 : decode cX7_clears 30 = .ok (.goto (-28), 3) := by decide +kernel
theorem dX7_clears_33 : decode cX7_clears 33 = .ok (.iconst (-1), 1) := by decide +kernel
theorem dX7_clears_34 : decode cX7_clears 34 = .ok (.ireturn, 1) := by decide +kernel
theorem dX7_clearingTime_0 : decode cX7_clearingTime 0 = .ok (.aload_n 0, 1) := by decide +kernel
theorem dX7_clearingTime_1 : decode cX7_clearingTime 1 = .ok (.iconst 0, 1) := by decide +kernel
theorem dX7_clearingTime_2 : decode cX7_clearingTime 2 = .ok (.putfield 45, 3) := by decide +kernel
theorem dX7_clearingTime_5 : decode cX7_clearingTime 5 = .ok (.aload_n 0, 1) := by decide +kernel
theorem dX7_clearingTime_6 : decode cX7_clearingTime 6 = .ok (.iload_n 1, 1) := by decide +kernel
theorem dX7_clearingTime_7 : decode cX7_clearingTime 7 = .ok (.iconst 0, 1) := by decide +kernel
theorem dX7_clearingTime_8 : decode cX7_clearingTime 8 = .ok (.sipush 200, 3) := by decide +kernel
theorem dX7_clearingTime_11 : decode cX7_clearingTime 11 = .ok (.invokestatic 67, 3) := by decide +kernel
theorem dX7_clearingTime_14 : decode cX7_clearingTime 14 = .ok (.ifCond .ne 7, 3) := by decide +kernel
theorem dX7_clearingTime_17 : decode cX7_clearingTime 17 = .ok (.iconst 1, 1) := by decide +kernel
theorem dX7_clearingTime_18 : decode cX7_clearingTime 18 = .ok (.goto 4, 3) := by decide +kernel
theorem dX7_clearingTime_21 : decode cX7_clearingTime 21 = .ok (.iconst 0, 1) := by decide +kernel
theorem dX7_clearingTime_22 : decode cX7_clearingTime 22 = .ok (.iconst 1, 1) := by decide +kernel
theorem dX7_clearingTime_23 : decode cX7_clearingTime 23 = .ok (.invokevirtual 194, 3) := by decide +kernel
theorem dX7_clearingTime_26 : decode cX7_clearingTime 26 = .ok (.ifCond .eq 5, 3) := by decide +kernel
theorem dX7_clearingTime_29 : decode cX7_clearingTime 29 = .ok (.iconst 0, 1) := by decide +kernel
theorem dX7_clearingTime_30 : decode cX7_clearingTime 30 = .ok (.ireturn, 1) := by decide +kernel
theorem dX7_clearingTime_31 : decode cX7_clearingTime 31 = .ok (.aload_n 0, 1) := by decide +kernel
theorem dX7_clearingTime_32 : decode cX7_clearingTime 32 = .ok (.getfield 17, 3) := by decide +kernel
theorem dX7_clearingTime_35 : decode cX7_clearingTime 35 = .ok (.aload_n 0, 1) := by decide +kernel
theorem dX7_clearingTime_36 : decode cX7_clearingTime 36 = .ok (.getfield 23, 3) := by decide +kernel
theorem dX7_clearingTime_39 : decode cX7_clearingTime 39 = .ok (.invokestatic 206, 3) := by decide +kernel
theorem dX7_clearingTime_42 : decode cX7_clearingTime 42 = .ok (.aload_n 0, 1) := by decide +kernel
theorem dX7_clearingTime_43 : decode cX7_clearingTime 43 = .ok (.iload_n 1, 1) := by decide +kernel
theorem dX7_clearingTime_44 : decode cX7_clearingTime 44 = .ok (.invokevirtual 275, 3) := by decide +kernel
theorem dX7_clearingTime_47 : decode cX7_clearingTime 47 = .ok (.ireturn, 1) := by decide +kernel
theorem dX7_ones_0 : decode cX7_ones 0 = .ok (.iconst 0, 1) := by decide +kernel
theorem dX7_ones_1 : decode cX7_ones 1 = .ok (.istore_n 1, 1) := by decide +kernel
theorem dX7_ones_2 : decode cX7_ones 2 = .ok (.iload_n 0, 1) := by decide +kernel
theorem dX7_ones_3 : decode cX7_ones 3 = .ok (.istore_n 2, 1) := by decide +kernel
theorem dX7_ones_4 : decode cX7_ones 4 = .ok (.iload_n 2, 1) := by decide +kernel
theorem dX7_ones_5 : decode cX7_ones 5 = .ok (.ifCond .le 16, 3) := by decide +kernel
theorem dX7_ones_8 : decode cX7_ones 8 = .ok (.iload_n 1, 1) := by decide +kernel
theorem dX7_ones_9 : decode cX7_ones 9 = .ok (.iload_n 2, 1) := by decide +kernel
theorem dX7_ones_10 : decode cX7_ones 10 = .ok (.iconst 2, 1) := by decide +kernel
theorem dX7_ones_11 : decode cX7_ones 11 = .ok (.irem, 1) := by decide +kernel
theorem dX7_ones_12 : decode cX7_ones 12 = .ok (.iadd, 1) := by decide +kernel
theorem dX7_ones_13 : decode cX7_ones 13 = .ok (.istore_n 1, 1) := by decide +kernel
theorem dX7_ones_14 : decode cX7_ones 14 = .ok (.iload_n 2, 1) := by decide +kernel
theorem dX7_ones_15 : decode cX7_ones 15 = .ok (.iconst 2, 1) := by decide +kernel
theorem dX7_ones_16 : decode cX7_ones 16 = .ok (.idiv, 1) := by decide +kernel
theorem dX7_ones_17 : decode cX7_ones 17 = .ok (.istore_n 2, 1) := by decide +kernel
theorem dX7_ones_18 : decode cX7_ones 18 = .ok (.goto (-14), 3) := by decide +kernel
theorem dX7_ones_21 : decode cX7_ones 21 = .ok (.iload_n 1, 1) := by decide +kernel
theorem dX7_ones_22 : decode cX7_ones 22 = .ok (.ireturn, 1) := by decide +kernel
theorem dX7_findBays_0 : decode cX7_findBays 0 = .ok (.aload_n 0, 1) := by decide +kernel
theorem dX7_findBays_1 : decode cX7_findBays 1 = .ok (.iconst (-1), 1) := by decide +kernel
theorem dX7_findBays_2 : decode cX7_findBays 2 = .ok (.putfield 278, 3) := by decide +kernel
theorem dX7_findBays_5 : decode cX7_findBays 5 = .ok (.aload_n 0, 1) := by decide +kernel
theorem dX7_findBays_6 : decode cX7_findBays 6 = .ok (.iconst (-1), 1) := by decide +kernel
theorem dX7_findBays_7 : decode cX7_findBays 7 = .ok (.putfield 281, 3) := by decide +kernel
theorem dX7_findBays_10 : decode cX7_findBays 10 = .ok (.iconst 0, 1) := by decide +kernel
theorem dX7_findBays_11 : decode cX7_findBays 11 = .ok (.istore_n 1, 1) := by decide +kernel
theorem dX7_findBays_12 : decode cX7_findBays 12 = .ok (.iload_n 1, 1) := by decide +kernel
theorem dX7_findBays_13 : decode cX7_findBays 13 = .ok (.iconst 1, 1) := by decide +kernel
theorem dX7_findBays_14 : decode cX7_findBays 14 = .ok (.aload_n 0, 1) := by decide +kernel
theorem dX7_findBays_15 : decode cX7_findBays 15 = .ok (.getfield 17, 3) := by decide +kernel
theorem dX7_findBays_18 : decode cX7_findBays 18 = .ok (.iconst 0, 1) := by decide +kernel
theorem dX7_findBays_19 : decode cX7_findBays 19 = .ok (.iaload, 1) := by decide +kernel
theorem dX7_findBays_20 : decode cX7_findBays 20 = .ok (.ishl, 1) := by decide +kernel
theorem dX7_findBays_21 : decode cX7_findBays 21 = .ok (.if_icmp .ge 182, 3) := by decide +kernel
theorem dX7_findBays_24 : decode cX7_findBays 24 = .ok (.iconst 1, 1) := by decide +kernel
theorem dX7_findBays_25 : decode cX7_findBays 25 = .ok (.istore_n 2, 1) := by decide +kernel
theorem dX7_findBays_26 : decode cX7_findBays 26 = .ok (.iconst 0, 1) := by decide +kernel
theorem dX7_findBays_27 : decode cX7_findBays 27 = .ok (.istore_n 3, 1) := by decide +kernel
theorem dX7_findBays_28 : decode cX7_findBays 28 = .ok (.iload_n 3, 1) := by decide +kernel
theorem dX7_findBays_29 : decode cX7_findBays 29 = .ok (.aload_n 0, 1) := by decide +kernel
theorem dX7_findBays_30 : decode cX7_findBays 30 = .ok (.getfield 17, 3) := by decide +kernel
theorem dX7_findBays_33 : decode cX7_findBays 33 = .ok (.iconst 0, 1) := by decide +kernel
theorem dX7_findBays_34 : decode cX7_findBays 34 = .ok (.iaload, 1) := by decide +kernel
theorem dX7_findBays_35 : decode cX7_findBays 35 = .ok (.if_icmp .ge 34, 3) := by decide +kernel
theorem dX7_findBays_38 : decode cX7_findBays 38 = .ok (.iload_n 1, 1) := by decide +kernel
theorem dX7_findBays_39 : decode cX7_findBays 39 = .ok (.iload_n 3, 1) := by decide +kernel
theorem dX7_findBays_40 : decode cX7_findBays 40 = .ok (.ishr, 1) := by decide +kernel
theorem dX7_findBays_41 : decode cX7_findBays 41 = .ok (.iconst 1, 1) := by decide +kernel
theorem dX7_findBays_42 : decode cX7_findBays 42 = .ok (.iand, 1) := by decide +kernel
theorem dX7_findBays_43 : decode cX7_findBays 43 = .ok (.iconst 1, 1) := by decide +kernel
theorem dX7_findBays_44 : decode cX7_findBays 44 = .ok (.if_icmp .ne 19, 3) := by decide +kernel
theorem dX7_findBays_47 : decode cX7_findBays 47 = .ok (.aload_n 0, 1) := by decide +kernel
theorem dX7_findBays_48 : decode cX7_findBays 48 = .ok (.getfield 17, 3) := by decide +kernel
theorem dX7_findBays_51 : decode cX7_findBays 51 = .ok (.iload_n 3, 1) := by decide +kernel
theorem dX7_findBays_52 : decode cX7_findBays 52 = .ok (.invokestatic 143, 3) := by decide +kernel
theorem dX7_findBays_55 : decode cX7_findBays 55 = .ok (.iconst 4, 1) := by decide +kernel
theorem dX7_findBays_56 : decode cX7_findBays 56 = .ok (.iadd, 1) := by decide +kernel
theorem dX7_findBays_57 : decode cX7_findBays 57 = .ok (.iaload, 1) := by decide +kernel
theorem dX7_findBays_58 : decode cX7_findBays 58 = .ok (.ifCond .ge 5, 3) := by decide +kernel
theorem dX7_findBays_61 : decode cX7_findBays 61 = .ok (.iconst 0, 1) := by decide +kernel
theorem dX7_findBays_62 : decode cX7_findBays 62 = .ok (.istore_n 2, 1) := by decide +kernel
theorem dX7_findBays_63 : decode cX7_findBays 63 = .ok (.iinc 3 1, 3) := by decide +kernel
theorem dX7_findBays_66 : decode cX7_findBays 66 = .ok (.goto (-38), 3) := by decide +kernel
theorem dX7_findBays_69 : decode cX7_findBays 69 = .ok (.iload_n 2, 1) := by decide +kernel
theorem dX7_findBays_70 : decode cX7_findBays 70 = .ok (.ifCond .ne 6, 3) := by decide +kernel
theorem dX7_findBays_73 : decode cX7_findBays 73 = .ok (.goto 124, 3) := by decide +kernel
theorem dX7_findBays_76 : decode cX7_findBays 76 = .ok (.aload_n 0, 1) := by decide +kernel
theorem dX7_findBays_77 : decode cX7_findBays 77 = .ok (.getfield 17, 3) := by decide +kernel
theorem dX7_findBays_80 : decode cX7_findBays 80 = .ok (.aload_n 0, 1) := by decide +kernel
theorem dX7_findBays_81 : decode cX7_findBays 81 = .ok (.getfield 23, 3) := by decide +kernel
theorem dX7_findBays_84 : decode cX7_findBays 84 = .ok (.invokestatic 206, 3) := by decide +kernel
theorem dX7_findBays_87 : decode cX7_findBays 87 = .ok (.iconst 0, 1) := by decide +kernel
theorem dX7_findBays_88 : decode cX7_findBays 88 = .ok (.istore_n 3, 1) := by decide +kernel
theorem dX7_findBays_89 : decode cX7_findBays 89 = .ok (.iload_n 3, 1) := by decide +kernel
theorem dX7_findBays_90 : decode cX7_findBays 90 = .ok (.aload_n 0, 1) := by decide +kernel
theorem dX7_findBays_91 : decode cX7_findBays 91 = .ok (.getfield 17, 3) := by decide +kernel
theorem dX7_findBays_94 : decode cX7_findBays 94 = .ok (.iconst 0, 1) := by decide +kernel
theorem dX7_findBays_95 : decode cX7_findBays 95 = .ok (.iaload, 1) := by decide +kernel
theorem dX7_findBays_96 : decode cX7_findBays 96 = .ok (.if_icmp .ge 39, 3) := by decide +kernel
theorem dX7_findBays_99 : decode cX7_findBays 99 = .ok (.aload_n 0, 1) := by decide +kernel
theorem dX7_findBays_100 : decode cX7_findBays 100 = .ok (.getfield 17, 3) := by decide +kernel
theorem dX7_findBays_103 : decode cX7_findBays 103 = .ok (.iload_n 3, 1) := by decide +kernel
theorem dX7_findBays_104 : decode cX7_findBays 104 = .ok (.invokestatic 143, 3) := by decide +kernel
theorem dX7_findBays_107 : decode cX7_findBays 107 = .ok (.iconst 4, 1) := by decide +kernel
theorem dX7_findBays_108 : decode cX7_findBays 108 = .ok (.iadd, 1) := by decide +kernel
theorem dX7_findBays_109 : decode cX7_findBays 109 = .ok (.iaload, 1) := by decide +kernel
theorem dX7_findBays_110 : decode cX7_findBays 110 = .ok (.ifCond .lt 19, 3) := by decide +kernel
theorem dX7_findBays_113 : decode cX7_findBays 113 = .ok (.aload_n 0, 1) := by decide +kernel
theorem dX7_findBays_114 : decode cX7_findBays 114 = .ok (.getfield 23, 3) := by decide +kernel
theorem dX7_findBays_117 : decode cX7_findBays 117 = .ok (.iload_n 3, 1) := by decide +kernel
theorem dX7_findBays_118 : decode cX7_findBays 118 = .ok (.invokestatic 143, 3) := by decide +kernel
theorem dX7_findBays_121 : decode cX7_findBays 121 = .ok (.iconst 4, 1) := by decide +kernel
theorem dX7_findBays_122 : decode cX7_findBays 122 = .ok (.iadd, 1) := by decide +kernel
theorem dX7_findBays_123 : decode cX7_findBays 123 = .ok (.iload_n 1, 1) := by decide +kernel
theorem dX7_findBays_124 : decode cX7_findBays 124 = .ok (.iload_n 3, 1) := by decide +kernel
theorem dX7_findBays_125 : decode cX7_findBays 125 = .ok (.ishr, 1) := by decide +kernel
theorem dX7_findBays_126 : decode cX7_findBays 126 = .ok (.iconst 1, 1) := by decide +kernel
theorem dX7_findBays_127 : decode cX7_findBays 127 = .ok (.iand, 1) := by decide +kernel
theorem dX7_findBays_128 : decode cX7_findBays 128 = .ok (.iastore, 1) := by decide +kernel
theorem dX7_findBays_129 : decode cX7_findBays 129 = .ok (.iinc 3 1, 3) := by decide +kernel
theorem dX7_findBays_132 : decode cX7_findBays 132 = .ok (.goto (-43), 3) := by decide +kernel
theorem dX7_findBays_135 : decode cX7_findBays 135 = .ok (.aload_n 0, 1) := by decide +kernel
theorem dX7_findBays_136 : decode cX7_findBays 136 = .ok (.sipush 200, 3) := by decide +kernel
theorem dX7_findBays_139 : decode cX7_findBays 139 = .ok (.invokevirtual 275, 3) := by decide +kernel
theorem dX7_findBays_142 : decode cX7_findBays 142 = .ok (.istore_n 3, 1) := by decide +kernel
theorem dX7_findBays_143 : decode cX7_findBays 143 = .ok (.iload_n 3, 1) := by decide +kernel
theorem dX7_findBays_144 : decode cX7_findBays 144 = .ok (.ifCond .lt 53, 3) := by decide +kernel
theorem dX7_findBays_147 : decode cX7_findBays 147 = .ok (.aload_n 0, 1) := by decide +kernel
theorem dX7_findBays_148 : decode cX7_findBays 148 = .ok (.getfield 278, 3) := by decide +kernel
theorem dX7_findBays_151 : decode cX7_findBays 151 = .ok (.ifCond .lt 36, 3) := by decide +kernel
theorem dX7_findBays_154 : decode cX7_findBays 154 = .ok (.iload_n 3, 1) := by decide +kernel
theorem dX7_findBays_155 : decode cX7_findBays 155 = .ok (.aload_n 0, 1) := by decide +kernel
theorem dX7_findBays_156 : decode cX7_findBays 156 = .ok (.getfield 281, 3) := by decide +kernel
theorem dX7_findBays_159 : decode cX7_findBays 159 = .ok (.if_icmp .gt 38, 3) := by decide +kernel
theorem dX7_findBays_162 : decode cX7_findBays 162 = .ok (.iload_n 3, 1) := by decide +kernel
theorem dX7_findBays_163 : decode cX7_findBays 163 = .ok (.aload_n 0, 1) := by decide +kernel
theorem dX7_findBays_164 : decode cX7_findBays 164 = .ok (.getfield 281, 3) := by decide +kernel
theorem dX7_findBays_167 : decode cX7_findBays 167 = .ok (.if_icmp .ne 20, 3) := by decide +kernel
theorem dX7_findBays_170 : decode cX7_findBays 170 = .ok (.iload_n 1, 1) := by decide +kernel
theorem dX7_findBays_171 : decode cX7_findBays 171 = .ok (.invokestatic 284, 3) := by decide +kernel
theorem dX7_findBays_174 : decode cX7_findBays 174 = .ok (.aload_n 0, 1) := by decide +kernel
theorem dX7_findBays_175 : decode cX7_findBays 175 = .ok (.getfield 278, 3) := by decide +kernel
theorem dX7_findBays_178 : decode cX7_findBays 178 = .ok (.invokestatic 284, 3) := by decide +kernel
theorem dX7_findBays_181 : decode cX7_findBays 181 = .ok (.if_icmp .lt 6, 3) := by decide +kernel
theorem dX7_findBays_184 : decode cX7_findBays 184 = .ok (.goto 13, 3) := by decide +kernel
theorem dX7_findBays_187 : decode cX7_findBays 187 = .ok (.aload_n 0, 1) := by decide +kernel
theorem dX7_findBays_188 : decode cX7_findBays 188 = .ok (.iload_n 1, 1) := by decide +kernel
theorem dX7_findBays_189 : decode cX7_findBays 189 = .ok (.putfield 278, 3) := by decide +kernel
theorem dX7_findBays_192 : decode cX7_findBays 192 = .ok (.aload_n 0, 1) := by decide +kernel
theorem dX7_findBays_193 : decode cX7_findBays 193 = .ok (.iload_n 3, 1) := by decide +kernel
theorem dX7_findBays_194 : decode cX7_findBays 194 = .ok (.putfield 281, 3) := by decide +kernel
theorem dX7_findBays_197 : decode cX7_findBays 197 = .ok (.iinc 1 1, 3) := by decide +kernel
theorem dX7_findBays_200 : decode cX7_findBays 200 = .ok (.goto (-188), 3) := by decide +kernel
theorem dX7_findBays_203 : decode cX7_findBays 203 = .ok (.return_, 1) := by decide +kernel
theorem dX7_bestBays_0 : decode cX7_bestBays 0 = .ok (.aload_n 0, 1) := by decide +kernel
theorem dX7_bestBays_1 : decode cX7_bestBays 1 = .ok (.iconst 0, 1) := by decide +kernel
theorem dX7_bestBays_2 : decode cX7_bestBays 2 = .ok (.putfield 45, 3) := by decide +kernel
theorem dX7_bestBays_5 : decode cX7_bestBays 5 = .ok (.aload_n 0, 1) := by decide +kernel
theorem dX7_bestBays_6 : decode cX7_bestBays 6 = .ok (.invokevirtual 287, 3) := by decide +kernel
theorem dX7_bestBays_9 : decode cX7_bestBays 9 = .ok (.aload_n 0, 1) := by decide +kernel
theorem dX7_bestBays_10 : decode cX7_bestBays 10 = .ok (.getfield 278, 3) := by decide +kernel
theorem dX7_bestBays_13 : decode cX7_bestBays 13 = .ok (.ireturn, 1) := by decide +kernel
theorem dX7_bestBayTime_0 : decode cX7_bestBayTime 0 = .ok (.aload_n 0, 1) := by decide +kernel
theorem dX7_bestBayTime_1 : decode cX7_bestBayTime 1 = .ok (.iconst 0, 1) := by decide +kernel
theorem dX7_bestBayTime_2 : decode cX7_bestBayTime 2 = .ok (.putfield 45, 3) := by decide +kernel
theorem dX7_bestBayTime_5 : decode cX7_bestBayTime 5 = .ok (.aload_n 0, 1) := by decide +kernel
theorem dX7_bestBayTime_6 : decode cX7_bestBayTime 6 = .ok (.invokevirtual 287, 3) := by decide +kernel
theorem dX7_bestBayTime_9 : decode cX7_bestBayTime 9 = .ok (.aload_n 0, 1) := by decide +kernel
theorem dX7_bestBayTime_10 : decode cX7_bestBayTime 10 = .ok (.getfield 281, 3) := by decide +kernel
theorem dX7_bestBayTime_13 : decode cX7_bestBayTime 13 = .ok (.ireturn, 1) := by decide +kernel
theorem dX7_exposes_0 : decode cX7_exposes 0 = .ok (.aload_n 0, 1) := by decide +kernel
theorem dX7_exposes_1 : decode cX7_exposes 1 = .ok (.getfield 17, 3) := by decide +kernel
theorem dX7_exposes_4 : decode cX7_exposes 4 = .ok (.aload_n 0, 1) := by decide +kernel
theorem dX7_exposes_5 : decode cX7_exposes 5 = .ok (.getfield 23, 3) := by decide +kernel
theorem dX7_exposes_8 : decode cX7_exposes 8 = .ok (.invokestatic 206, 3) := by decide +kernel
theorem dX7_exposes_11 : decode cX7_exposes 11 = .ok (.iconst 0, 1) := by decide +kernel
theorem dX7_exposes_12 : decode cX7_exposes 12 = .ok (.istore_n 3, 1) := by decide +kernel
theorem dX7_exposes_13 : decode cX7_exposes 13 = .ok (.iload_n 3, 1) := by decide +kernel
theorem dX7_exposes_14 : decode cX7_exposes 14 = .ok (.aload_n 0, 1) := by decide +kernel
theorem dX7_exposes_15 : decode cX7_exposes 15 = .ok (.getfield 17, 3) := by decide +kernel
theorem dX7_exposes_18 : decode cX7_exposes 18 = .ok (.iconst 0, 1) := by decide +kernel
theorem dX7_exposes_19 : decode cX7_exposes 19 = .ok (.iaload, 1) := by decide +kernel
theorem dX7_exposes_20 : decode cX7_exposes 20 = .ok (.if_icmp .ge 36, 3) := by decide +kernel
theorem dX7_exposes_23 : decode cX7_exposes 23 = .ok (.aload_n 0, 1) := by decide +kernel
theorem dX7_exposes_24 : decode cX7_exposes 24 = .ok (.getfield 17, 3) := by decide +kernel
theorem dX7_exposes_27 : decode cX7_exposes 27 = .ok (.iload_n 3, 1) := by decide +kernel
theorem dX7_exposes_28 : decode cX7_exposes 28 = .ok (.invokestatic 143, 3) := by decide +kernel
theorem dX7_exposes_31 : decode cX7_exposes 31 = .ok (.iconst 1, 1) := by decide +kernel
theorem dX7_exposes_32 : decode cX7_exposes 32 = .ok (.iadd, 1) := by decide +kernel
theorem dX7_exposes_33 : decode cX7_exposes 33 = .ok (.iaload, 1) := by decide +kernel
theorem dX7_exposes_34 : decode cX7_exposes 34 = .ok (.iconst 1, 1) := by decide +kernel
theorem dX7_exposes_35 : decode cX7_exposes 35 = .ok (.if_icmp .ne 15, 3) := by decide +kernel
theorem dX7_exposes_38 : decode cX7_exposes 38 = .ok (.aload_n 0, 1) := by decide +kernel
theorem dX7_exposes_39 : decode cX7_exposes 39 = .ok (.getfield 23, 3) := by decide +kernel
theorem dX7_exposes_42 : decode cX7_exposes 42 = .ok (.iload_n 3, 1) := by decide +kernel
theorem dX7_exposes_43 : decode cX7_exposes 43 = .ok (.invokestatic 143, 3) := by decide +kernel
theorem dX7_exposes_46 : decode cX7_exposes 46 = .ok (.iconst 2, 1) := by decide +kernel
theorem dX7_exposes_47 : decode cX7_exposes 47 = .ok (.iadd, 1) := by decide +kernel
theorem dX7_exposes_48 : decode cX7_exposes 48 = .ok (.iload_n 1, 1) := by decide +kernel
theorem dX7_exposes_49 : decode cX7_exposes 49 = .ok (.iastore, 1) := by decide +kernel
theorem dX7_exposes_50 : decode cX7_exposes 50 = .ok (.iinc 3 1, 3) := by decide +kernel
theorem dX7_exposes_53 : decode cX7_exposes 53 = .ok (.goto (-40), 3) := by decide +kernel
theorem dX7_exposes_56 : decode cX7_exposes 56 = .ok (.lconst 0, 1) := by decide +kernel
theorem dX7_exposes_57 : decode cX7_exposes 57 = .ok (.lstore_n 3, 1) := by decide +kernel
theorem dX7_exposes_58 : decode cX7_exposes 58 = .ok (.iconst 0, 1) := by decide +kernel
theorem dX7_exposes_59 : decode cX7_exposes 59 = .ok (.istore 5, 2) := by decide +kernel
theorem dX7_exposes_61 : decode cX7_exposes 61 = .ok (.iload 5, 2) := by decide +kernel
theorem dX7_exposes_63 : decode cX7_exposes 63 = .ok (.iload_n 2, 1) := by decide +kernel
theorem dX7_exposes_64 : decode cX7_exposes 64 = .ok (.if_icmp .ge 72, 3) := by decide +kernel
theorem dX7_exposes_67 : decode cX7_exposes 67 = .ok (.aload_n 0, 1) := by decide +kernel
theorem dX7_exposes_68 : decode cX7_exposes 68 = .ok (.aload_n 0, 1) := by decide +kernel
theorem dX7_exposes_69 : decode cX7_exposes 69 = .ok (.getfield 23, 3) := by decide +kernel
theorem dX7_exposes_72 : decode cX7_exposes 72 = .ok (.invokevirtual 271, 3) := by decide +kernel
theorem dX7_exposes_75 : decode cX7_exposes 75 = .ok (.iconst 0, 1) := by decide +kernel
theorem dX7_exposes_76 : decode cX7_exposes 76 = .ok (.istore 6, 2) := by decide +kernel
theorem dX7_exposes_78 : decode cX7_exposes 78 = .ok (.iload 6, 2) := by decide +kernel
theorem dX7_exposes_80 : decode cX7_exposes 80 = .ok (.aload_n 0, 1) := by decide +kernel
theorem dX7_exposes_81 : decode cX7_exposes 81 = .ok (.getfield 23, 3) := by decide +kernel
theorem dX7_exposes_84 : decode cX7_exposes 84 = .ok (.iconst 2, 1) := by decide +kernel
theorem dX7_exposes_85 : decode cX7_exposes 85 = .ok (.iaload, 1) := by decide +kernel
theorem dX7_exposes_86 : decode cX7_exposes 86 = .ok (.if_icmp .ge 44, 3) := by decide +kernel
theorem dX7_exposes_89 : decode cX7_exposes 89 = .ok (.aload_n 0, 1) := by decide +kernel
theorem dX7_exposes_90 : decode cX7_exposes 90 = .ok (.getfield 23, 3) := by decide +kernel
theorem dX7_exposes_93 : decode cX7_exposes 93 = .ok (.iload 6, 2) := by decide +kernel
theorem dX7_exposes_95 : decode cX7_exposes 95 = .ok (.invokestatic 162, 3) := by decide +kernel
theorem dX7_exposes_98 : decode cX7_exposes 98 = .ok (.iaload, 1) := by decide +kernel
theorem dX7_exposes_99 : decode cX7_exposes 99 = .ok (.ifCond .lt 25, 3) := by decide +kernel
theorem dX7_exposes_102 : decode cX7_exposes 102 = .ok (.lload_n 3, 1) := by decide +kernel
theorem dX7_exposes_103 : decode cX7_exposes 103 = .ok (.aload_n 0, 1) := by decide +kernel
theorem dX7_exposes_104 : decode cX7_exposes 104 = .ok (.getfield 23, 3) := by decide +kernel
theorem dX7_exposes_107 : decode cX7_exposes 107 = .ok (.aload_n 0, 1) := by decide +kernel
theorem dX7_exposes_108 : decode cX7_exposes 108 = .ok (.getfield 23, 3) := by decide +kernel
theorem dX7_exposes_111 : decode cX7_exposes 111 = .ok (.iload 6, 2) := by decide +kernel
theorem dX7_exposes_113 : decode cX7_exposes 113 = .ok (.invokestatic 162, 3) := by decide +kernel
theorem dX7_exposes_116 : decode cX7_exposes 116 = .ok (.iaload, 1) := by decide +kernel
theorem dX7_exposes_117 : decode cX7_exposes 117 = .ok (.invokestatic 143, 3) := by decide +kernel
theorem dX7_exposes_120 : decode cX7_exposes 120 = .ok (.iaload, 1) := by decide +kernel
theorem dX7_exposes_121 : decode cX7_exposes 121 = .ok (.i2l, 1) := by decide +kernel
theorem dX7_exposes_122 : decode cX7_exposes 122 = .ok (.ladd, 1) := by decide +kernel
theorem dX7_exposes_123 : decode cX7_exposes 123 = .ok (.lstore_n 3, 1) := by decide +kernel
theorem dX7_exposes_124 : decode cX7_exposes 124 = .ok (.iinc 6 1, 3) := by decide +kernel
theorem dX7_exposes_127 : decode cX7_exposes 127 = .ok (.goto (-49), 3) := by decide +kernel
theorem dX7_exposes_130 : decode cX7_exposes 130 = .ok (.iinc 5 1, 3) := by decide +kernel
theorem dX7_exposes_133 : decode cX7_exposes 133 = .ok (.goto (-72), 3) := by decide +kernel
theorem dX7_exposes_136 : decode cX7_exposes 136 = .ok (.lload_n 3, 1) := by decide +kernel
theorem dX7_exposes_137 : decode cX7_exposes 137 = .ok (.lreturn, 1) := by decide +kernel
theorem dX7_exposureWith_0 : decode cX7_exposureWith 0 = .ok (.aload_n 0, 1) := by decide +kernel
theorem dX7_exposureWith_1 : decode cX7_exposureWith 1 = .ok (.iconst 0, 1) := by decide +kernel
theorem dX7_exposureWith_2 : decode cX7_exposureWith 2 = .ok (.putfield 45, 3) := by decide +kernel
theorem dX7_exposureWith_5 : decode cX7_exposureWith 5 = .ok (.aload_n 0, 1) := by decide +kernel
theorem dX7_exposureWith_6 : decode cX7_exposureWith 6 = .ok (.iload_n 1, 1) := by decide +kernel
theorem dX7_exposureWith_7 : decode cX7_exposureWith 7 = .ok (.bipush (-10), 2) := by decide +kernel
theorem dX7_exposureWith_9 : decode cX7_exposureWith 9 = .ok (.bipush 10, 2) := by decide +kernel
theorem dX7_exposureWith_11 : decode cX7_exposureWith 11 = .ok (.invokestatic 67, 3) := by decide +kernel
theorem dX7_exposureWith_14 : decode cX7_exposureWith 14 = .ok (.ifCond .eq 13, 3) := by decide +kernel
theorem dX7_exposureWith_17 : decode cX7_exposureWith 17 = .ok (.iload_n 2, 1) := by decide +kernel
theorem dX7_exposureWith_18 : decode cX7_exposureWith 18 = .ok (.iconst 0, 1) := by decide +kernel
theorem dX7_exposureWith_19 : decode cX7_exposureWith 19 = .ok (.bipush 60, 2) := by decide +kernel
theorem dX7_exposureWith_21 : decode cX7_exposureWith 21 = .ok (.invokestatic 67, 3) := by decide +kernel
theorem dX7_exposureWith_24 : decode cX7_exposureWith 24 = .ok (.ifCond .ne 7, 3) := by decide +kernel
theorem dX7_exposureWith_27 : decode cX7_exposureWith 27 = .ok (.iconst 1, 1) := by decide +kernel
theorem dX7_exposureWith_28 : decode cX7_exposureWith 28 = .ok (.goto 4, 3) := by decide +kernel
theorem dX7_exposureWith_31 : decode cX7_exposureWith 31 = .ok (.iconst 0, 1) := by decide +kernel
theorem dX7_exposureWith_32 : decode cX7_exposureWith 32 = .ok (.iconst 1, 1) := by decide +kernel
theorem dX7_exposureWith_33 : decode cX7_exposureWith 33 = .ok (.invokevirtual 194, 3) := by decide +kernel
theorem dX7_exposureWith_36 : decode cX7_exposureWith 36 = .ok (.ifCond .eq 7, 3) := by decide +kernel
theorem dX7_exposureWith_39 : decode cX7_exposureWith 39 = .ok (.lconst 0, 1) := by decide +kernel
theorem dX7_exposureWith_40 : decode cX7_exposureWith 40 = .ok (.goto 9, 3) := by decide +kernel
theorem dX7_exposureWith_43 : decode cX7_exposureWith 43 = .ok (.aload_n 0, 1) := by decide +kernel
theorem dX7_exposureWith_44 : decode cX7_exposureWith 44 = .ok (.iload_n 1, 1) := by decide +kernel
theorem dX7_exposureWith_45 : decode cX7_exposureWith 45 = .ok (.iload_n 2, 1) := by decide +kernel
theorem dX7_exposureWith_46 : decode cX7_exposureWith 46 = .ok (.invokevirtual 290, 3) := by decide +kernel
theorem dX7_exposureWith_49 : decode cX7_exposureWith 49 = .ok (.lreturn, 1) := by decide +kernel
theorem dX7_bestSetting_0 : decode cX7_bestSetting 0 = .ok (.aload_n 0, 1) := by decide +kernel
theorem dX7_bestSetting_1 : decode cX7_bestSetting 1 = .ok (.iconst 0, 1) := by decide +kernel
theorem dX7_bestSetting_2 : decode cX7_bestSetting 2 = .ok (.putfield 45, 3) := by decide +kernel
theorem dX7_bestSetting_5 : decode cX7_bestSetting 5 = .ok (.aload_n 0, 1) := by decide +kernel
theorem dX7_bestSetting_6 : decode cX7_bestSetting 6 = .ok (.iload_n 1, 1) := by decide +kernel
theorem dX7_bestSetting_7 : decode cX7_bestSetting 7 = .ok (.iconst 0, 1) := by decide +kernel
theorem dX7_bestSetting_8 : decode cX7_bestSetting 8 = .ok (.bipush 60, 2) := by decide +kernel
theorem dX7_bestSetting_10 : decode cX7_bestSetting 10 = .ok (.invokestatic 67, 3) := by decide +kernel
theorem dX7_bestSetting_13 : decode cX7_bestSetting 13 = .ok (.ifCond .ne 7, 3) := by decide +kernel
theorem dX7_bestSetting_16 : decode cX7_bestSetting 16 = .ok (.iconst 1, 1) := by decide +kernel
theorem dX7_bestSetting_17 : decode cX7_bestSetting 17 = .ok (.goto 4, 3) := by decide +kernel
theorem dX7_bestSetting_20 : decode cX7_bestSetting 20 = .ok (.iconst 0, 1) := by decide +kernel
theorem dX7_bestSetting_21 : decode cX7_bestSetting 21 = .ok (.iconst 1, 1) := by decide +kernel
theorem dX7_bestSetting_22 : decode cX7_bestSetting 22 = .ok (.invokevirtual 194, 3) := by decide +kernel
theorem dX7_bestSetting_25 : decode cX7_bestSetting 25 = .ok (.ifCond .eq 5, 3) := by decide +kernel
theorem dX7_bestSetting_28 : decode cX7_bestSetting 28 = .ok (.iconst 0, 1) := by decide +kernel
theorem dX7_bestSetting_29 : decode cX7_bestSetting 29 = .ok (.ireturn, 1) := by decide +kernel
theorem dX7_bestSetting_30 : decode cX7_bestSetting 30 = .ok (.iconst 0, 1) := by decide +kernel
theorem dX7_bestSetting_31 : decode cX7_bestSetting 31 = .ok (.istore_n 2, 1) := by decide +kernel
theorem dX7_bestSetting_32 : decode cX7_bestSetting 32 = .ok (.aload_n 0, 1) := by decide +kernel
theorem dX7_bestSetting_33 : decode cX7_bestSetting 33 = .ok (.iconst 0, 1) := by decide +kernel
theorem dX7_bestSetting_34 : decode cX7_bestSetting 34 = .ok (.iload_n 1, 1) := by decide +kernel
theorem dX7_bestSetting_35 : decode cX7_bestSetting 35 = .ok (.invokevirtual 290, 3) := by decide +kernel
theorem dX7_bestSetting_38 : decode cX7_bestSetting 38 = .ok (.lstore_n 3, 1) := by decide +kernel
theorem dX7_bestSetting_39 : decode cX7_bestSetting 39 = .ok (.iconst 1, 1) := by decide +kernel
theorem dX7_bestSetting_40 : decode cX7_bestSetting 40 = .ok (.istore 5, 2) := by decide +kernel
theorem dX7_bestSetting_42 : decode cX7_bestSetting 42 = .ok (.iload 5, 2) := by decide +kernel
theorem dX7_bestSetting_44 : decode cX7_bestSetting 44 = .ok (.bipush 10, 2) := by decide +kernel
theorem dX7_bestSetting_46 : decode cX7_bestSetting 46 = .ok (.if_icmp .gt 55, 3) := by decide +kernel
theorem dX7_bestSetting_49 : decode cX7_bestSetting 49 = .ok (.iconst 1, 1) := by decide +kernel
theorem dX7_bestSetting_50 : decode cX7_bestSetting 50 = .ok (.istore 6, 2) := by decide +kernel
theorem dX7_bestSetting_52 : decode cX7_bestSetting 52 = .ok (.iload 6, 2) := by decide +kernel
theorem dX7_bestSetting_54 : decode cX7_bestSetting 54 = .ok (.iconst (-1), 1) := by decide +kernel
theorem dX7_bestSetting_55 : decode cX7_bestSetting 55 = .ok (.if_icmp .lt 40, 3) := by decide +kernel
theorem dX7_bestSetting_58 : decode cX7_bestSetting 58 = .ok (.aload_n 0, 1) := by decide +kernel
theorem dX7_bestSetting_59 : decode cX7_bestSetting 59 = .ok (.iload 6, 2) := by decide +kernel
theorem dX7_bestSetting_61 : decode cX7_bestSetting 61 = .ok (.iload 5, 2) := by decide +kernel
theorem dX7_bestSetting_63 : decode cX7_bestSetting 63 = .ok (.imul, 1) := by decide +kernel
theorem dX7_bestSetting_64 : decode cX7_bestSetting 64 = .ok (.iload_n 1, 1) := by decide +kernel
theorem dX7_bestSetting_65 : decode cX7_bestSetting 65 = .ok (.invokevirtual 290, 3) := by decide +kernel
theorem dX7_bestSetting_68 : decode cX7_bestSetting 68 = .ok (.lstore 7, 2) := by decide +kernel
theorem dX7_bestSetting_70 : decode cX7_bestSetting 70 = .ok (.lload 7, 2) := by decide +kernel
theorem dX7_bestSetting_72 : decode cX7_bestSetting 72 = .ok (.lload_n 3, 1) := by decide +kernel
theorem dX7_bestSetting_73 : decode cX7_bestSetting 73 = .ok (.lcmp, 1) := by decide +kernel
theorem dX7_bestSetting_74 : decode cX7_bestSetting 74 = .ok (.ifCond .lt 6, 3) := by decide +kernel
theorem dX7_bestSetting_77 : decode cX7_bestSetting 77 = .ok (.goto 12, 3) := by decide +kernel
theorem dX7_bestSetting_80 : decode cX7_bestSetting 80 = .ok (.lload 7, 2) := by decide +kernel
theorem dX7_bestSetting_82 : decode cX7_bestSetting 82 = .ok (.lstore_n 3, 1) := by decide +kernel
theorem dX7_bestSetting_83 : decode cX7_bestSetting 83 = .ok (.iload 6, 2) := by decide +kernel
theorem dX7_bestSetting_85 : decode cX7_bestSetting 85 = .ok (.iload 5, 2) := by decide +kernel
theorem dX7_bestSetting_87 : decode cX7_bestSetting 87 = .ok (.imul, 1) := by decide +kernel
theorem dX7_bestSetting_88 : decode cX7_bestSetting 88 = .ok (.istore_n 2, 1) := by decide +kernel
theorem dX7_bestSetting_89 : decode cX7_bestSetting 89 = .ok (.iinc 6 (-2), 3) := by decide +kernel
theorem dX7_bestSetting_92 : decode cX7_bestSetting 92 = .ok (.goto (-40), 3) := by decide +kernel
theorem dX7_bestSetting_95 : decode cX7_bestSetting 95 = .ok (.iinc 5 1, 3) := by decide +kernel
theorem dX7_bestSetting_98 : decode cX7_bestSetting 98 = .ok (.goto (-56), 3) := by decide +kernel
theorem dX7_bestSetting_101 : decode cX7_bestSetting 101 = .ok (.iload_n 2, 1) := by decide +kernel
theorem dX7_bestSetting_102 : decode cX7_bestSetting 102 = .ok (.ireturn, 1) := by decide +kernel
theorem dX7_remember_0 : decode cX7_remember 0 = .ok (.aload_n 0, 1) := by decide +kernel
theorem dX7_remember_1 : decode cX7_remember 1 = .ok (.getfield 294, 3) := by decide +kernel
theorem dX7_remember_4 : decode cX7_remember 4 = .ok (.bipush 8, 2) := by decide +kernel
theorem dX7_remember_6 : decode cX7_remember 6 = .ok (.if_icmp .ne 44, 3) := by decide +kernel
theorem dX7_remember_9 : decode cX7_remember 9 = .ok (.iconst 1, 1) := by decide +kernel
theorem dX7_remember_10 : decode cX7_remember 10 = .ok (.istore_n 1, 1) := by decide +kernel
theorem dX7_remember_11 : decode cX7_remember 11 = .ok (.iload_n 1, 1) := by decide +kernel
theorem dX7_remember_12 : decode cX7_remember 12 = .ok (.bipush 8, 2) := by decide +kernel
theorem dX7_remember_14 : decode cX7_remember 14 = .ok (.if_icmp .ge 26, 3) := by decide +kernel
theorem dX7_remember_17 : decode cX7_remember 17 = .ok (.aload_n 0, 1) := by decide +kernel
theorem dX7_remember_18 : decode cX7_remember 18 = .ok (.getfield 28, 3) := by decide +kernel
theorem dX7_remember_21 : decode cX7_remember 21 = .ok (.iload_n 1, 1) := by decide +kernel
theorem dX7_remember_22 : decode cX7_remember 22 = .ok (.aaload, 1) := by decide +kernel
theorem dX7_remember_23 : decode cX7_remember 23 = .ok (.aload_n 0, 1) := by decide +kernel
theorem dX7_remember_24 : decode cX7_remember 24 = .ok (.getfield 28, 3) := by decide +kernel
theorem dX7_remember_27 : decode cX7_remember 27 = .ok (.iload_n 1, 1) := by decide +kernel
theorem dX7_remember_28 : decode cX7_remember 28 = .ok (.iconst 1, 1) := by decide +kernel
theorem dX7_remember_29 : decode cX7_remember 29 = .ok (.isub, 1) := by decide +kernel
theorem dX7_remember_30 : decode cX7_remember 30 = .ok (.aaload, 1) := by decide +kernel
theorem dX7_remember_31 : decode cX7_remember 31 = .ok (.invokestatic 206, 3) := by decide +kernel
theorem dX7_remember_34 : decode cX7_remember 34 = .ok (.iinc 1 1, 3) := by decide +kernel
theorem dX7_remember_37 : decode cX7_remember 37 = .ok (.goto (-26), 3) := by decide +kernel
theorem dX7_remember_40 : decode cX7_remember 40 = .ok (.aload_n 0, 1) := by decide +kernel
theorem dX7_remember_41 : decode cX7_remember 41 = .ok (.dup, 1) := by decide +kernel
theorem dX7_remember_42 : decode cX7_remember 42 = .ok (.getfield 294, 3) := by decide +kernel
theorem dX7_remember_45 : decode cX7_remember 45 = .ok (.iconst 1, 1) := by decide +kernel
theorem dX7_remember_46 : decode cX7_remember 46 = .ok (.isub, 1) := by decide +kernel
theorem dX7_remember_47 : decode cX7_remember 47 = .ok (.putfield 294, 3) := by decide +kernel
theorem dX7_remember_50 : decode cX7_remember 50 = .ok (.aload_n 0, 1) := by decide +kernel
theorem dX7_remember_51 : decode cX7_remember 51 = .ok (.getfield 17, 3) := by decide +kernel
theorem dX7_remember_54 : decode cX7_remember 54 = .ok (.aload_n 0, 1) := by decide +kernel
theorem dX7_remember_55 : decode cX7_remember 55 = .ok (.getfield 28, 3) := by decide +kernel
theorem dX7_remember_58 : decode cX7_remember 58 = .ok (.aload_n 0, 1) := by decide +kernel
theorem dX7_remember_59 : decode cX7_remember 59 = .ok (.getfield 294, 3) := by decide +kernel
theorem dX7_remember_62 : decode cX7_remember 62 = .ok (.aaload, 1) := by decide +kernel
theorem dX7_remember_63 : decode cX7_remember 63 = .ok (.invokestatic 206, 3) := by decide +kernel
theorem dX7_remember_66 : decode cX7_remember 66 = .ok (.aload_n 0, 1) := by decide +kernel
theorem dX7_remember_67 : decode cX7_remember 67 = .ok (.dup, 1) := by decide +kernel
theorem dX7_remember_68 : decode cX7_remember 68 = .ok (.getfield 294, 3) := by decide +kernel
theorem dX7_remember_71 : decode cX7_remember 71 = .ok (.iconst 1, 1) := by decide +kernel
theorem dX7_remember_72 : decode cX7_remember 72 = .ok (.iadd, 1) := by decide +kernel
theorem dX7_remember_73 : decode cX7_remember 73 = .ok (.putfield 294, 3) := by decide +kernel
theorem dX7_remember_76 : decode cX7_remember 76 = .ok (.return_, 1) := by decide +kernel
theorem dX7_run_0 : decode cX7_run 0 = .ok (.aload_n 0, 1) := by decide +kernel
theorem dX7_run_1 : decode cX7_run 1 = .ok (.iconst 0, 1) := by decide +kernel
theorem dX7_run_2 : decode cX7_run 2 = .ok (.putfield 45, 3) := by decide +kernel
theorem dX7_run_5 : decode cX7_run 5 = .ok (.aload_n 0, 1) := by decide +kernel
theorem dX7_run_6 : decode cX7_run 6 = .ok (.iload_n 1, 1) := by decide +kernel
theorem dX7_run_7 : decode cX7_run 7 = .ok (.iconst 1, 1) := by decide +kernel
theorem dX7_run_8 : decode cX7_run 8 = .ok (.bipush 100, 2) := by decide +kernel
theorem dX7_run_10 : decode cX7_run 10 = .ok (.invokestatic 67, 3) := by decide +kernel
theorem dX7_run_13 : decode cX7_run 13 = .ok (.ifCond .ne 7, 3) := by decide +kernel
theorem dX7_run_16 : decode cX7_run 16 = .ok (.iconst 1, 1) := by decide +kernel
theorem dX7_run_17 : decode cX7_run 17 = .ok (.goto 4, 3) := by decide +kernel
theorem dX7_run_20 : decode cX7_run 20 = .ok (.iconst 0, 1) := by decide +kernel
theorem dX7_run_21 : decode cX7_run 21 = .ok (.iconst 1, 1) := by decide +kernel
theorem dX7_run_22 : decode cX7_run 22 = .ok (.invokevirtual 194, 3) := by decide +kernel
theorem dX7_run_25 : decode cX7_run 25 = .ok (.ifCond .ne 39, 3) := by decide +kernel
theorem dX7_run_28 : decode cX7_run 28 = .ok (.aload_n 0, 1) := by decide +kernel
theorem dX7_run_29 : decode cX7_run 29 = .ok (.aload_n 0, 1) := by decide +kernel
theorem dX7_run_30 : decode cX7_run 30 = .ok (.getfield 17, 3) := by decide +kernel
theorem dX7_run_33 : decode cX7_run 33 = .ok (.iconst 0, 1) := by decide +kernel
theorem dX7_run_34 : decode cX7_run 34 = .ok (.iaload, 1) := by decide +kernel
theorem dX7_run_35 : decode cX7_run 35 = .ok (.ifCond .eq 17, 3) := by decide +kernel
theorem dX7_run_38 : decode cX7_run 38 = .ok (.aload_n 0, 1) := by decide +kernel
theorem dX7_run_39 : decode cX7_run 39 = .ok (.getfield 17, 3) := by decide +kernel
theorem dX7_run_42 : decode cX7_run 42 = .ok (.iconst 3, 1) := by decide +kernel
theorem dX7_run_43 : decode cX7_run 43 = .ok (.iaload, 1) := by decide +kernel
theorem dX7_run_44 : decode cX7_run 44 = .ok (.iload_n 1, 1) := by decide +kernel
theorem dX7_run_45 : decode cX7_run 45 = .ok (.iadd, 1) := by decide +kernel
theorem dX7_run_46 : decode cX7_run 46 = .ok (.sipush 10000, 3) := by decide +kernel
theorem dX7_run_49 : decode cX7_run 49 = .ok (.if_icmp .le 7, 3) := by decide +kernel
theorem dX7_run_52 : decode cX7_run 52 = .ok (.iconst 1, 1) := by decide +kernel
theorem dX7_run_53 : decode cX7_run 53 = .ok (.goto 4, 3) := by decide +kernel
theorem dX7_run_56 : decode cX7_run 56 = .ok (.iconst 0, 1) := by decide +kernel
theorem dX7_run_57 : decode cX7_run 57 = .ok (.iconst 2, 1) := by decide +kernel
theorem dX7_run_58 : decode cX7_run 58 = .ok (.invokevirtual 194, 3) := by decide +kernel
theorem dX7_run_61 : decode cX7_run 61 = .ok (.ifCond .eq 5, 3) := by decide +kernel
theorem dX7_run_64 : decode cX7_run 64 = .ok (.iconst 0, 1) := by decide +kernel
theorem dX7_run_65 : decode cX7_run 65 = .ok (.ireturn, 1) := by decide +kernel
theorem dX7_run_66 : decode cX7_run 66 = .ok (.aload_n 0, 1) := by decide +kernel
theorem dX7_run_67 : decode cX7_run 67 = .ok (.invokevirtual 203, 3) := by decide +kernel
theorem dX7_run_70 : decode cX7_run 70 = .ok (.aload_n 0, 1) := by decide +kernel
theorem dX7_run_71 : decode cX7_run 71 = .ok (.getfield 17, 3) := by decide +kernel
theorem dX7_run_74 : decode cX7_run 74 = .ok (.invokestatic 218, 3) := by decide +kernel
theorem dX7_run_77 : decode cX7_run 77 = .ok (.istore_n 2, 1) := by decide +kernel
theorem dX7_run_78 : decode cX7_run 78 = .ok (.iconst 0, 1) := by decide +kernel
theorem dX7_run_79 : decode cX7_run 79 = .ok (.istore_n 3, 1) := by decide +kernel
theorem dX7_run_80 : decode cX7_run 80 = .ok (.iload_n 3, 1) := by decide +kernel
theorem dX7_run_81 : decode cX7_run 81 = .ok (.iload_n 1, 1) := by decide +kernel
theorem dX7_run_82 : decode cX7_run 82 = .ok (.if_icmp .ge 17, 3) := by decide +kernel
theorem dX7_run_85 : decode cX7_run 85 = .ok (.aload_n 0, 1) := by decide +kernel
theorem dX7_run_86 : decode cX7_run 86 = .ok (.aload_n 0, 1) := by decide +kernel
theorem dX7_run_87 : decode cX7_run 87 = .ok (.getfield 17, 3) := by decide +kernel
theorem dX7_run_90 : decode cX7_run 90 = .ok (.invokevirtual 271, 3) := by decide +kernel
theorem dX7_run_93 : decode cX7_run 93 = .ok (.iinc 3 1, 3) := by decide +kernel
theorem dX7_run_96 : decode cX7_run 96 = .ok (.goto (-16), 3) := by decide +kernel
theorem dX7_run_99 : decode cX7_run 99 = .ok (.iload_n 2, 1) := by decide +kernel
theorem dX7_run_100 : decode cX7_run 100 = .ok (.aload_n 0, 1) := by decide +kernel
theorem dX7_run_101 : decode cX7_run 101 = .ok (.getfield 17, 3) := by decide +kernel
theorem dX7_run_104 : decode cX7_run 104 = .ok (.invokestatic 218, 3) := by decide +kernel
theorem dX7_run_107 : decode cX7_run 107 = .ok (.isub, 1) := by decide +kernel
theorem dX7_run_108 : decode cX7_run 108 = .ok (.ireturn, 1) := by decide +kernel
theorem dX7_setFan_0 : decode cX7_setFan 0 = .ok (.aload_n 0, 1) := by decide +kernel
theorem dX7_setFan_1 : decode cX7_setFan 1 = .ok (.iconst 0, 1) := by decide +kernel
theorem dX7_setFan_2 : decode cX7_setFan 2 = .ok (.putfield 45, 3) := by decide +kernel
theorem dX7_setFan_5 : decode cX7_setFan 5 = .ok (.aload_n 0, 1) := by decide +kernel
theorem dX7_setFan_6 : decode cX7_setFan 6 = .ok (.iload_n 1, 1) := by decide +kernel
theorem dX7_setFan_7 : decode cX7_setFan 7 = .ok (.invokevirtual 259, 3) := by decide +kernel
theorem dX7_setFan_10 : decode cX7_setFan 10 = .ok (.ifCond .ne 54, 3) := by decide +kernel
theorem dX7_setFan_13 : decode cX7_setFan 13 = .ok (.aload_n 0, 1) := by decide +kernel
theorem dX7_setFan_14 : decode cX7_setFan 14 = .ok (.iload_n 2, 1) := by decide +kernel
theorem dX7_setFan_15 : decode cX7_setFan 15 = .ok (.bipush (-10), 2) := by decide +kernel
theorem dX7_setFan_17 : decode cX7_setFan 17 = .ok (.bipush 10, 2) := by decide +kernel
theorem dX7_setFan_19 : decode cX7_setFan 19 = .ok (.invokestatic 67, 3) := by decide +kernel
theorem dX7_setFan_22 : decode cX7_setFan 22 = .ok (.ifCond .ne 7, 3) := by decide +kernel
theorem dX7_setFan_25 : decode cX7_setFan 25 = .ok (.iconst 1, 1) := by decide +kernel
theorem dX7_setFan_26 : decode cX7_setFan 26 = .ok (.goto 4, 3) := by decide +kernel
theorem dX7_setFan_29 : decode cX7_setFan 29 = .ok (.iconst 0, 1) := by decide +kernel
theorem dX7_setFan_30 : decode cX7_setFan 30 = .ok (.iconst 2, 1) := by decide +kernel
theorem dX7_setFan_31 : decode cX7_setFan 31 = .ok (.invokevirtual 194, 3) := by decide +kernel
theorem dX7_setFan_34 : decode cX7_setFan 34 = .ok (.ifCond .ne 30, 3) := by decide +kernel
theorem dX7_setFan_37 : decode cX7_setFan 37 = .ok (.aload_n 0, 1) := by decide +kernel
theorem dX7_setFan_38 : decode cX7_setFan 38 = .ok (.aload_n 0, 1) := by decide +kernel
theorem dX7_setFan_39 : decode cX7_setFan 39 = .ok (.getfield 17, 3) := by decide +kernel
theorem dX7_setFan_42 : decode cX7_setFan 42 = .ok (.iload_n 1, 1) := by decide +kernel
theorem dX7_setFan_43 : decode cX7_setFan 43 = .ok (.invokestatic 143, 3) := by decide +kernel
theorem dX7_setFan_46 : decode cX7_setFan 46 = .ok (.iconst 1, 1) := by decide +kernel
theorem dX7_setFan_47 : decode cX7_setFan 47 = .ok (.iadd, 1) := by decide +kernel
theorem dX7_setFan_48 : decode cX7_setFan 48 = .ok (.iaload, 1) := by decide +kernel
theorem dX7_setFan_49 : decode cX7_setFan 49 = .ok (.ifCond .ne 7, 3) := by decide +kernel
theorem dX7_setFan_52 : decode cX7_setFan 52 = .ok (.iconst 1, 1) := by decide +kernel
theorem dX7_setFan_53 : decode cX7_setFan 53 = .ok (.goto 4, 3) := by decide +kernel
theorem dX7_setFan_56 : decode cX7_setFan 56 = .ok (.iconst 0, 1) := by decide +kernel
theorem dX7_setFan_57 : decode cX7_setFan 57 = .ok (.iconst 3, 1) := by decide +kernel
theorem dX7_setFan_58 : decode cX7_setFan 58 = .ok (.invokevirtual 194, 3) := by decide +kernel
theorem dX7_setFan_61 : decode cX7_setFan 61 = .ok (.ifCond .eq 5, 3) := by decide +kernel
theorem dX7_setFan_64 : decode cX7_setFan 64 = .ok (.iconst 0, 1) := by decide +kernel
theorem dX7_setFan_65 : decode cX7_setFan 65 = .ok (.ireturn, 1) := by decide +kernel
theorem dX7_setFan_66 : decode cX7_setFan 66 = .ok (.aload_n 0, 1) := by decide +kernel
theorem dX7_setFan_67 : decode cX7_setFan 67 = .ok (.invokevirtual 203, 3) := by decide +kernel
theorem dX7_setFan_70 : decode cX7_setFan 70 = .ok (.aload_n 0, 1) := by decide +kernel
theorem dX7_setFan_71 : decode cX7_setFan 71 = .ok (.getfield 17, 3) := by decide +kernel
theorem dX7_setFan_74 : decode cX7_setFan 74 = .ok (.iload_n 1, 1) := by decide +kernel
theorem dX7_setFan_75 : decode cX7_setFan 75 = .ok (.invokestatic 143, 3) := by decide +kernel
theorem dX7_setFan_78 : decode cX7_setFan 78 = .ok (.iconst 2, 1) := by decide +kernel
theorem dX7_setFan_79 : decode cX7_setFan 79 = .ok (.iadd, 1) := by decide +kernel
theorem dX7_setFan_80 : decode cX7_setFan 80 = .ok (.iload_n 2, 1) := by decide +kernel
theorem dX7_setFan_81 : decode cX7_setFan 81 = .ok (.iastore, 1) := by decide +kernel
theorem dX7_setFan_82 : decode cX7_setFan 82 = .ok (.aload_n 0, 1) := by decide +kernel
theorem dX7_setFan_83 : decode cX7_setFan 83 = .ok (.getfield 17, 3) := by decide +kernel
theorem dX7_setFan_86 : decode cX7_setFan 86 = .ok (.invokestatic 222, 3) := by decide +kernel
theorem dX7_setFan_89 : decode cX7_setFan 89 = .ok (.ireturn, 1) := by decide +kernel
theorem dX7_setFire_0 : decode cX7_setFire 0 = .ok (.aload_n 0, 1) := by decide +kernel
theorem dX7_setFire_1 : decode cX7_setFire 1 = .ok (.iconst 0, 1) := by decide +kernel
theorem dX7_setFire_2 : decode cX7_setFire 2 = .ok (.putfield 45, 3) := by decide +kernel
theorem dX7_setFire_5 : decode cX7_setFire 5 = .ok (.iload_n 1, 1) := by decide +kernel
theorem dX7_setFire_6 : decode cX7_setFire 6 = .ok (.iconst (-1), 1) := by decide +kernel
theorem dX7_setFire_7 : decode cX7_setFire 7 = .ok (.if_icmp .eq 13, 3) := by decide +kernel
theorem dX7_setFire_10 : decode cX7_setFire 10 = .ok (.aload_n 0, 1) := by decide +kernel
theorem dX7_setFire_11 : decode cX7_setFire 11 = .ok (.iload_n 1, 1) := by decide +kernel
theorem dX7_setFire_12 : decode cX7_setFire 12 = .ok (.invokevirtual 259, 3) := by decide +kernel
theorem dX7_setFire_15 : decode cX7_setFire 15 = .ok (.ifCond .eq 5, 3) := by decide +kernel
theorem dX7_setFire_18 : decode cX7_setFire 18 = .ok (.iconst 0, 1) := by decide +kernel
theorem dX7_setFire_19 : decode cX7_setFire 19 = .ok (.ireturn, 1) := by decide +kernel
theorem dX7_setFire_20 : decode cX7_setFire 20 = .ok (.aload_n 0, 1) := by decide +kernel
theorem dX7_setFire_21 : decode cX7_setFire 21 = .ok (.invokevirtual 203, 3) := by decide +kernel
theorem dX7_setFire_24 : decode cX7_setFire 24 = .ok (.aload_n 0, 1) := by decide +kernel
theorem dX7_setFire_25 : decode cX7_setFire 25 = .ok (.getfield 17, 3) := by decide +kernel
theorem dX7_setFire_28 : decode cX7_setFire 28 = .ok (.iconst 4, 1) := by decide +kernel
theorem dX7_setFire_29 : decode cX7_setFire 29 = .ok (.iaload, 1) := by decide +kernel
theorem dX7_setFire_30 : decode cX7_setFire 30 = .ok (.istore_n 2, 1) := by decide +kernel
theorem dX7_setFire_31 : decode cX7_setFire 31 = .ok (.aload_n 0, 1) := by decide +kernel
theorem dX7_setFire_32 : decode cX7_setFire 32 = .ok (.getfield 17, 3) := by decide +kernel
theorem dX7_setFire_35 : decode cX7_setFire 35 = .ok (.iconst 4, 1) := by decide +kernel
theorem dX7_setFire_36 : decode cX7_setFire 36 = .ok (.iload_n 1, 1) := by decide +kernel
theorem dX7_setFire_37 : decode cX7_setFire 37 = .ok (.iastore, 1) := by decide +kernel
theorem dX7_setFire_38 : decode cX7_setFire 38 = .ok (.iload_n 2, 1) := by decide +kernel
theorem dX7_setFire_39 : decode cX7_setFire 39 = .ok (.ireturn, 1) := by decide +kernel
theorem dX7_setSignal_0 : decode cX7_setSignal 0 = .ok (.aload_n 0, 1) := by decide +kernel
theorem dX7_setSignal_1 : decode cX7_setSignal 1 = .ok (.iconst 0, 1) := by decide +kernel
theorem dX7_setSignal_2 : decode cX7_setSignal 2 = .ok (.putfield 45, 3) := by decide +kernel
theorem dX7_setSignal_5 : decode cX7_setSignal 5 = .ok (.aload_n 0, 1) := by decide +kernel
theorem dX7_setSignal_6 : decode cX7_setSignal 6 = .ok (.iload_n 1, 1) := by decide +kernel
theorem dX7_setSignal_7 : decode cX7_setSignal 7 = .ok (.invokevirtual 259, 3) := by decide +kernel
theorem dX7_setSignal_10 : decode cX7_setSignal 10 = .ok (.ifCond .ne 11, 3) := by decide +kernel
theorem dX7_setSignal_13 : decode cX7_setSignal 13 = .ok (.aload_n 0, 1) := by decide +kernel
theorem dX7_setSignal_14 : decode cX7_setSignal 14 = .ok (.iload_n 2, 1) := by decide +kernel
theorem dX7_setSignal_15 : decode cX7_setSignal 15 = .ok (.invokevirtual 262, 3) := by decide +kernel
theorem dX7_setSignal_18 : decode cX7_setSignal 18 = .ok (.ifCond .eq 5, 3) := by decide +kernel
theorem dX7_setSignal_21 : decode cX7_setSignal 21 = .ok (.iconst 0, 1) := by decide +kernel
theorem dX7_setSignal_22 : decode cX7_setSignal 22 = .ok (.ireturn, 1) := by decide +kernel
theorem dX7_setSignal_23 : decode cX7_setSignal 23 = .ok (.aload_n 0, 1) := by decide +kernel
theorem dX7_setSignal_24 : decode cX7_setSignal 24 = .ok (.invokevirtual 203, 3) := by decide +kernel
theorem dX7_setSignal_27 : decode cX7_setSignal 27 = .ok (.aload_n 0, 1) := by decide +kernel
theorem dX7_setSignal_28 : decode cX7_setSignal 28 = .ok (.getfield 17, 3) := by decide +kernel
theorem dX7_setSignal_31 : decode cX7_setSignal 31 = .ok (.iload_n 1, 1) := by decide +kernel
theorem dX7_setSignal_32 : decode cX7_setSignal 32 = .ok (.iload_n 2, 1) := by decide +kernel
theorem dX7_setSignal_33 : decode cX7_setSignal 33 = .ok (.invokestatic 265, 3) := by decide +kernel
theorem dX7_setSignal_36 : decode cX7_setSignal 36 = .ok (.iaload, 1) := by decide +kernel
theorem dX7_setSignal_37 : decode cX7_setSignal 37 = .ok (.iconst 1, 1) := by decide +kernel
theorem dX7_setSignal_38 : decode cX7_setSignal 38 = .ok (.if_icmp .ne 7, 3) := by decide +kernel
theorem dX7_setSignal_41 : decode cX7_setSignal 41 = .ok (.iconst 1, 1) := by decide +kernel
theorem dX7_setSignal_42 : decode cX7_setSignal 42 = .ok (.goto 4, 3) := by decide +kernel
theorem dX7_setSignal_45 : decode cX7_setSignal 45 = .ok (.iconst 0, 1) := by decide +kernel
theorem dX7_setSignal_46 : decode cX7_setSignal 46 = .ok (.istore 4, 2) := by decide +kernel
theorem dX7_setSignal_48 : decode cX7_setSignal 48 = .ok (.aload_n 0, 1) := by decide +kernel
theorem dX7_setSignal_49 : decode cX7_setSignal 49 = .ok (.getfield 17, 3) := by decide +kernel
theorem dX7_setSignal_52 : decode cX7_setSignal 52 = .ok (.iload_n 1, 1) := by decide +kernel
theorem dX7_setSignal_53 : decode cX7_setSignal 53 = .ok (.iload_n 2, 1) := by decide +kernel
theorem dX7_setSignal_54 : decode cX7_setSignal 54 = .ok (.invokestatic 265, 3) := by decide +kernel
theorem dX7_setSignal_57 : decode cX7_setSignal 57 = .ok (.iload_n 3, 1) := by decide +kernel
theorem dX7_setSignal_58 : decode cX7_setSignal 58 = .ok (.ifCond .eq 7, 3) := by decide +kernel
theorem dX7_setSignal_61 : decode cX7_setSignal 61 = .ok (.iconst 1, 1) := by decide +kernel
theorem dX7_setSignal_62 : decode cX7_setSignal 62 = .ok (.goto 4, 3) := by decide +kernel
theorem dX7_setSignal_65 : decode cX7_setSignal 65 = .ok (.iconst 0, 1) := by decide +kernel
theorem dX7_setSignal_66 : decode cX7_setSignal 66 = .ok (.iastore, 1) := by decide +kernel
theorem dX7_setSignal_67 : decode cX7_setSignal 67 = .ok (.iload 4, 2) := by decide +kernel
theorem dX7_setSignal_69 : decode cX7_setSignal 69 = .ok (.ireturn, 1) := by decide +kernel
theorem dX7_setBay_0 : decode cX7_setBay 0 = .ok (.aload_n 0, 1) := by decide +kernel
theorem dX7_setBay_1 : decode cX7_setBay 1 = .ok (.iconst 0, 1) := by decide +kernel
theorem dX7_setBay_2 : decode cX7_setBay 2 = .ok (.putfield 45, 3) := by decide +kernel
theorem dX7_setBay_5 : decode cX7_setBay 5 = .ok (.aload_n 0, 1) := by decide +kernel
theorem dX7_setBay_6 : decode cX7_setBay 6 = .ok (.iload_n 1, 1) := by decide +kernel
theorem dX7_setBay_7 : decode cX7_setBay 7 = .ok (.invokevirtual 259, 3) := by decide +kernel
theorem dX7_setBay_10 : decode cX7_setBay 10 = .ok (.ifCond .ne 30, 3) := by decide +kernel
theorem dX7_setBay_13 : decode cX7_setBay 13 = .ok (.aload_n 0, 1) := by decide +kernel
theorem dX7_setBay_14 : decode cX7_setBay 14 = .ok (.aload_n 0, 1) := by decide +kernel
theorem dX7_setBay_15 : decode cX7_setBay 15 = .ok (.getfield 17, 3) := by decide +kernel
theorem dX7_setBay_18 : decode cX7_setBay 18 = .ok (.iload_n 1, 1) := by decide +kernel
theorem dX7_setBay_19 : decode cX7_setBay 19 = .ok (.invokestatic 143, 3) := by decide +kernel
theorem dX7_setBay_22 : decode cX7_setBay 22 = .ok (.iconst 4, 1) := by decide +kernel
theorem dX7_setBay_23 : decode cX7_setBay 23 = .ok (.iadd, 1) := by decide +kernel
theorem dX7_setBay_24 : decode cX7_setBay 24 = .ok (.iaload, 1) := by decide +kernel
theorem dX7_setBay_25 : decode cX7_setBay 25 = .ok (.ifCond .ge 7, 3) := by decide +kernel
theorem dX7_setBay_28 : decode cX7_setBay 28 = .ok (.iconst 1, 1) := by decide +kernel
theorem dX7_setBay_29 : decode cX7_setBay 29 = .ok (.goto 4, 3) := by decide +kernel
theorem dX7_setBay_32 : decode cX7_setBay 32 = .ok (.iconst 0, 1) := by decide +kernel
theorem dX7_setBay_33 : decode cX7_setBay 33 = .ok (.iconst 2, 1) := by decide +kernel
theorem dX7_setBay_34 : decode cX7_setBay 34 = .ok (.invokevirtual 194, 3) := by decide +kernel
theorem dX7_setBay_37 : decode cX7_setBay 37 = .ok (.ifCond .eq 5, 3) := by decide +kernel
theorem dX7_setBay_40 : decode cX7_setBay 40 = .ok (.iconst 0, 1) := by decide +kernel
theorem dX7_setBay_41 : decode cX7_setBay 41 = .ok (.ireturn, 1) := by decide +kernel
theorem dX7_setBay_42 : decode cX7_setBay 42 = .ok (.aload_n 0, 1) := by decide +kernel
theorem dX7_setBay_43 : decode cX7_setBay 43 = .ok (.invokevirtual 203, 3) := by decide +kernel
theorem dX7_setBay_46 : decode cX7_setBay 46 = .ok (.aload_n 0, 1) := by decide +kernel
theorem dX7_setBay_47 : decode cX7_setBay 47 = .ok (.getfield 17, 3) := by decide +kernel
theorem dX7_setBay_50 : decode cX7_setBay 50 = .ok (.iload_n 1, 1) := by decide +kernel
theorem dX7_setBay_51 : decode cX7_setBay 51 = .ok (.invokestatic 143, 3) := by decide +kernel
theorem dX7_setBay_54 : decode cX7_setBay 54 = .ok (.iconst 4, 1) := by decide +kernel
theorem dX7_setBay_55 : decode cX7_setBay 55 = .ok (.iadd, 1) := by decide +kernel
theorem dX7_setBay_56 : decode cX7_setBay 56 = .ok (.iaload, 1) := by decide +kernel
theorem dX7_setBay_57 : decode cX7_setBay 57 = .ok (.iconst 1, 1) := by decide +kernel
theorem dX7_setBay_58 : decode cX7_setBay 58 = .ok (.if_icmp .ne 7, 3) := by decide +kernel
theorem dX7_setBay_61 : decode cX7_setBay 61 = .ok (.iconst 1, 1) := by decide +kernel
theorem dX7_setBay_62 : decode cX7_setBay 62 = .ok (.goto 4, 3) := by decide +kernel
theorem dX7_setBay_65 : decode cX7_setBay 65 = .ok (.iconst 0, 1) := by decide +kernel
theorem dX7_setBay_66 : decode cX7_setBay 66 = .ok (.istore_n 3, 1) := by decide +kernel
theorem dX7_setBay_67 : decode cX7_setBay 67 = .ok (.aload_n 0, 1) := by decide +kernel
theorem dX7_setBay_68 : decode cX7_setBay 68 = .ok (.getfield 17, 3) := by decide +kernel
theorem dX7_setBay_71 : decode cX7_setBay 71 = .ok (.iload_n 1, 1) := by decide +kernel
theorem dX7_setBay_72 : decode cX7_setBay 72 = .ok (.invokestatic 143, 3) := by decide +kernel
theorem dX7_setBay_75 : decode cX7_setBay 75 = .ok (.iconst 4, 1) := by decide +kernel
theorem dX7_setBay_76 : decode cX7_setBay 76 = .ok (.iadd, 1) := by decide +kernel
theorem dX7_setBay_77 : decode cX7_setBay 77 = .ok (.iload_n 2, 1) := by decide +kernel
theorem dX7_setBay_78 : decode cX7_setBay 78 = .ok (.ifCond .eq 7, 3) := by decide +kernel
theorem dX7_setBay_81 : decode cX7_setBay 81 = .ok (.iconst 1, 1) := by decide +kernel
theorem dX7_setBay_82 : decode cX7_setBay 82 = .ok (.goto 4, 3) := by decide +kernel
theorem dX7_setBay_85 : decode cX7_setBay 85 = .ok (.iconst 0, 1) := by decide +kernel
theorem dX7_setBay_86 : decode cX7_setBay 86 = .ok (.iastore, 1) := by decide +kernel
theorem dX7_setBay_87 : decode cX7_setBay 87 = .ok (.iload_n 3, 1) := by decide +kernel
theorem dX7_setBay_88 : decode cX7_setBay 88 = .ok (.ireturn, 1) := by decide +kernel
theorem dX7_undo_0 : decode cX7_undo 0 = .ok (.aload_n 0, 1) := by decide +kernel
theorem dX7_undo_1 : decode cX7_undo 1 = .ok (.iconst 0, 1) := by decide +kernel
theorem dX7_undo_2 : decode cX7_undo 2 = .ok (.putfield 45, 3) := by decide +kernel
theorem dX7_undo_5 : decode cX7_undo 5 = .ok (.aload_n 0, 1) := by decide +kernel
theorem dX7_undo_6 : decode cX7_undo 6 = .ok (.getfield 294, 3) := by decide +kernel
theorem dX7_undo_9 : decode cX7_undo 9 = .ok (.ifCond .ne 5, 3) := by decide +kernel
theorem dX7_undo_12 : decode cX7_undo 12 = .ok (.iconst (-1), 1) := by decide +kernel
theorem dX7_undo_13 : decode cX7_undo 13 = .ok (.ireturn, 1) := by decide +kernel
theorem dX7_undo_14 : decode cX7_undo 14 = .ok (.aload_n 0, 1) := by decide +kernel
theorem dX7_undo_15 : decode cX7_undo 15 = .ok (.dup, 1) := by decide +kernel
theorem dX7_undo_16 : decode cX7_undo 16 = .ok (.getfield 294, 3) := by decide +kernel
theorem dX7_undo_19 : decode cX7_undo 19 = .ok (.iconst 1, 1) := by decide +kernel
theorem dX7_undo_20 : decode cX7_undo 20 = .ok (.isub, 1) := by decide +kernel
theorem dX7_undo_21 : decode cX7_undo 21 = .ok (.putfield 294, 3) := by decide +kernel
theorem dX7_undo_24 : decode cX7_undo 24 = .ok (.aload_n 0, 1) := by decide +kernel
theorem dX7_undo_25 : decode cX7_undo 25 = .ok (.getfield 28, 3) := by decide +kernel
theorem dX7_undo_28 : decode cX7_undo 28 = .ok (.aload_n 0, 1) := by decide +kernel
theorem dX7_undo_29 : decode cX7_undo 29 = .ok (.getfield 294, 3) := by decide +kernel
theorem dX7_undo_32 : decode cX7_undo 32 = .ok (.aaload, 1) := by decide +kernel
theorem dX7_undo_33 : decode cX7_undo 33 = .ok (.aload_n 0, 1) := by decide +kernel
theorem dX7_undo_34 : decode cX7_undo 34 = .ok (.getfield 17, 3) := by decide +kernel
theorem dX7_undo_37 : decode cX7_undo 37 = .ok (.invokestatic 206, 3) := by decide +kernel
theorem dX7_undo_40 : decode cX7_undo 40 = .ok (.aload_n 0, 1) := by decide +kernel
theorem dX7_undo_41 : decode cX7_undo 41 = .ok (.getfield 294, 3) := by decide +kernel
theorem dX7_undo_44 : decode cX7_undo 44 = .ok (.ireturn, 1) := by decide +kernel
theorem dX7_checksum_0 : decode cX7_checksum 0 = .ok (.aload_n 0, 1) := by decide +kernel
theorem dX7_checksum_1 : decode cX7_checksum 1 = .ok (.iconst 0, 1) := by decide +kernel
theorem dX7_checksum_2 : decode cX7_checksum 2 = .ok (.putfield 45, 3) := by decide +kernel
theorem dX7_checksum_5 : decode cX7_checksum 5 = .ok (.aload_n 0, 1) := by decide +kernel
theorem dX7_checksum_6 : decode cX7_checksum 6 = .ok (.getfield 17, 3) := by decide +kernel
theorem dX7_checksum_9 : decode cX7_checksum 9 = .ok (.iconst 0, 1) := by decide +kernel
theorem dX7_checksum_10 : decode cX7_checksum 10 = .ok (.iaload, 1) := by decide +kernel
theorem dX7_checksum_11 : decode cX7_checksum 11 = .ok (.ifCond .ne 5, 3) := by decide +kernel
theorem dX7_checksum_14 : decode cX7_checksum 14 = .ok (.lconst 0, 1) := by decide +kernel
theorem dX7_checksum_15 : decode cX7_checksum 15 = .ok (.lreturn, 1) := by decide +kernel
theorem dX7_checksum_16 : decode cX7_checksum 16 = .ok (.ldc2_w 297, 3) := by decide +kernel
theorem dX7_checksum_19 : decode cX7_checksum 19 = .ok (.aload_n 0, 1) := by decide +kernel
theorem dX7_checksum_20 : decode cX7_checksum 20 = .ok (.getfield 17, 3) := by decide +kernel
theorem dX7_checksum_23 : decode cX7_checksum 23 = .ok (.iconst 3, 1) := by decide +kernel
theorem dX7_checksum_24 : decode cX7_checksum 24 = .ok (.iaload, 1) := by decide +kernel
theorem dX7_checksum_25 : decode cX7_checksum 25 = .ok (.i2l, 1) := by decide +kernel
theorem dX7_checksum_26 : decode cX7_checksum 26 = .ok (.lmul, 1) := by decide +kernel
theorem dX7_checksum_27 : decode cX7_checksum 27 = .ok (.aload_n 0, 1) := by decide +kernel
theorem dX7_checksum_28 : decode cX7_checksum 28 = .ok (.getfield 17, 3) := by decide +kernel
theorem dX7_checksum_31 : decode cX7_checksum 31 = .ok (.iconst 4, 1) := by decide +kernel
theorem dX7_checksum_32 : decode cX7_checksum 32 = .ok (.iaload, 1) := by decide +kernel
theorem dX7_checksum_33 : decode cX7_checksum 33 = .ok (.i2l, 1) := by decide +kernel
theorem dX7_checksum_34 : decode cX7_checksum 34 = .ok (.ladd, 1) := by decide +kernel
theorem dX7_checksum_35 : decode cX7_checksum 35 = .ok (.lstore_n 1, 1) := by decide +kernel
theorem dX7_checksum_36 : decode cX7_checksum 36 = .ok (.iconst 0, 1) := by decide +kernel
theorem dX7_checksum_37 : decode cX7_checksum 37 = .ok (.istore_n 3, 1) := by decide +kernel
theorem dX7_checksum_38 : decode cX7_checksum 38 = .ok (.iload_n 3, 1) := by decide +kernel
theorem dX7_checksum_39 : decode cX7_checksum 39 = .ok (.aload_n 0, 1) := by decide +kernel
theorem dX7_checksum_40 : decode cX7_checksum 40 = .ok (.getfield 17, 3) := by decide +kernel
theorem dX7_checksum_43 : decode cX7_checksum 43 = .ok (.iconst 0, 1) := by decide +kernel
theorem dX7_checksum_44 : decode cX7_checksum 44 = .ok (.iaload, 1) := by decide +kernel
theorem dX7_checksum_45 : decode cX7_checksum 45 = .ok (.if_icmp .ge 45, 3) := by decide +kernel
theorem dX7_checksum_48 : decode cX7_checksum 48 = .ok (.ldc2_w 297, 3) := by decide +kernel
theorem dX7_checksum_51 : decode cX7_checksum 51 = .ok (.lload_n 1, 1) := by decide +kernel
theorem dX7_checksum_52 : decode cX7_checksum 52 = .ok (.lmul, 1) := by decide +kernel
theorem dX7_checksum_53 : decode cX7_checksum 53 = .ok (.aload_n 0, 1) := by decide +kernel
theorem dX7_checksum_54 : decode cX7_checksum 54 = .ok (.getfield 17, 3) := by decide +kernel
theorem dX7_checksum_57 : decode cX7_checksum 57 = .ok (.iload_n 3, 1) := by decide +kernel
theorem dX7_checksum_58 : decode cX7_checksum 58 = .ok (.invokestatic 143, 3) := by decide +kernel
theorem dX7_checksum_61 : decode cX7_checksum 61 = .ok (.iaload, 1) := by decide +kernel
theorem dX7_checksum_62 : decode cX7_checksum 62 = .ok (.i2l, 1) := by decide +kernel
theorem dX7_checksum_63 : decode cX7_checksum 63 = .ok (.ladd, 1) := by decide +kernel
theorem dX7_checksum_64 : decode cX7_checksum 64 = .ok (.lstore_n 1, 1) := by decide +kernel
theorem dX7_checksum_65 : decode cX7_checksum 65 = .ok (.ldc2_w 297, 3) := by decide +kernel
theorem dX7_checksum_68 : decode cX7_checksum 68 = .ok (.lload_n 1, 1) := by decide +kernel
theorem dX7_checksum_69 : decode cX7_checksum 69 = .ok (.lmul, 1) := by decide +kernel
theorem dX7_checksum_70 : decode cX7_checksum 70 = .ok (.aload_n 0, 1) := by decide +kernel
theorem dX7_checksum_71 : decode cX7_checksum 71 = .ok (.getfield 17, 3) := by decide +kernel
theorem dX7_checksum_74 : decode cX7_checksum 74 = .ok (.iload_n 3, 1) := by decide +kernel
theorem dX7_checksum_75 : decode cX7_checksum 75 = .ok (.invokestatic 143, 3) := by decide +kernel
theorem dX7_checksum_78 : decode cX7_checksum 78 = .ok (.iconst 4, 1) := by decide +kernel
theorem dX7_checksum_79 : decode cX7_checksum 79 = .ok (.iadd, 1) := by decide +kernel
theorem dX7_checksum_80 : decode cX7_checksum 80 = .ok (.iaload, 1) := by decide +kernel
theorem dX7_checksum_81 : decode cX7_checksum 81 = .ok (.i2l, 1) := by decide +kernel
theorem dX7_checksum_82 : decode cX7_checksum 82 = .ok (.ladd, 1) := by decide +kernel
theorem dX7_checksum_83 : decode cX7_checksum 83 = .ok (.lstore_n 1, 1) := by decide +kernel
theorem dX7_checksum_84 : decode cX7_checksum 84 = .ok (.iinc 3 1, 3) := by decide +kernel
theorem dX7_checksum_87 : decode cX7_checksum 87 = .ok (.goto (-49), 3) := by decide +kernel
theorem dX7_checksum_90 : decode cX7_checksum 90 = .ok (.iconst 0, 1) := by decide +kernel
theorem dX7_checksum_91 : decode cX7_checksum 91 = .ok (.istore_n 3, 1) := by decide +kernel
theorem dX7_checksum_92 : decode cX7_checksum 92 = .ok (.iload_n 3, 1) := by decide +kernel
theorem dX7_checksum_93 : decode cX7_checksum 93 = .ok (.aload_n 0, 1) := by decide +kernel
theorem dX7_checksum_94 : decode cX7_checksum 94 = .ok (.getfield 17, 3) := by decide +kernel
theorem dX7_checksum_97 : decode cX7_checksum 97 = .ok (.iconst 2, 1) := by decide +kernel
theorem dX7_checksum_98 : decode cX7_checksum 98 = .ok (.iaload, 1) := by decide +kernel
theorem dX7_checksum_99 : decode cX7_checksum 99 = .ok (.if_icmp .ge 65, 3) := by decide +kernel
theorem dX7_checksum_102 : decode cX7_checksum 102 = .ok (.ldc2_w 297, 3) := by decide +kernel
theorem dX7_checksum_105 : decode cX7_checksum 105 = .ok (.lload_n 1, 1) := by decide +kernel
theorem dX7_checksum_106 : decode cX7_checksum 106 = .ok (.lmul, 1) := by decide +kernel
theorem dX7_checksum_107 : decode cX7_checksum 107 = .ok (.aload_n 0, 1) := by decide +kernel
theorem dX7_checksum_108 : decode cX7_checksum 108 = .ok (.getfield 17, 3) := by decide +kernel
theorem dX7_checksum_111 : decode cX7_checksum 111 = .ok (.iload_n 3, 1) := by decide +kernel
theorem dX7_checksum_112 : decode cX7_checksum 112 = .ok (.invokestatic 162, 3) := by decide +kernel
theorem dX7_checksum_115 : decode cX7_checksum 115 = .ok (.iaload, 1) := by decide +kernel
theorem dX7_checksum_116 : decode cX7_checksum 116 = .ok (.i2l, 1) := by decide +kernel
theorem dX7_checksum_117 : decode cX7_checksum 117 = .ok (.ladd, 1) := by decide +kernel
theorem dX7_checksum_118 : decode cX7_checksum 118 = .ok (.lstore_n 1, 1) := by decide +kernel
theorem dX7_checksum_119 : decode cX7_checksum 119 = .ok (.ldc2_w 297, 3) := by decide +kernel
theorem dX7_checksum_122 : decode cX7_checksum 122 = .ok (.lload_n 1, 1) := by decide +kernel
theorem dX7_checksum_123 : decode cX7_checksum 123 = .ok (.lmul, 1) := by decide +kernel
theorem dX7_checksum_124 : decode cX7_checksum 124 = .ok (.aload_n 0, 1) := by decide +kernel
theorem dX7_checksum_125 : decode cX7_checksum 125 = .ok (.getfield 17, 3) := by decide +kernel
theorem dX7_checksum_128 : decode cX7_checksum 128 = .ok (.iload_n 3, 1) := by decide +kernel
theorem dX7_checksum_129 : decode cX7_checksum 129 = .ok (.invokestatic 162, 3) := by decide +kernel
theorem dX7_checksum_132 : decode cX7_checksum 132 = .ok (.iconst 1, 1) := by decide +kernel
theorem dX7_checksum_133 : decode cX7_checksum 133 = .ok (.iadd, 1) := by decide +kernel
theorem dX7_checksum_134 : decode cX7_checksum 134 = .ok (.iaload, 1) := by decide +kernel
theorem dX7_checksum_135 : decode cX7_checksum 135 = .ok (.i2l, 1) := by decide +kernel
theorem dX7_checksum_136 : decode cX7_checksum 136 = .ok (.ladd, 1) := by decide +kernel
theorem dX7_checksum_137 : decode cX7_checksum 137 = .ok (.lstore_n 1, 1) := by decide +kernel
theorem dX7_checksum_138 : decode cX7_checksum 138 = .ok (.ldc2_w 297, 3) := by decide +kernel
theorem dX7_checksum_141 : decode cX7_checksum 141 = .ok (.lload_n 1, 1) := by decide +kernel
theorem dX7_checksum_142 : decode cX7_checksum 142 = .ok (.lmul, 1) := by decide +kernel
theorem dX7_checksum_143 : decode cX7_checksum 143 = .ok (.aload_n 0, 1) := by decide +kernel
theorem dX7_checksum_144 : decode cX7_checksum 144 = .ok (.getfield 17, 3) := by decide +kernel
theorem dX7_checksum_147 : decode cX7_checksum 147 = .ok (.iload_n 3, 1) := by decide +kernel
theorem dX7_checksum_148 : decode cX7_checksum 148 = .ok (.invokestatic 162, 3) := by decide +kernel
theorem dX7_checksum_151 : decode cX7_checksum 151 = .ok (.iconst 2, 1) := by decide +kernel
theorem dX7_checksum_152 : decode cX7_checksum 152 = .ok (.iadd, 1) := by decide +kernel
theorem dX7_checksum_153 : decode cX7_checksum 153 = .ok (.invokestatic 242, 3) := by decide +kernel
theorem dX7_checksum_156 : decode cX7_checksum 156 = .ok (.ladd, 1) := by decide +kernel
theorem dX7_checksum_157 : decode cX7_checksum 157 = .ok (.lstore_n 1, 1) := by decide +kernel
theorem dX7_checksum_158 : decode cX7_checksum 158 = .ok (.iinc 3 1, 3) := by decide +kernel
theorem dX7_checksum_161 : decode cX7_checksum 161 = .ok (.goto (-69), 3) := by decide +kernel
theorem dX7_checksum_164 : decode cX7_checksum 164 = .ok (.ldc2_w 297, 3) := by decide +kernel
theorem dX7_checksum_167 : decode cX7_checksum 167 = .ok (.lload_n 1, 1) := by decide +kernel
theorem dX7_checksum_168 : decode cX7_checksum 168 = .ok (.lmul, 1) := by decide +kernel
theorem dX7_checksum_169 : decode cX7_checksum 169 = .ok (.aload_n 0, 1) := by decide +kernel
theorem dX7_checksum_170 : decode cX7_checksum 170 = .ok (.getfield 17, 3) := by decide +kernel
theorem dX7_checksum_173 : decode cX7_checksum 173 = .ok (.invokestatic 222, 3) := by decide +kernel
theorem dX7_checksum_176 : decode cX7_checksum 176 = .ok (.i2l, 1) := by decide +kernel
theorem dX7_checksum_177 : decode cX7_checksum 177 = .ok (.ladd, 1) := by decide +kernel
theorem dX7_checksum_178 : decode cX7_checksum 178 = .ok (.lreturn, 1) := by decide +kernel
theorem dJ6_bitCount_0f7a4_0 : decode cJ6_bitCount_0f7a4 0 = .ok (.iload_n 0, 1) := by decide +kernel
theorem dJ6_bitCount_0f7a4_1 : decode cJ6_bitCount_0f7a4 1 = .ok (.iload_n 0, 1) := by decide +kernel
theorem dJ6_bitCount_0f7a4_2 : decode cJ6_bitCount_0f7a4 2 = .ok (.iconst 1, 1) := by decide +kernel
theorem dJ6_bitCount_0f7a4_3 : decode cJ6_bitCount_0f7a4 3 = .ok (.iushr, 1) := by decide +kernel
theorem dJ6_bitCount_0f7a4_4 : decode cJ6_bitCount_0f7a4 4 = .ok (.ldc_w 265, 3) := by decide +kernel
theorem dJ6_bitCount_0f7a4_7 : decode cJ6_bitCount_0f7a4 7 = .ok (.iand, 1) := by decide +kernel
theorem dJ6_bitCount_0f7a4_8 : decode cJ6_bitCount_0f7a4 8 = .ok (.isub, 1) := by decide +kernel
theorem dJ6_bitCount_0f7a4_9 : decode cJ6_bitCount_0f7a4 9 = .ok (.istore_n 0, 1) := by decide +kernel
theorem dJ6_bitCount_0f7a4_10 : decode cJ6_bitCount_0f7a4 10 = .ok (.iload_n 0, 1) := by decide +kernel
theorem dJ6_bitCount_0f7a4_11 : decode cJ6_bitCount_0f7a4 11 = .ok (.ldc_w 266, 3) := by decide +kernel
theorem dJ6_bitCount_0f7a4_14 : decode cJ6_bitCount_0f7a4 14 = .ok (.iand, 1) := by decide +kernel
theorem dJ6_bitCount_0f7a4_15 : decode cJ6_bitCount_0f7a4 15 = .ok (.iload_n 0, 1) := by decide +kernel
theorem dJ6_bitCount_0f7a4_16 : decode cJ6_bitCount_0f7a4 16 = .ok (.iconst 2, 1) := by decide +kernel
theorem dJ6_bitCount_0f7a4_17 : decode cJ6_bitCount_0f7a4 17 = .ok (.iushr, 1) := by decide +kernel
theorem dJ6_bitCount_0f7a4_18 : decode cJ6_bitCount_0f7a4 18 = .ok (.ldc_w 266, 3) := by decide +kernel
theorem dJ6_bitCount_0f7a4_21 : decode cJ6_bitCount_0f7a4 21 = .ok (.iand, 1) := by decide +kernel
theorem dJ6_bitCount_0f7a4_22 : decode cJ6_bitCount_0f7a4 22 = .ok (.iadd, 1) := by decide +kernel
theorem dJ6_bitCount_0f7a4_23 : decode cJ6_bitCount_0f7a4 23 = .ok (.istore_n 0, 1) := by decide +kernel
theorem dJ6_bitCount_0f7a4_24 : decode cJ6_bitCount_0f7a4 24 = .ok (.iload_n 0, 1) := by decide +kernel
theorem dJ6_bitCount_0f7a4_25 : decode cJ6_bitCount_0f7a4 25 = .ok (.iload_n 0, 1) := by decide +kernel
theorem dJ6_bitCount_0f7a4_26 : decode cJ6_bitCount_0f7a4 26 = .ok (.iconst 4, 1) := by decide +kernel
theorem dJ6_bitCount_0f7a4_27 : decode cJ6_bitCount_0f7a4 27 = .ok (.iushr, 1) := by decide +kernel
theorem dJ6_bitCount_0f7a4_28 : decode cJ6_bitCount_0f7a4 28 = .ok (.iadd, 1) := by decide +kernel
theorem dJ6_bitCount_0f7a4_29 : decode cJ6_bitCount_0f7a4 29 = .ok (.ldc_w 267, 3) := by decide +kernel
theorem dJ6_bitCount_0f7a4_32 : decode cJ6_bitCount_0f7a4 32 = .ok (.iand, 1) := by decide +kernel
theorem dJ6_bitCount_0f7a4_33 : decode cJ6_bitCount_0f7a4 33 = .ok (.istore_n 0, 1) := by decide +kernel
theorem dJ6_bitCount_0f7a4_34 : decode cJ6_bitCount_0f7a4 34 = .ok (.iload_n 0, 1) := by decide +kernel
theorem dJ6_bitCount_0f7a4_35 : decode cJ6_bitCount_0f7a4 35 = .ok (.iload_n 0, 1) := by decide +kernel
theorem dJ6_bitCount_0f7a4_36 : decode cJ6_bitCount_0f7a4 36 = .ok (.bipush 8, 2) := by decide +kernel
theorem dJ6_bitCount_0f7a4_38 : decode cJ6_bitCount_0f7a4 38 = .ok (.iushr, 1) := by decide +kernel
theorem dJ6_bitCount_0f7a4_39 : decode cJ6_bitCount_0f7a4 39 = .ok (.iadd, 1) := by decide +kernel
theorem dJ6_bitCount_0f7a4_40 : decode cJ6_bitCount_0f7a4 40 = .ok (.istore_n 0, 1) := by decide +kernel
theorem dJ6_bitCount_0f7a4_41 : decode cJ6_bitCount_0f7a4 41 = .ok (.iload_n 0, 1) := by decide +kernel
theorem dJ6_bitCount_0f7a4_42 : decode cJ6_bitCount_0f7a4 42 = .ok (.iload_n 0, 1) := by decide +kernel
theorem dJ6_bitCount_0f7a4_43 : decode cJ6_bitCount_0f7a4 43 = .ok (.bipush 16, 2) := by decide +kernel
theorem dJ6_bitCount_0f7a4_45 : decode cJ6_bitCount_0f7a4 45 = .ok (.iushr, 1) := by decide +kernel
theorem dJ6_bitCount_0f7a4_46 : decode cJ6_bitCount_0f7a4 46 = .ok (.iadd, 1) := by decide +kernel
theorem dJ6_bitCount_0f7a4_47 : decode cJ6_bitCount_0f7a4 47 = .ok (.istore_n 0, 1) := by decide +kernel
theorem dJ6_bitCount_0f7a4_48 : decode cJ6_bitCount_0f7a4 48 = .ok (.iload_n 0, 1) := by decide +kernel
theorem dJ6_bitCount_0f7a4_49 : decode cJ6_bitCount_0f7a4 49 = .ok (.bipush 63, 2) := by decide +kernel
theorem dJ6_bitCount_0f7a4_51 : decode cJ6_bitCount_0f7a4 51 = .ok (.iand, 1) := by decide +kernel
theorem dJ6_bitCount_0f7a4_52 : decode cJ6_bitCount_0f7a4 52 = .ok (.ireturn, 1) := by decide +kernel
theorem dJ9_abs_0f7a4_0 : decode cJ9_abs_0f7a4 0 = .ok (.iload_n 0, 1) := by decide +kernel
theorem dJ9_abs_0f7a4_1 : decode cJ9_abs_0f7a4 1 = .ok (.ifCond .ge 8, 3) := by decide +kernel
theorem dJ9_abs_0f7a4_4 : decode cJ9_abs_0f7a4 4 = .ok (.iload_n 0, 1) := by decide +kernel
theorem dJ9_abs_0f7a4_5 : decode cJ9_abs_0f7a4 5 = .ok (.ineg, 1) := by decide +kernel
theorem dJ9_abs_0f7a4_6 : decode cJ9_abs_0f7a4 6 = .ok (.goto 4, 3) := by decide +kernel
theorem dJ9_abs_0f7a4_9 : decode cJ9_abs_0f7a4 9 = .ok (.iload_n 0, 1) := by decide +kernel
theorem dJ9_abs_0f7a4_10 : decode cJ9_abs_0f7a4 10 = .ok (.ireturn, 1) := by decide +kernel
theorem dJ9_max_7cf53_0 : decode cJ9_max_7cf53 0 = .ok (.iload_n 0, 1) := by decide +kernel
theorem dJ9_max_7cf53_1 : decode cJ9_max_7cf53 1 = .ok (.iload_n 1, 1) := by decide +kernel
theorem dJ9_max_7cf53_2 : decode cJ9_max_7cf53 2 = .ok (.if_icmp .lt 7, 3) := by decide +kernel
theorem dJ9_max_7cf53_5 : decode cJ9_max_7cf53 5 = .ok (.iload_n 0, 1) := by decide +kernel
theorem dJ9_max_7cf53_6 : decode cJ9_max_7cf53 6 = .ok (.goto 4, 3) := by decide +kernel
theorem dJ9_max_7cf53_9 : decode cJ9_max_7cf53 9 = .ok (.iload_n 1, 1) := by decide +kernel
theorem dJ9_max_7cf53_10 : decode cJ9_max_7cf53 10 = .ok (.ireturn, 1) := by decide +kernel
theorem dJ9_max_f86c9_0 : decode cJ9_max_f86c9 0 = .ok (.lload_n 0, 1) := by decide +kernel
theorem dJ9_max_f86c9_1 : decode cJ9_max_f86c9 1 = .ok (.lload_n 2, 1) := by decide +kernel
theorem dJ9_max_f86c9_2 : decode cJ9_max_f86c9 2 = .ok (.lcmp, 1) := by decide +kernel
theorem dJ9_max_f86c9_3 : decode cJ9_max_f86c9 3 = .ok (.ifCond .lt 7, 3) := by decide +kernel
theorem dJ9_max_f86c9_6 : decode cJ9_max_f86c9 6 = .ok (.lload_n 0, 1) := by decide +kernel
theorem dJ9_max_f86c9_7 : decode cJ9_max_f86c9 7 = .ok (.goto 4, 3) := by decide +kernel
theorem dJ9_max_f86c9_10 : decode cJ9_max_f86c9 10 = .ok (.lload_n 2, 1) := by decide +kernel
theorem dJ9_max_f86c9_11 : decode cJ9_max_f86c9 11 = .ok (.lreturn, 1) := by decide +kernel
theorem dJ9_min_7cf53_0 : decode cJ9_min_7cf53 0 = .ok (.iload_n 0, 1) := by decide +kernel
theorem dJ9_min_7cf53_1 : decode cJ9_min_7cf53 1 = .ok (.iload_n 1, 1) := by decide +kernel
theorem dJ9_min_7cf53_2 : decode cJ9_min_7cf53 2 = .ok (.if_icmp .gt 7, 3) := by decide +kernel
theorem dJ9_min_7cf53_5 : decode cJ9_min_7cf53 5 = .ok (.iload_n 0, 1) := by decide +kernel
theorem dJ9_min_7cf53_6 : decode cJ9_min_7cf53 6 = .ok (.goto 4, 3) := by decide +kernel
theorem dJ9_min_7cf53_9 : decode cJ9_min_7cf53 9 = .ok (.iload_n 1, 1) := by decide +kernel
theorem dJ9_min_7cf53_10 : decode cJ9_min_7cf53 10 = .ok (.ireturn, 1) := by decide +kernel
theorem dJ9_min_f86c9_0 : decode cJ9_min_f86c9 0 = .ok (.lload_n 0, 1) := by decide +kernel
theorem dJ9_min_f86c9_1 : decode cJ9_min_f86c9 1 = .ok (.lload_n 2, 1) := by decide +kernel
theorem dJ9_min_f86c9_2 : decode cJ9_min_f86c9 2 = .ok (.lcmp, 1) := by decide +kernel
theorem dJ9_min_f86c9_3 : decode cJ9_min_f86c9 3 = .ok (.ifCond .gt 7, 3) := by decide +kernel
theorem dJ9_min_f86c9_6 : decode cJ9_min_f86c9 6 = .ok (.lload_n 0, 1) := by decide +kernel
theorem dJ9_min_f86c9_7 : decode cJ9_min_f86c9 7 = .ok (.goto 4, 3) := by decide +kernel
theorem dJ9_min_f86c9_10 : decode cJ9_min_f86c9 10 = .ok (.lload_n 2, 1) := by decide +kernel
theorem dJ9_min_f86c9_11 : decode cJ9_min_f86c9 11 = .ok (.lreturn, 1) := by decide +kernel
theorem dJ0_length_8abf5_0 : decode cJ0_length_8abf5 0 = .ok (.aload_n 0, 1) := by decide +kernel
theorem dJ0_length_8abf5_1 : decode cJ0_length_8abf5 1 = .ok (.getfield 9, 3) := by decide +kernel
theorem dJ0_length_8abf5_4 : decode cJ0_length_8abf5 4 = .ok (.arraylength, 1) := by decide +kernel
theorem dJ0_length_8abf5_5 : decode cJ0_length_8abf5 5 = .ok (.aload_n 0, 1) := by decide +kernel
theorem dJ0_length_8abf5_6 : decode cJ0_length_8abf5 6 = .ok (.invokevirtual 335, 3) := by decide +kernel
theorem dJ0_length_8abf5_9 : decode cJ0_length_8abf5 9 = .ok (.ishr, 1) := by decide +kernel
theorem dJ0_length_8abf5_10 : decode cJ0_length_8abf5 10 = .ok (.ireturn, 1) := by decide +kernel
theorem dJ0_charAt_5068e_0 : decode cJ0_charAt_5068e 0 = .ok (.aload_n 0, 1) := by decide +kernel
theorem dJ0_charAt_5068e_1 : decode cJ0_charAt_5068e 1 = .ok (.invokevirtual 492, 3) := by decide +kernel
theorem dJ0_charAt_5068e_4 : decode cJ0_charAt_5068e 4 = .ok (.ifCond .eq 12, 3) := by decide +kernel
theorem dJ0_charAt_5068e_7 : decode cJ0_charAt_5068e 7 = .ok (.aload_n 0, 1) := by decide +kernel
theorem dJ0_charAt_5068e_8 : decode cJ0_charAt_5068e 8 = .ok (.getfield 9, 3) := by decide +kernel
theorem dJ0_charAt_5068e_11 : decode cJ0_charAt_5068e 11 = .ok (.iload_n 1, 1) := by decide +kernel
theorem dJ0_charAt_5068e_12 : decode cJ0_charAt_5068e 12 = .ok (.invokestatic 495, 3) := by decide +kernel
theorem dJ0_charAt_5068e_15 : decode cJ0_charAt_5068e 15 = .ok (.ireturn, 1) := by decide +kernel
theorem dJ0_charAt_5068e_16 : decode cJ0_charAt_5068e 16 = .ok (.aload_n 0, 1) := by decide +kernel
theorem dJ0_charAt_5068e_17 : decode cJ0_charAt_5068e 17 = .ok (.getfield 9, 3) := by decide +kernel
theorem dJ0_charAt_5068e_20 : decode cJ0_charAt_5068e 20 = .ok (.iload_n 1, 1) := by decide +kernel
theorem dJ0_charAt_5068e_21 : decode cJ0_charAt_5068e 21 = .ok (.invokestatic 498, 3) := by decide +kernel
theorem dJ0_charAt_5068e_24 : decode cJ0_charAt_5068e 24 = .ok (.ireturn, 1) := by decide +kernel
theorem dJ0_coder_7d493_0 : decode cJ0_coder_7d493 0 = .ok (.getstatic 38, 3) := by decide +kernel
theorem dJ0_coder_7d493_3 : decode cJ0_coder_7d493 3 = .ok (.ifCond .eq 10, 3) := by decide +kernel
theorem dJ0_coder_7d493_6 : decode cJ0_coder_7d493 6 = .ok (.aload_n 0, 1) := by decide +kernel
theorem dJ0_coder_7d493_7 : decode cJ0_coder_7d493 7 = .ok (.getfield 15, 3) := by decide +kernel
theorem dJ0_coder_7d493_10 : decode cJ0_coder_7d493 10 = .ok (.goto 4, 3) := by decide +kernel
theorem dJ0_coder_7d493_13 : decode cJ0_coder_7d493 13 = .ok (.iconst 1, 1) := by decide +kernel
theorem dJ0_coder_7d493_14 : decode cJ0_coder_7d493 14 = .ok (.ireturn, 1) := by decide +kernel
theorem dJ0_isLatin1_aae02_0 : decode cJ0_isLatin1_aae02 0 = .ok (.getstatic 38, 3) := by decide +kernel
theorem dJ0_isLatin1_aae02_3 : decode cJ0_isLatin1_aae02 3 = .ok (.ifCond .eq 14, 3) := by decide +kernel
theorem dJ0_isLatin1_aae02_6 : decode cJ0_isLatin1_aae02 6 = .ok (.aload_n 0, 1) := by decide +kernel
theorem dJ0_isLatin1_aae02_7 : decode cJ0_isLatin1_aae02 7 = .ok (.getfield 15, 3) := by decide +kernel
theorem dJ0_isLatin1_aae02_10 : decode cJ0_isLatin1_aae02 10 = .ok (.ifCond .ne 7, 3) := by decide +kernel
theorem dJ0_isLatin1_aae02_13 : decode cJ0_isLatin1_aae02 13 = .ok (.iconst 1, 1) := by decide +kernel
theorem dJ0_isLatin1_aae02_14 : decode cJ0_isLatin1_aae02 14 = .ok (.goto 4, 3) := by decide +kernel
theorem dJ0_isLatin1_aae02_17 : decode cJ0_isLatin1_aae02 17 = .ok (.iconst 0, 1) := by decide +kernel
theorem dJ0_isLatin1_aae02_18 : decode cJ0_isLatin1_aae02 18 = .ok (.ireturn, 1) := by decide +kernel
theorem dJ0_checkIndex_df160_0 : decode cJ0_checkIndex_df160 0 = .ok (.iload_n 0, 1) := by decide +kernel
theorem dJ0_checkIndex_df160_1 : decode cJ0_checkIndex_df160 1 = .ok (.iload_n 1, 1) := by decide +kernel
theorem dJ0_checkIndex_df160_2 : decode cJ0_checkIndex_df160 2 = .ok (.getstatic 1053, 3) := by decide +kernel
theorem dJ0_checkIndex_df160_5 : decode cJ0_checkIndex_df160 5 = .ok (.invokestatic 1059, 3) := by decide +kernel
theorem dJ0_checkIndex_df160_8 : decode cJ0_checkIndex_df160 8 = .ok (.pop, 1) := by decide +kernel
theorem dJ0_checkIndex_df160_9 : decode cJ0_checkIndex_df160 9 = .ok (.return_, 1) := by decide +kernel
theorem dJ1_charAt_3b067_0 : decode cJ1_charAt_3b067 0 = .ok (.iload_n 1, 1) := by decide +kernel
theorem dJ1_charAt_3b067_1 : decode cJ1_charAt_3b067 1 = .ok (.aload_n 0, 1) := by decide +kernel
theorem dJ1_charAt_3b067_2 : decode cJ1_charAt_3b067 2 = .ok (.arraylength, 1) := by decide +kernel
theorem dJ1_charAt_3b067_3 : decode cJ1_charAt_3b067 3 = .ok (.invokestatic 9, 3) := by decide +kernel
theorem dJ1_charAt_3b067_6 : decode cJ1_charAt_3b067 6 = .ok (.aload_n 0, 1) := by decide +kernel
theorem dJ1_charAt_3b067_7 : decode cJ1_charAt_3b067 7 = .ok (.iload_n 1, 1) := by decide +kernel
theorem dJ1_charAt_3b067_8 : decode cJ1_charAt_3b067 8 = .ok (.baload, 1) := by decide +kernel
theorem dJ1_charAt_3b067_9 : decode cJ1_charAt_3b067 9 = .ok (.sipush 255, 3) := by decide +kernel
theorem dJ1_charAt_3b067_12 : decode cJ1_charAt_3b067 12 = .ok (.iand, 1) := by decide +kernel
theorem dJ1_charAt_3b067_13 : decode cJ1_charAt_3b067 13 = .ok (.i2c, 1) := by decide +kernel
theorem dJ1_charAt_3b067_14 : decode cJ1_charAt_3b067 14 = .ok (.ireturn, 1) := by decide +kernel
theorem dJ2_getChar_3b067_0 : decode cJ2_getChar_3b067 0 = .ok (.getstatic 44, 3) := by decide +kernel
theorem dJ2_getChar_3b067_3 : decode cJ2_getChar_3b067 3 = .ok (.ifCond .ne 25, 3) := by decide +kernel
theorem dJ2_getChar_3b067_6 : decode cJ2_getChar_3b067 6 = .ok (.iload_n 1, 1) := by decide +kernel
theorem dJ2_getChar_3b067_7 : decode cJ2_getChar_3b067 7 = .ok (.ifCond .lt 11, 3) := by decide +kernel
theorem dJ2_getChar_3b067_10 : decode cJ2_getChar_3b067 10 = .ok (.iload_n 1, 1) := by decide +kernel
theorem dJ2_getChar_3b067_11 : decode cJ2_getChar_3b067 11 = .ok (.aload_n 0, 1) := by decide +kernel
theorem dJ2_getChar_3b067_12 : decode cJ2_getChar_3b067 12 = .ok (.invokestatic 48, 3) := by decide +kernel
theorem dJ2_getChar_3b067_15 : decode cJ2_getChar_3b067 15 = .ok (.if_icmp .lt 13, 3) := by decide +kernel
theorem dJ2_getChar_3b067_18 : decode cJ2_getChar_3b067 18 = .ok (.new 52, 3) := by decide +kernel
theorem dJ2_getChar_3b067_21 : decode cJ2_getChar_3b067 21 = .ok (.dup, 1) := by decide +kernel
theorem dJ2_getChar_3b067_22 : decode cJ2_getChar_3b067 22 = .ok (.ldc 54, 2) := by decide +kernel
theorem dJ2_getChar_3b067_24 : decode cJ2_getChar_3b067 24 = .ok (.invokespecial 56, 3) := by decide +kernel
theorem dJ2_getChar_3b067_27 : decode cJ2_getChar_3b067 27 = .ok (.athrow, 1) := by decide +kernel
theorem dJ2_getChar_3b067_28 : decode cJ2_getChar_3b067 28 = .ok (.iload_n 1, 1) := by decide +kernel
theorem dJ2_getChar_3b067_29 : decode cJ2_getChar_3b067 29 = .ok (.iconst 1, 1) := by decide +kernel
theorem dJ2_getChar_3b067_30 : decode cJ2_getChar_3b067 30 = .ok (.ishl, 1) := by decide +kernel
theorem dJ2_getChar_3b067_31 : decode cJ2_getChar_3b067 31 = .ok (.istore_n 1, 1) := by decide +kernel
theorem dJ2_getChar_3b067_32 : decode cJ2_getChar_3b067 32 = .ok (.aload_n 0, 1) := by decide +kernel
theorem dJ2_getChar_3b067_33 : decode cJ2_getChar_3b067 33 = .ok (.iload_n 1, 1) := by decide +kernel
theorem dJ2_getChar_3b067_34 : decode cJ2_getChar_3b067 34 = .ok (.iinc 1 1, 3) := by decide +kernel
theorem dJ2_getChar_3b067_37 : decode cJ2_getChar_3b067 37 = .ok (.baload, 1) := by decide +kernel
theorem dJ2_getChar_3b067_38 : decode cJ2_getChar_3b067 38 = .ok (.sipush 255, 3) := by decide +kernel
theorem dJ2_getChar_3b067_41 : decode cJ2_getChar_3b067 41 = .ok (.iand, 1) := by decide +kernel
theorem dJ2_getChar_3b067_42 : decode cJ2_getChar_3b067 42 = .ok (.getstatic 59, 3) := by decide +kernel
theorem dJ2_getChar_3b067_45 : decode cJ2_getChar_3b067 45 = .ok (.ishl, 1) := by decide +kernel
theorem dJ2_getChar_3b067_46 : decode cJ2_getChar_3b067 46 = .ok (.aload_n 0, 1) := by decide +kernel
theorem dJ2_getChar_3b067_47 : decode cJ2_getChar_3b067 47 = .ok (.iload_n 1, 1) := by decide +kernel
theorem dJ2_getChar_3b067_48 : decode cJ2_getChar_3b067 48 = .ok (.baload, 1) := by decide +kernel
theorem dJ2_getChar_3b067_49 : decode cJ2_getChar_3b067 49 = .ok (.sipush 255, 3) := by decide +kernel
theorem dJ2_getChar_3b067_52 : decode cJ2_getChar_3b067 52 = .ok (.iand, 1) := by decide +kernel
theorem dJ2_getChar_3b067_53 : decode cJ2_getChar_3b067 53 = .ok (.getstatic 63, 3) := by decide +kernel
theorem dJ2_getChar_3b067_56 : decode cJ2_getChar_3b067 56 = .ok (.ishl, 1) := by decide +kernel
theorem dJ2_getChar_3b067_57 : decode cJ2_getChar_3b067 57 = .ok (.ior, 1) := by decide +kernel
theorem dJ2_getChar_3b067_58 : decode cJ2_getChar_3b067 58 = .ok (.i2c, 1) := by decide +kernel
theorem dJ2_getChar_3b067_59 : decode cJ2_getChar_3b067 59 = .ok (.ireturn, 1) := by decide +kernel
theorem dJ2_length_9d52b_0 : decode cJ2_length_9d52b 0 = .ok (.aload_n 0, 1) := by decide +kernel
theorem dJ2_length_9d52b_1 : decode cJ2_length_9d52b 1 = .ok (.arraylength, 1) := by decide +kernel
theorem dJ2_length_9d52b_2 : decode cJ2_length_9d52b 2 = .ok (.iconst 1, 1) := by decide +kernel
theorem dJ2_length_9d52b_3 : decode cJ2_length_9d52b 3 = .ok (.ishr, 1) := by decide +kernel
theorem dJ2_length_9d52b_4 : decode cJ2_length_9d52b 4 = .ok (.ireturn, 1) := by decide +kernel
theorem dJ2_charAt_3b067_0 : decode cJ2_charAt_3b067 0 = .ok (.iload_n 1, 1) := by decide +kernel
theorem dJ2_charAt_3b067_1 : decode cJ2_charAt_3b067 1 = .ok (.aload_n 0, 1) := by decide +kernel
theorem dJ2_charAt_3b067_2 : decode cJ2_charAt_3b067 2 = .ok (.invokestatic 67, 3) := by decide +kernel
theorem dJ2_charAt_3b067_5 : decode cJ2_charAt_3b067 5 = .ok (.aload_n 0, 1) := by decide +kernel
theorem dJ2_charAt_3b067_6 : decode cJ2_charAt_3b067 6 = .ok (.iload_n 1, 1) := by decide +kernel
theorem dJ2_charAt_3b067_7 : decode cJ2_charAt_3b067 7 = .ok (.invokestatic 71, 3) := by decide +kernel
theorem dJ2_charAt_3b067_10 : decode cJ2_charAt_3b067 10 = .ok (.ireturn, 1) := by decide +kernel
theorem dJ2_checkIndex_2214a_0 : decode cJ2_checkIndex_2214a 0 = .ok (.iload_n 0, 1) := by decide +kernel
theorem dJ2_checkIndex_2214a_1 : decode cJ2_checkIndex_2214a 1 = .ok (.aload_n 1, 1) := by decide +kernel
theorem dJ2_checkIndex_2214a_2 : decode cJ2_checkIndex_2214a 2 = .ok (.invokestatic 48, 3) := by decide +kernel
theorem dJ2_checkIndex_2214a_5 : decode cJ2_checkIndex_2214a 5 = .ok (.invokestatic 414, 3) := by decide +kernel
theorem dJ2_checkIndex_2214a_8 : decode cJ2_checkIndex_2214a 8 = .ok (.return_, 1) := by decide +kernel
theorem dJ3_checkIndex_8e157_0 : decode cJ3_checkIndex_8e157 0 = .ok (.iload_n 0, 1) := by decide +kernel
theorem dJ3_checkIndex_8e157_1 : decode cJ3_checkIndex_8e157 1 = .ok (.ifCond .lt 8, 3) := by decide +kernel
theorem dJ3_checkIndex_8e157_4 : decode cJ3_checkIndex_8e157 4 = .ok (.iload_n 0, 1) := by decide +kernel
theorem dJ3_checkIndex_8e157_5 : decode cJ3_checkIndex_8e157 5 = .ok (.iload_n 1, 1) := by decide +kernel
theorem dJ3_checkIndex_8e157_6 : decode cJ3_checkIndex_8e157 6 = .ok (.if_icmp .lt 10, 3) := by decide +kernel
theorem dJ3_checkIndex_8e157_9 : decode cJ3_checkIndex_8e157 9 = .ok (.aload_n 2, 1) := by decide +kernel
theorem dJ3_checkIndex_8e157_10 : decode cJ3_checkIndex_8e157 10 = .ok (.iload_n 0, 1) := by decide +kernel
theorem dJ3_checkIndex_8e157_11 : decode cJ3_checkIndex_8e157 11 = .ok (.iload_n 1, 1) := by decide +kernel
theorem dJ3_checkIndex_8e157_12 : decode cJ3_checkIndex_8e157 12 = .ok (.invokestatic 95, 3) := by decide +kernel
theorem dJ3_checkIndex_8e157_15 : decode cJ3_checkIndex_8e157 15 = .ok (.athrow, 1) := by decide +kernel
theorem dJ3_checkIndex_8e157_16 : decode cJ3_checkIndex_8e157 16 = .ok (.iload_n 0, 1) := by decide +kernel
theorem dJ3_checkIndex_8e157_17 : decode cJ3_checkIndex_8e157 17 = .ok (.ireturn, 1) := by decide +kernel
theorem dL_load_0 : decode cL_load 0 = .ok (.aload_n 2, 1) := by decide +kernel
theorem dL_load_1 : decode cL_load 1 = .ok (.iconst 0, 1) := by decide +kernel
theorem dL_load_2 : decode cL_load 2 = .ok (.aload_n 0, 1) := by decide +kernel
theorem dL_load_3 : decode cL_load 3 = .ok (.iload_n 1, 1) := by decide +kernel
theorem dL_load_4 : decode cL_load 4 = .ok (.invokevirtual 7, 3) := by decide +kernel
theorem dL_load_7 : decode cL_load 7 = .ok (.i2l, 1) := by decide +kernel
theorem dL_load_8 : decode cL_load 8 = .ok (.lastore, 1) := by decide +kernel
theorem dL_load_9 : decode cL_load 9 = .ok (.goto 6, 3) := by decide +kernel
theorem dL_load_12 : decode cL_load 12 = .ok (.astore_n 3, 1) := by decide +kernel
theorem dL_load_13 : decode cL_load 13 = .ok (.iconst 1, 1) := by decide +kernel
theorem dL_load_14 : decode cL_load 14 = .ok (.ireturn, 1) := by decide +kernel
theorem dL_load_15 : decode cL_load 15 = .ok (.iconst 0, 1) := by decide +kernel
theorem dL_load_16 : decode cL_load 16 = .ok (.ireturn, 1) := by decide +kernel
theorem dL_smoke_0 : decode cL_smoke 0 = .ok (.aload_n 2, 1) := by decide +kernel
theorem dL_smoke_1 : decode cL_smoke 1 = .ok (.iconst 0, 1) := by decide +kernel
theorem dL_smoke_2 : decode cL_smoke 2 = .ok (.aload_n 0, 1) := by decide +kernel
theorem dL_smoke_3 : decode cL_smoke 3 = .ok (.iload_n 1, 1) := by decide +kernel
theorem dL_smoke_4 : decode cL_smoke 4 = .ok (.invokevirtual 15, 3) := by decide +kernel
theorem dL_smoke_7 : decode cL_smoke 7 = .ok (.i2l, 1) := by decide +kernel
theorem dL_smoke_8 : decode cL_smoke 8 = .ok (.lastore, 1) := by decide +kernel
theorem dL_smoke_9 : decode cL_smoke 9 = .ok (.goto 6, 3) := by decide +kernel
theorem dL_smoke_12 : decode cL_smoke 12 = .ok (.astore_n 3, 1) := by decide +kernel
theorem dL_smoke_13 : decode cL_smoke 13 = .ok (.iconst 1, 1) := by decide +kernel
theorem dL_smoke_14 : decode cL_smoke 14 = .ok (.ireturn, 1) := by decide +kernel
theorem dL_smoke_15 : decode cL_smoke 15 = .ok (.iconst 0, 1) := by decide +kernel
theorem dL_smoke_16 : decode cL_smoke 16 = .ok (.ireturn, 1) := by decide +kernel
theorem dL_total_0 : decode cL_total 0 = .ok (.aload_n 2, 1) := by decide +kernel
theorem dL_total_1 : decode cL_total 1 = .ok (.iconst 0, 1) := by decide +kernel
theorem dL_total_2 : decode cL_total 2 = .ok (.aload_n 0, 1) := by decide +kernel
theorem dL_total_3 : decode cL_total 3 = .ok (.iload_n 1, 1) := by decide +kernel
theorem dL_total_4 : decode cL_total 4 = .ok (.invokevirtual 20, 3) := by decide +kernel
theorem dL_total_7 : decode cL_total 7 = .ok (.lastore, 1) := by decide +kernel
theorem dL_total_8 : decode cL_total 8 = .ok (.goto 6, 3) := by decide +kernel
theorem dL_total_11 : decode cL_total 11 = .ok (.astore_n 3, 1) := by decide +kernel
theorem dL_total_12 : decode cL_total 12 = .ok (.iconst 1, 1) := by decide +kernel
theorem dL_total_13 : decode cL_total 13 = .ok (.ireturn, 1) := by decide +kernel
theorem dL_total_14 : decode cL_total 14 = .ok (.iconst 0, 1) := by decide +kernel
theorem dL_total_15 : decode cL_total 15 = .ok (.ireturn, 1) := by decide +kernel
theorem dL_fan_0 : decode cL_fan 0 = .ok (.aload_n 2, 1) := by decide +kernel
theorem dL_fan_1 : decode cL_fan 1 = .ok (.iconst 0, 1) := by decide +kernel
theorem dL_fan_2 : decode cL_fan 2 = .ok (.aload_n 0, 1) := by decide +kernel
theorem dL_fan_3 : decode cL_fan 3 = .ok (.iload_n 1, 1) := by decide +kernel
theorem dL_fan_4 : decode cL_fan 4 = .ok (.invokevirtual 24, 3) := by decide +kernel
theorem dL_fan_7 : decode cL_fan 7 = .ok (.i2l, 1) := by decide +kernel
theorem dL_fan_8 : decode cL_fan 8 = .ok (.lastore, 1) := by decide +kernel
theorem dL_fan_9 : decode cL_fan 9 = .ok (.goto 9, 3) := by decide +kernel
theorem dL_fan_12 : decode cL_fan 12 = .ok (.astore_n 3, 1) := by decide +kernel
theorem dL_fan_13 : decode cL_fan 13 = .ok (.iconst 1, 1) := by decide +kernel
theorem dL_fan_14 : decode cL_fan 14 = .ok (.ireturn, 1) := by decide +kernel
theorem dL_fan_15 : decode cL_fan 15 = .ok (.astore_n 3, 1) := by decide +kernel
theorem dL_fan_16 : decode cL_fan 16 = .ok (.iconst 2, 1) := by decide +kernel
theorem dL_fan_17 : decode cL_fan 17 = .ok (.ireturn, 1) := by decide +kernel
theorem dL_fan_18 : decode cL_fan 18 = .ok (.iconst 0, 1) := by decide +kernel
theorem dL_fan_19 : decode cL_fan 19 = .ok (.ireturn, 1) := by decide +kernel
theorem dL_bay_0 : decode cL_bay 0 = .ok (.aload_n 2, 1) := by decide +kernel
theorem dL_bay_1 : decode cL_bay 1 = .ok (.iconst 0, 1) := by decide +kernel
theorem dL_bay_2 : decode cL_bay 2 = .ok (.aload_n 0, 1) := by decide +kernel
theorem dL_bay_3 : decode cL_bay 3 = .ok (.iload_n 1, 1) := by decide +kernel
theorem dL_bay_4 : decode cL_bay 4 = .ok (.invokevirtual 29, 3) := by decide +kernel
theorem dL_bay_7 : decode cL_bay 7 = .ok (.i2l, 1) := by decide +kernel
theorem dL_bay_8 : decode cL_bay 8 = .ok (.lastore, 1) := by decide +kernel
theorem dL_bay_9 : decode cL_bay 9 = .ok (.goto 6, 3) := by decide +kernel
theorem dL_bay_12 : decode cL_bay 12 = .ok (.astore_n 3, 1) := by decide +kernel
theorem dL_bay_13 : decode cL_bay 13 = .ok (.iconst 1, 1) := by decide +kernel
theorem dL_bay_14 : decode cL_bay 14 = .ok (.ireturn, 1) := by decide +kernel
theorem dL_bay_15 : decode cL_bay 15 = .ok (.iconst 0, 1) := by decide +kernel
theorem dL_bay_16 : decode cL_bay 16 = .ok (.ireturn, 1) := by decide +kernel
theorem dL_isRed_0 : decode cL_isRed 0 = .ok (.aload_n 3, 1) := by decide +kernel
theorem dL_isRed_1 : decode cL_isRed 1 = .ok (.iconst 0, 1) := by decide +kernel
theorem dL_isRed_2 : decode cL_isRed 2 = .ok (.aload_n 0, 1) := by decide +kernel
theorem dL_isRed_3 : decode cL_isRed 3 = .ok (.iload_n 1, 1) := by decide +kernel
theorem dL_isRed_4 : decode cL_isRed 4 = .ok (.iload_n 2, 1) := by decide +kernel
theorem dL_isRed_5 : decode cL_isRed 5 = .ok (.invokevirtual 32, 3) := by decide +kernel
theorem dL_isRed_8 : decode cL_isRed 8 = .ok (.ifCond .eq 7, 3) := by decide +kernel
theorem dL_isRed_11 : decode cL_isRed 11 = .ok (.lconst 1, 1) := by decide +kernel
theorem dL_isRed_12 : decode cL_isRed 12 = .ok (.goto 4, 3) := by decide +kernel
theorem dL_isRed_15 : decode cL_isRed 15 = .ok (.lconst 0, 1) := by decide +kernel
theorem dL_isRed_16 : decode cL_isRed 16 = .ok (.lastore, 1) := by decide +kernel
theorem dL_isRed_17 : decode cL_isRed 17 = .ok (.goto 11, 3) := by decide +kernel
theorem dL_isRed_20 : decode cL_isRed 20 = .ok (.astore 4, 2) := by decide +kernel
theorem dL_isRed_22 : decode cL_isRed 22 = .ok (.iconst 1, 1) := by decide +kernel
theorem dL_isRed_23 : decode cL_isRed 23 = .ok (.ireturn, 1) := by decide +kernel
theorem dL_isRed_24 : decode cL_isRed 24 = .ok (.astore 4, 2) := by decide +kernel
theorem dL_isRed_26 : decode cL_isRed 26 = .ok (.iconst 2, 1) := by decide +kernel
theorem dL_isRed_27 : decode cL_isRed 27 = .ok (.ireturn, 1) := by decide +kernel
theorem dL_isRed_28 : decode cL_isRed 28 = .ok (.iconst 0, 1) := by decide +kernel
theorem dL_isRed_29 : decode cL_isRed 29 = .ok (.ireturn, 1) := by decide +kernel
theorem dL_carSection_0 : decode cL_carSection 0 = .ok (.aload_n 2, 1) := by decide +kernel
theorem dL_carSection_1 : decode cL_carSection 1 = .ok (.iconst 0, 1) := by decide +kernel
theorem dL_carSection_2 : decode cL_carSection 2 = .ok (.aload_n 0, 1) := by decide +kernel
theorem dL_carSection_3 : decode cL_carSection 3 = .ok (.iload_n 1, 1) := by decide +kernel
theorem dL_carSection_4 : decode cL_carSection 4 = .ok (.invokevirtual 36, 3) := by decide +kernel
theorem dL_carSection_7 : decode cL_carSection 7 = .ok (.i2l, 1) := by decide +kernel
theorem dL_carSection_8 : decode cL_carSection 8 = .ok (.lastore, 1) := by decide +kernel
theorem dL_carSection_9 : decode cL_carSection 9 = .ok (.goto 6, 3) := by decide +kernel
theorem dL_carSection_12 : decode cL_carSection 12 = .ok (.astore_n 3, 1) := by decide +kernel
theorem dL_carSection_13 : decode cL_carSection 13 = .ok (.iconst 1, 1) := by decide +kernel
theorem dL_carSection_14 : decode cL_carSection 14 = .ok (.ireturn, 1) := by decide +kernel
theorem dL_carSection_15 : decode cL_carSection 15 = .ok (.iconst 0, 1) := by decide +kernel
theorem dL_carSection_16 : decode cL_carSection 16 = .ok (.ireturn, 1) := by decide +kernel
theorem dL_carDirection_0 : decode cL_carDirection 0 = .ok (.aload_n 2, 1) := by decide +kernel
theorem dL_carDirection_1 : decode cL_carDirection 1 = .ok (.iconst 0, 1) := by decide +kernel
theorem dL_carDirection_2 : decode cL_carDirection 2 = .ok (.aload_n 0, 1) := by decide +kernel
theorem dL_carDirection_3 : decode cL_carDirection 3 = .ok (.iload_n 1, 1) := by decide +kernel
theorem dL_carDirection_4 : decode cL_carDirection 4 = .ok (.invokevirtual 39, 3) := by decide +kernel
theorem dL_carDirection_7 : decode cL_carDirection 7 = .ok (.i2l, 1) := by decide +kernel
theorem dL_carDirection_8 : decode cL_carDirection 8 = .ok (.lastore, 1) := by decide +kernel
theorem dL_carDirection_9 : decode cL_carDirection 9 = .ok (.goto 6, 3) := by decide +kernel
theorem dL_carDirection_12 : decode cL_carDirection 12 = .ok (.astore_n 3, 1) := by decide +kernel
theorem dL_carDirection_13 : decode cL_carDirection 13 = .ok (.iconst 1, 1) := by decide +kernel
theorem dL_carDirection_14 : decode cL_carDirection 14 = .ok (.ireturn, 1) := by decide +kernel
theorem dL_carDirection_15 : decode cL_carDirection 15 = .ok (.iconst 0, 1) := by decide +kernel
theorem dL_carDirection_16 : decode cL_carDirection 16 = .ok (.ireturn, 1) := by decide +kernel
theorem dL_exposure_0 : decode cL_exposure 0 = .ok (.aload_n 2, 1) := by decide +kernel
theorem dL_exposure_1 : decode cL_exposure 1 = .ok (.iconst 0, 1) := by decide +kernel
theorem dL_exposure_2 : decode cL_exposure 2 = .ok (.aload_n 0, 1) := by decide +kernel
theorem dL_exposure_3 : decode cL_exposure 3 = .ok (.iload_n 1, 1) := by decide +kernel
theorem dL_exposure_4 : decode cL_exposure 4 = .ok (.invokevirtual 42, 3) := by decide +kernel
theorem dL_exposure_7 : decode cL_exposure 7 = .ok (.lastore, 1) := by decide +kernel
theorem dL_exposure_8 : decode cL_exposure 8 = .ok (.goto 6, 3) := by decide +kernel
theorem dL_exposure_11 : decode cL_exposure 11 = .ok (.astore_n 3, 1) := by decide +kernel
theorem dL_exposure_12 : decode cL_exposure 12 = .ok (.iconst 1, 1) := by decide +kernel
theorem dL_exposure_13 : decode cL_exposure 13 = .ok (.ireturn, 1) := by decide +kernel
theorem dL_exposure_14 : decode cL_exposure 14 = .ok (.iconst 0, 1) := by decide +kernel
theorem dL_exposure_15 : decode cL_exposure 15 = .ok (.ireturn, 1) := by decide +kernel
theorem dL_carsIn_0 : decode cL_carsIn 0 = .ok (.aload_n 3, 1) := by decide +kernel
theorem dL_carsIn_1 : decode cL_carsIn 1 = .ok (.iconst 0, 1) := by decide +kernel
theorem dL_carsIn_2 : decode cL_carsIn 2 = .ok (.aload_n 0, 1) := by decide +kernel
theorem dL_carsIn_3 : decode cL_carsIn 3 = .ok (.iload_n 1, 1) := by decide +kernel
theorem dL_carsIn_4 : decode cL_carsIn 4 = .ok (.iload_n 2, 1) := by decide +kernel
theorem dL_carsIn_5 : decode cL_carsIn 5 = .ok (.invokevirtual 45, 3) := by decide +kernel
theorem dL_carsIn_8 : decode cL_carsIn 8 = .ok (.i2l, 1) := by decide +kernel
theorem dL_carsIn_9 : decode cL_carsIn 9 = .ok (.lastore, 1) := by decide +kernel
theorem dL_carsIn_10 : decode cL_carsIn 10 = .ok (.goto 11, 3) := by decide +kernel
theorem dL_carsIn_13 : decode cL_carsIn 13 = .ok (.astore 4, 2) := by decide +kernel
theorem dL_carsIn_15 : decode cL_carsIn 15 = .ok (.iconst 1, 1) := by decide +kernel
theorem dL_carsIn_16 : decode cL_carsIn 16 = .ok (.ireturn, 1) := by decide +kernel
theorem dL_carsIn_17 : decode cL_carsIn 17 = .ok (.astore 4, 2) := by decide +kernel
theorem dL_carsIn_19 : decode cL_carsIn 19 = .ok (.iconst 2, 1) := by decide +kernel
theorem dL_carsIn_20 : decode cL_carsIn 20 = .ok (.ireturn, 1) := by decide +kernel
theorem dL_carsIn_21 : decode cL_carsIn 21 = .ok (.iconst 0, 1) := by decide +kernel
theorem dL_carsIn_22 : decode cL_carsIn 22 = .ok (.ireturn, 1) := by decide +kernel
theorem dL_clearingTime_0 : decode cL_clearingTime 0 = .ok (.aload_n 2, 1) := by decide +kernel
theorem dL_clearingTime_1 : decode cL_clearingTime 1 = .ok (.iconst 0, 1) := by decide +kernel
theorem dL_clearingTime_2 : decode cL_clearingTime 2 = .ok (.aload_n 0, 1) := by decide +kernel
theorem dL_clearingTime_3 : decode cL_clearingTime 3 = .ok (.iload_n 1, 1) := by decide +kernel
theorem dL_clearingTime_4 : decode cL_clearingTime 4 = .ok (.invokevirtual 49, 3) := by decide +kernel
theorem dL_clearingTime_7 : decode cL_clearingTime 7 = .ok (.i2l, 1) := by decide +kernel
theorem dL_clearingTime_8 : decode cL_clearingTime 8 = .ok (.lastore, 1) := by decide +kernel
theorem dL_clearingTime_9 : decode cL_clearingTime 9 = .ok (.goto 6, 3) := by decide +kernel
theorem dL_clearingTime_12 : decode cL_clearingTime 12 = .ok (.astore_n 3, 1) := by decide +kernel
theorem dL_clearingTime_13 : decode cL_clearingTime 13 = .ok (.iconst 1, 1) := by decide +kernel
theorem dL_clearingTime_14 : decode cL_clearingTime 14 = .ok (.ireturn, 1) := by decide +kernel
theorem dL_clearingTime_15 : decode cL_clearingTime 15 = .ok (.iconst 0, 1) := by decide +kernel
theorem dL_clearingTime_16 : decode cL_clearingTime 16 = .ok (.ireturn, 1) := by decide +kernel
theorem dL_exposureWith_0 : decode cL_exposureWith 0 = .ok (.aload_n 3, 1) := by decide +kernel
theorem dL_exposureWith_1 : decode cL_exposureWith 1 = .ok (.iconst 0, 1) := by decide +kernel
theorem dL_exposureWith_2 : decode cL_exposureWith 2 = .ok (.aload_n 0, 1) := by decide +kernel
theorem dL_exposureWith_3 : decode cL_exposureWith 3 = .ok (.iload_n 1, 1) := by decide +kernel
theorem dL_exposureWith_4 : decode cL_exposureWith 4 = .ok (.iload_n 2, 1) := by decide +kernel
theorem dL_exposureWith_5 : decode cL_exposureWith 5 = .ok (.invokevirtual 52, 3) := by decide +kernel
theorem dL_exposureWith_8 : decode cL_exposureWith 8 = .ok (.lastore, 1) := by decide +kernel
theorem dL_exposureWith_9 : decode cL_exposureWith 9 = .ok (.goto 7, 3) := by decide +kernel
theorem dL_exposureWith_12 : decode cL_exposureWith 12 = .ok (.astore 4, 2) := by decide +kernel
theorem dL_exposureWith_14 : decode cL_exposureWith 14 = .ok (.iconst 1, 1) := by decide +kernel
theorem dL_exposureWith_15 : decode cL_exposureWith 15 = .ok (.ireturn, 1) := by decide +kernel
theorem dL_exposureWith_16 : decode cL_exposureWith 16 = .ok (.iconst 0, 1) := by decide +kernel
theorem dL_exposureWith_17 : decode cL_exposureWith 17 = .ok (.ireturn, 1) := by decide +kernel
theorem dL_bestSetting_0 : decode cL_bestSetting 0 = .ok (.aload_n 2, 1) := by decide +kernel
theorem dL_bestSetting_1 : decode cL_bestSetting 1 = .ok (.iconst 0, 1) := by decide +kernel
theorem dL_bestSetting_2 : decode cL_bestSetting 2 = .ok (.aload_n 0, 1) := by decide +kernel
theorem dL_bestSetting_3 : decode cL_bestSetting 3 = .ok (.iload_n 1, 1) := by decide +kernel
theorem dL_bestSetting_4 : decode cL_bestSetting 4 = .ok (.invokevirtual 56, 3) := by decide +kernel
theorem dL_bestSetting_7 : decode cL_bestSetting 7 = .ok (.i2l, 1) := by decide +kernel
theorem dL_bestSetting_8 : decode cL_bestSetting 8 = .ok (.lastore, 1) := by decide +kernel
theorem dL_bestSetting_9 : decode cL_bestSetting 9 = .ok (.goto 6, 3) := by decide +kernel
theorem dL_bestSetting_12 : decode cL_bestSetting 12 = .ok (.astore_n 3, 1) := by decide +kernel
theorem dL_bestSetting_13 : decode cL_bestSetting 13 = .ok (.iconst 1, 1) := by decide +kernel
theorem dL_bestSetting_14 : decode cL_bestSetting 14 = .ok (.ireturn, 1) := by decide +kernel
theorem dL_bestSetting_15 : decode cL_bestSetting 15 = .ok (.iconst 0, 1) := by decide +kernel
theorem dL_bestSetting_16 : decode cL_bestSetting 16 = .ok (.ireturn, 1) := by decide +kernel
theorem dL_run_0 : decode cL_run 0 = .ok (.aload_n 2, 1) := by decide +kernel
theorem dL_run_1 : decode cL_run 1 = .ok (.iconst 0, 1) := by decide +kernel
theorem dL_run_2 : decode cL_run 2 = .ok (.aload_n 0, 1) := by decide +kernel
theorem dL_run_3 : decode cL_run 3 = .ok (.iload_n 1, 1) := by decide +kernel
theorem dL_run_4 : decode cL_run 4 = .ok (.invokevirtual 59, 3) := by decide +kernel
theorem dL_run_7 : decode cL_run 7 = .ok (.i2l, 1) := by decide +kernel
theorem dL_run_8 : decode cL_run 8 = .ok (.lastore, 1) := by decide +kernel
theorem dL_run_9 : decode cL_run 9 = .ok (.goto 9, 3) := by decide +kernel
theorem dL_run_12 : decode cL_run 12 = .ok (.astore_n 3, 1) := by decide +kernel
theorem dL_run_13 : decode cL_run 13 = .ok (.iconst 1, 1) := by decide +kernel
theorem dL_run_14 : decode cL_run 14 = .ok (.ireturn, 1) := by decide +kernel
theorem dL_run_15 : decode cL_run 15 = .ok (.astore_n 3, 1) := by decide +kernel
theorem dL_run_16 : decode cL_run 16 = .ok (.iconst 2, 1) := by decide +kernel
theorem dL_run_17 : decode cL_run 17 = .ok (.ireturn, 1) := by decide +kernel
theorem dL_run_18 : decode cL_run 18 = .ok (.iconst 0, 1) := by decide +kernel
theorem dL_run_19 : decode cL_run 19 = .ok (.ireturn, 1) := by decide +kernel
theorem dL_setFan_0 : decode cL_setFan 0 = .ok (.aload_n 3, 1) := by decide +kernel
theorem dL_setFan_1 : decode cL_setFan 1 = .ok (.iconst 0, 1) := by decide +kernel
theorem dL_setFan_2 : decode cL_setFan 2 = .ok (.aload_n 0, 1) := by decide +kernel
theorem dL_setFan_3 : decode cL_setFan 3 = .ok (.iload_n 1, 1) := by decide +kernel
theorem dL_setFan_4 : decode cL_setFan 4 = .ok (.iload_n 2, 1) := by decide +kernel
theorem dL_setFan_5 : decode cL_setFan 5 = .ok (.invokevirtual 62, 3) := by decide +kernel
theorem dL_setFan_8 : decode cL_setFan 8 = .ok (.i2l, 1) := by decide +kernel
theorem dL_setFan_9 : decode cL_setFan 9 = .ok (.lastore, 1) := by decide +kernel
theorem dL_setFan_10 : decode cL_setFan 10 = .ok (.goto 15, 3) := by decide +kernel
theorem dL_setFan_13 : decode cL_setFan 13 = .ok (.astore 4, 2) := by decide +kernel
theorem dL_setFan_15 : decode cL_setFan 15 = .ok (.iconst 1, 1) := by decide +kernel
theorem dL_setFan_16 : decode cL_setFan 16 = .ok (.ireturn, 1) := by decide +kernel
theorem dL_setFan_17 : decode cL_setFan 17 = .ok (.astore 4, 2) := by decide +kernel
theorem dL_setFan_19 : decode cL_setFan 19 = .ok (.iconst 2, 1) := by decide +kernel
theorem dL_setFan_20 : decode cL_setFan 20 = .ok (.ireturn, 1) := by decide +kernel
theorem dL_setFan_21 : decode cL_setFan 21 = .ok (.astore 4, 2) := by decide +kernel
theorem dL_setFan_23 : decode cL_setFan 23 = .ok (.iconst 3, 1) := by decide +kernel
theorem dL_setFan_24 : decode cL_setFan 24 = .ok (.ireturn, 1) := by decide +kernel
theorem dL_setFan_25 : decode cL_setFan 25 = .ok (.iconst 0, 1) := by decide +kernel
theorem dL_setFan_26 : decode cL_setFan 26 = .ok (.ireturn, 1) := by decide +kernel
theorem dL_setFire_0 : decode cL_setFire 0 = .ok (.aload_n 2, 1) := by decide +kernel
theorem dL_setFire_1 : decode cL_setFire 1 = .ok (.iconst 0, 1) := by decide +kernel
theorem dL_setFire_2 : decode cL_setFire 2 = .ok (.aload_n 0, 1) := by decide +kernel
theorem dL_setFire_3 : decode cL_setFire 3 = .ok (.iload_n 1, 1) := by decide +kernel
theorem dL_setFire_4 : decode cL_setFire 4 = .ok (.invokevirtual 65, 3) := by decide +kernel
theorem dL_setFire_7 : decode cL_setFire 7 = .ok (.i2l, 1) := by decide +kernel
theorem dL_setFire_8 : decode cL_setFire 8 = .ok (.lastore, 1) := by decide +kernel
theorem dL_setFire_9 : decode cL_setFire 9 = .ok (.goto 6, 3) := by decide +kernel
theorem dL_setFire_12 : decode cL_setFire 12 = .ok (.astore_n 3, 1) := by decide +kernel
theorem dL_setFire_13 : decode cL_setFire 13 = .ok (.iconst 1, 1) := by decide +kernel
theorem dL_setFire_14 : decode cL_setFire 14 = .ok (.ireturn, 1) := by decide +kernel
theorem dL_setFire_15 : decode cL_setFire 15 = .ok (.iconst 0, 1) := by decide +kernel
theorem dL_setFire_16 : decode cL_setFire 16 = .ok (.ireturn, 1) := by decide +kernel
theorem dL_setSignal_0 : decode cL_setSignal 0 = .ok (.aload 4, 2) := by decide +kernel
theorem dL_setSignal_2 : decode cL_setSignal 2 = .ok (.iconst 0, 1) := by decide +kernel
theorem dL_setSignal_3 : decode cL_setSignal 3 = .ok (.aload_n 0, 1) := by decide +kernel
theorem dL_setSignal_4 : decode cL_setSignal 4 = .ok (.iload_n 1, 1) := by decide +kernel
theorem dL_setSignal_5 : decode cL_setSignal 5 = .ok (.iload_n 2, 1) := by decide +kernel
theorem dL_setSignal_6 : decode cL_setSignal 6 = .ok (.iload_n 3, 1) := by decide +kernel
theorem dL_setSignal_7 : decode cL_setSignal 7 = .ok (.invokevirtual 68, 3) := by decide +kernel
theorem dL_setSignal_10 : decode cL_setSignal 10 = .ok (.ifCond .eq 7, 3) := by decide +kernel
theorem dL_setSignal_13 : decode cL_setSignal 13 = .ok (.lconst 1, 1) := by decide +kernel
theorem dL_setSignal_14 : decode cL_setSignal 14 = .ok (.goto 4, 3) := by decide +kernel
theorem dL_setSignal_17 : decode cL_setSignal 17 = .ok (.lconst 0, 1) := by decide +kernel
theorem dL_setSignal_18 : decode cL_setSignal 18 = .ok (.lastore, 1) := by decide +kernel
theorem dL_setSignal_19 : decode cL_setSignal 19 = .ok (.goto 11, 3) := by decide +kernel
theorem dL_setSignal_22 : decode cL_setSignal 22 = .ok (.astore 5, 2) := by decide +kernel
theorem dL_setSignal_24 : decode cL_setSignal 24 = .ok (.iconst 1, 1) := by decide +kernel
theorem dL_setSignal_25 : decode cL_setSignal 25 = .ok (.ireturn, 1) := by decide +kernel
theorem dL_setSignal_26 : decode cL_setSignal 26 = .ok (.astore 5, 2) := by decide +kernel
theorem dL_setSignal_28 : decode cL_setSignal 28 = .ok (.iconst 2, 1) := by decide +kernel
theorem dL_setSignal_29 : decode cL_setSignal 29 = .ok (.ireturn, 1) := by decide +kernel
theorem dL_setSignal_30 : decode cL_setSignal 30 = .ok (.iconst 0, 1) := by decide +kernel
theorem dL_setSignal_31 : decode cL_setSignal 31 = .ok (.ireturn, 1) := by decide +kernel
theorem dL_setBay_0 : decode cL_setBay 0 = .ok (.aload_n 3, 1) := by decide +kernel
theorem dL_setBay_1 : decode cL_setBay 1 = .ok (.iconst 0, 1) := by decide +kernel
theorem dL_setBay_2 : decode cL_setBay 2 = .ok (.aload_n 0, 1) := by decide +kernel
theorem dL_setBay_3 : decode cL_setBay 3 = .ok (.iload_n 1, 1) := by decide +kernel
theorem dL_setBay_4 : decode cL_setBay 4 = .ok (.iload_n 2, 1) := by decide +kernel
theorem dL_setBay_5 : decode cL_setBay 5 = .ok (.invokevirtual 72, 3) := by decide +kernel
theorem dL_setBay_8 : decode cL_setBay 8 = .ok (.ifCond .eq 7, 3) := by decide +kernel
theorem dL_setBay_11 : decode cL_setBay 11 = .ok (.lconst 1, 1) := by decide +kernel
theorem dL_setBay_12 : decode cL_setBay 12 = .ok (.goto 4, 3) := by decide +kernel
theorem dL_setBay_15 : decode cL_setBay 15 = .ok (.lconst 0, 1) := by decide +kernel
theorem dL_setBay_16 : decode cL_setBay 16 = .ok (.lastore, 1) := by decide +kernel
theorem dL_setBay_17 : decode cL_setBay 17 = .ok (.goto 11, 3) := by decide +kernel
theorem dL_setBay_20 : decode cL_setBay 20 = .ok (.astore 4, 2) := by decide +kernel
theorem dL_setBay_22 : decode cL_setBay 22 = .ok (.iconst 1, 1) := by decide +kernel
theorem dL_setBay_23 : decode cL_setBay 23 = .ok (.ireturn, 1) := by decide +kernel
theorem dL_setBay_24 : decode cL_setBay 24 = .ok (.astore 4, 2) := by decide +kernel
theorem dL_setBay_26 : decode cL_setBay 26 = .ok (.iconst 2, 1) := by decide +kernel
theorem dL_setBay_27 : decode cL_setBay 27 = .ok (.ireturn, 1) := by decide +kernel
theorem dL_setBay_28 : decode cL_setBay 28 = .ok (.iconst 0, 1) := by decide +kernel
theorem dL_setBay_29 : decode cL_setBay 29 = .ok (.ireturn, 1) := by decide +kernel
theorem dL_law_0 : decode cL_law 0 = .ok (.new 8, 3) := by decide +kernel
theorem dL_law_3 : decode cL_law 3 = .ok (.dup, 1) := by decide +kernel
theorem dL_law_4 : decode cL_law 4 = .ok (.invokespecial 76, 3) := by decide +kernel
theorem dL_law_7 : decode cL_law 7 = .ok (.astore_n 1, 1) := by decide +kernel
theorem dL_law_8 : decode cL_law 8 = .ok (.new 77, 3) := by decide +kernel
theorem dL_law_11 : decode cL_law 11 = .ok (.dup, 1) := by decide +kernel
theorem dL_law_12 : decode cL_law 12 = .ok (.invokespecial 79, 3) := by decide +kernel
theorem dL_law_15 : decode cL_law 15 = .ok (.astore_n 2, 1) := by decide +kernel
theorem dL_law_16 : decode cL_law 16 = .ok (.iconst 1, 1) := by decide +kernel
theorem dL_law_17 : decode cL_law 17 = .ok (.newarray .long, 2) := by decide +kernel
theorem dL_law_19 : decode cL_law 19 = .ok (.astore_n 3, 1) := by decide +kernel
theorem dL_law_20 : decode cL_law 20 = .ok (.iconst 0, 1) := by decide +kernel
theorem dL_law_21 : decode cL_law 21 = .ok (.istore 4, 2) := by decide +kernel
theorem dL_law_23 : decode cL_law 23 = .ok (.iload 4, 2) := by decide +kernel
theorem dL_law_25 : decode cL_law 25 = .ok (.aload_n 0, 1) := by decide +kernel
theorem dL_law_26 : decode cL_law 26 = .ok (.arraylength, 1) := by decide +kernel
theorem dL_law_27 : decode cL_law 27 = .ok (.bipush 6, 2) := by decide +kernel
theorem dL_law_29 : decode cL_law 29 = .ok (.isub, 1) := by decide +kernel
theorem dL_law_30 : decode cL_law 30 = .ok (.if_icmp .gt 1528, 3) := by decide +kernel
theorem dL_law_33 : decode cL_law 33 = .ok (.aload_n 0, 1) := by decide +kernel
theorem dL_law_34 : decode cL_law 34 = .ok (.iload 4, 2) := by decide +kernel
theorem dL_law_36 : decode cL_law 36 = .ok (.iaload, 1) := by decide +kernel
theorem dL_law_37 : decode cL_law 37 = .ok (.bipush 31, 2) := by decide +kernel
theorem dL_law_39 : decode cL_law 39 = .ok (.iand, 1) := by decide +kernel
theorem dL_law_40 : decode cL_law 40 = .ok (.tableswitch 1512 0 30 #[140, 213, 269, 282, 295, 308, 321, 334, 347, 360, 416, 471, 527, 583, 658, 714, 770, 825, 893, 906, 962, 975, 988, 1055, 1111, 1167, 1235, 1291, 1394, 1485, 1498], 140) := by decide +kernel
theorem dL_law_180 : decode cL_law 180 = .ok (.aload_n 1, 1) := by decide +kernel
theorem dL_law_181 : decode cL_law 181 = .ok (.aload_n 0, 1) := by decide +kernel
theorem dL_law_182 : decode cL_law 182 = .ok (.iload 4, 2) := by decide +kernel
theorem dL_law_184 : decode cL_law 184 = .ok (.iconst 1, 1) := by decide +kernel
theorem dL_law_185 : decode cL_law 185 = .ok (.iadd, 1) := by decide +kernel
theorem dL_law_186 : decode cL_law 186 = .ok (.iaload, 1) := by decide +kernel
theorem dL_law_187 : decode cL_law 187 = .ok (.aload_n 0, 1) := by decide +kernel
theorem dL_law_188 : decode cL_law 188 = .ok (.iload 4, 2) := by decide +kernel
theorem dL_law_190 : decode cL_law 190 = .ok (.iconst 2, 1) := by decide +kernel
theorem dL_law_191 : decode cL_law 191 = .ok (.iadd, 1) := by decide +kernel
theorem dL_law_192 : decode cL_law 192 = .ok (.iaload, 1) := by decide +kernel
theorem dL_law_193 : decode cL_law 193 = .ok (.aload_n 0, 1) := by decide +kernel
theorem dL_law_194 : decode cL_law 194 = .ok (.iload 4, 2) := by decide +kernel
theorem dL_law_196 : decode cL_law 196 = .ok (.iconst 3, 1) := by decide +kernel
theorem dL_law_197 : decode cL_law 197 = .ok (.iadd, 1) := by decide +kernel
theorem dL_law_198 : decode cL_law 198 = .ok (.iaload, 1) := by decide +kernel
theorem dL_law_199 : decode cL_law 199 = .ok (.aload_n 0, 1) := by decide +kernel
theorem dL_law_200 : decode cL_law 200 = .ok (.iload 4, 2) := by decide +kernel
theorem dL_law_202 : decode cL_law 202 = .ok (.iconst 4, 1) := by decide +kernel
theorem dL_law_203 : decode cL_law 203 = .ok (.iadd, 1) := by decide +kernel
theorem dL_law_204 : decode cL_law 204 = .ok (.iaload, 1) := by decide +kernel
theorem dL_law_205 : decode cL_law 205 = .ok (.aload_n 0, 1) := by decide +kernel
theorem dL_law_206 : decode cL_law 206 = .ok (.iload 4, 2) := by decide +kernel
theorem dL_law_208 : decode cL_law 208 = .ok (.iconst 5, 1) := by decide +kernel
theorem dL_law_209 : decode cL_law 209 = .ok (.iadd, 1) := by decide +kernel
theorem dL_law_210 : decode cL_law 210 = .ok (.iaload, 1) := by decide +kernel
theorem dL_law_211 : decode cL_law 211 = .ok (.invokevirtual 80, 3) := by decide +kernel
theorem dL_law_214 : decode cL_law 214 = .ok (.aload_n 2, 1) := by decide +kernel
theorem dL_law_215 : decode cL_law 215 = .ok (.aload_n 0, 1) := by decide +kernel
theorem dL_law_216 : decode cL_law 216 = .ok (.iload 4, 2) := by decide +kernel
theorem dL_law_218 : decode cL_law 218 = .ok (.iconst 1, 1) := by decide +kernel
theorem dL_law_219 : decode cL_law 219 = .ok (.iadd, 1) := by decide +kernel
theorem dL_law_220 : decode cL_law 220 = .ok (.iaload, 1) := by decide +kernel
theorem dL_law_221 : decode cL_law 221 = .ok (.aload_n 0, 1) := by decide +kernel
theorem dL_law_222 : decode cL_law 222 = .ok (.iload 4, 2) := by decide +kernel
theorem dL_law_224 : decode cL_law 224 = .ok (.iconst 2, 1) := by decide +kernel
theorem dL_law_225 : decode cL_law 225 = .ok (.iadd, 1) := by decide +kernel
theorem dL_law_226 : decode cL_law 226 = .ok (.iaload, 1) := by decide +kernel
theorem dL_law_227 : decode cL_law 227 = .ok (.aload_n 0, 1) := by decide +kernel
theorem dL_law_228 : decode cL_law 228 = .ok (.iload 4, 2) := by decide +kernel
theorem dL_law_230 : decode cL_law 230 = .ok (.iconst 3, 1) := by decide +kernel
theorem dL_law_231 : decode cL_law 231 = .ok (.iadd, 1) := by decide +kernel
theorem dL_law_232 : decode cL_law 232 = .ok (.iaload, 1) := by decide +kernel
theorem dL_law_233 : decode cL_law 233 = .ok (.aload_n 0, 1) := by decide +kernel
theorem dL_law_234 : decode cL_law 234 = .ok (.iload 4, 2) := by decide +kernel
theorem dL_law_236 : decode cL_law 236 = .ok (.iconst 4, 1) := by decide +kernel
theorem dL_law_237 : decode cL_law 237 = .ok (.iadd, 1) := by decide +kernel
theorem dL_law_238 : decode cL_law 238 = .ok (.iaload, 1) := by decide +kernel
theorem dL_law_239 : decode cL_law 239 = .ok (.aload_n 0, 1) := by decide +kernel
theorem dL_law_240 : decode cL_law 240 = .ok (.iload 4, 2) := by decide +kernel
theorem dL_law_242 : decode cL_law 242 = .ok (.iconst 5, 1) := by decide +kernel
theorem dL_law_243 : decode cL_law 243 = .ok (.iadd, 1) := by decide +kernel
theorem dL_law_244 : decode cL_law 244 = .ok (.iaload, 1) := by decide +kernel
theorem dL_law_245 : decode cL_law 245 = .ok (.invokevirtual 84, 3) := by decide +kernel
theorem dL_law_248 : decode cL_law 248 = .ok (.if_icmp .eq 1304, 3) := by decide +kernel
theorem dL_law_251 : decode cL_law 251 = .ok (.iconst 0, 1) := by decide +kernel
theorem dL_law_252 : decode cL_law 252 = .ok (.ireturn, 1) := by decide +kernel
theorem dL_law_253 : decode cL_law 253 = .ok (.aload_n 1, 1) := by decide +kernel
theorem dL_law_254 : decode cL_law 254 = .ok (.aload_n 0, 1) := by decide +kernel
theorem dL_law_255 : decode cL_law 255 = .ok (.iload 4, 2) := by decide +kernel
theorem dL_law_257 : decode cL_law 257 = .ok (.iconst 1, 1) := by decide +kernel
theorem dL_law_258 : decode cL_law 258 = .ok (.iadd, 1) := by decide +kernel
theorem dL_law_259 : decode cL_law 259 = .ok (.iaload, 1) := by decide +kernel
theorem dL_law_260 : decode cL_law 260 = .ok (.aload_n 3, 1) := by decide +kernel
theorem dL_law_261 : decode cL_law 261 = .ok (.invokestatic 85, 3) := by decide +kernel
theorem dL_law_264 : decode cL_law 264 = .ok (.istore 5, 2) := by decide +kernel
theorem dL_law_266 : decode cL_law 266 = .ok (.aload_n 2, 1) := by decide +kernel
theorem dL_law_267 : decode cL_law 267 = .ok (.aload_n 0, 1) := by decide +kernel
theorem dL_law_268 : decode cL_law 268 = .ok (.iload 4, 2) := by decide +kernel
theorem dL_law_270 : decode cL_law 270 = .ok (.iconst 1, 1) := by decide +kernel
theorem dL_law_271 : decode cL_law 271 = .ok (.iadd, 1) := by decide +kernel
theorem dL_law_272 : decode cL_law 272 = .ok (.iaload, 1) := by decide +kernel
theorem dL_law_273 : decode cL_law 273 = .ok (.invokevirtual 90, 3) := by decide +kernel
theorem dL_law_276 : decode cL_law 276 = .ok (.istore 6, 2) := by decide +kernel
theorem dL_law_278 : decode cL_law 278 = .ok (.aload_n 2, 1) := by decide +kernel
theorem dL_law_279 : decode cL_law 279 = .ok (.invokevirtual 91, 3) := by decide +kernel
theorem dL_law_282 : decode cL_law 282 = .ok (.iload 5, 2) := by decide +kernel
theorem dL_law_284 : decode cL_law 284 = .ok (.if_icmp .eq 5, 3) := by decide +kernel
theorem dL_law_287 : decode cL_law 287 = .ok (.iconst 0, 1) := by decide +kernel
theorem dL_law_288 : decode cL_law 288 = .ok (.ireturn, 1) := by decide +kernel
theorem dL_law_289 : decode cL_law 289 = .ok (.iload 5, 2) := by decide +kernel
theorem dL_law_291 : decode cL_law 291 = .ok (.ifCond .ne 15, 3) := by decide +kernel
theorem dL_law_294 : decode cL_law 294 = .ok (.aload_n 3, 1) := by decide +kernel
theorem dL_law_295 : decode cL_law 295 = .ok (.iconst 0, 1) := by decide +kernel
theorem dL_law_296 : decode cL_law 296 = .ok (.laload, 1) := by decide +kernel
theorem dL_law_297 : decode cL_law 297 = .ok (.iload 6, 2) := by decide +kernel
theorem dL_law_299 : decode cL_law 299 = .ok (.i2l, 1) := by decide +kernel
theorem dL_law_300 : decode cL_law 300 = .ok (.lcmp, 1) := by decide +kernel
theorem dL_law_301 : decode cL_law 301 = .ok (.ifCond .eq 5, 3) := by decide +kernel
theorem dL_law_304 : decode cL_law 304 = .ok (.iconst 0, 1) := by decide +kernel
theorem dL_law_305 : decode cL_law 305 = .ok (.ireturn, 1) := by decide +kernel
theorem dL_law_306 : decode cL_law 306 = .ok (.goto 1246, 3) := by decide +kernel
theorem dL_law_309 : decode cL_law 309 = .ok (.aload_n 1, 1) := by decide +kernel
theorem dL_law_310 : decode cL_law 310 = .ok (.invokevirtual 95, 3) := by decide +kernel
theorem dL_law_313 : decode cL_law 313 = .ok (.aload_n 2, 1) := by decide +kernel
theorem dL_law_314 : decode cL_law 314 = .ok (.invokevirtual 98, 3) := by decide +kernel
theorem dL_law_317 : decode cL_law 317 = .ok (.if_icmp .eq 1235, 3) := by decide +kernel
theorem dL_law_320 : decode cL_law 320 = .ok (.iconst 0, 1) := by decide +kernel
theorem dL_law_321 : decode cL_law 321 = .ok (.ireturn, 1) := by decide +kernel
theorem dL_law_322 : decode cL_law 322 = .ok (.aload_n 1, 1) := by decide +kernel
theorem dL_law_323 : decode cL_law 323 = .ok (.invokevirtual 99, 3) := by decide +kernel
theorem dL_law_326 : decode cL_law 326 = .ok (.aload_n 2, 1) := by decide +kernel
theorem dL_law_327 : decode cL_law 327 = .ok (.invokevirtual 102, 3) := by decide +kernel
theorem dL_law_330 : decode cL_law 330 = .ok (.if_icmp .eq 1222, 3) := by decide +kernel
theorem dL_law_333 : decode cL_law 333 = .ok (.iconst 0, 1) := by decide +kernel
theorem dL_law_334 : decode cL_law 334 = .ok (.ireturn, 1) := by decide +kernel
theorem dL_law_335 : decode cL_law 335 = .ok (.aload_n 1, 1) := by decide +kernel
theorem dL_law_336 : decode cL_law 336 = .ok (.invokevirtual 103, 3) := by decide +kernel
theorem dL_law_339 : decode cL_law 339 = .ok (.aload_n 2, 1) := by decide +kernel
theorem dL_law_340 : decode cL_law 340 = .ok (.invokevirtual 106, 3) := by decide +kernel
theorem dL_law_343 : decode cL_law 343 = .ok (.if_icmp .eq 1209, 3) := by decide +kernel
theorem dL_law_346 : decode cL_law 346 = .ok (.iconst 0, 1) := by decide +kernel
theorem dL_law_347 : decode cL_law 347 = .ok (.ireturn, 1) := by decide +kernel
theorem dL_law_348 : decode cL_law 348 = .ok (.aload_n 1, 1) := by decide +kernel
theorem dL_law_349 : decode cL_law 349 = .ok (.invokevirtual 107, 3) := by decide +kernel
theorem dL_law_352 : decode cL_law 352 = .ok (.aload_n 2, 1) := by decide +kernel
theorem dL_law_353 : decode cL_law 353 = .ok (.invokevirtual 110, 3) := by decide +kernel
theorem dL_law_356 : decode cL_law 356 = .ok (.if_icmp .eq 1196, 3) := by decide +kernel
theorem dL_law_359 : decode cL_law 359 = .ok (.iconst 0, 1) := by decide +kernel
theorem dL_law_360 : decode cL_law 360 = .ok (.ireturn, 1) := by decide +kernel
theorem dL_law_361 : decode cL_law 361 = .ok (.aload_n 1, 1) := by decide +kernel
theorem dL_law_362 : decode cL_law 362 = .ok (.invokevirtual 111, 3) := by decide +kernel
theorem dL_law_365 : decode cL_law 365 = .ok (.aload_n 2, 1) := by decide +kernel
theorem dL_law_366 : decode cL_law 366 = .ok (.invokevirtual 114, 3) := by decide +kernel
theorem dL_law_369 : decode cL_law 369 = .ok (.if_icmp .eq 1183, 3) := by decide +kernel
theorem dL_law_372 : decode cL_law 372 = .ok (.iconst 0, 1) := by decide +kernel
theorem dL_law_373 : decode cL_law 373 = .ok (.ireturn, 1) := by decide +kernel
theorem dL_law_374 : decode cL_law 374 = .ok (.aload_n 1, 1) := by decide +kernel
theorem dL_law_375 : decode cL_law 375 = .ok (.invokevirtual 115, 3) := by decide +kernel
theorem dL_law_378 : decode cL_law 378 = .ok (.aload_n 2, 1) := by decide +kernel
theorem dL_law_379 : decode cL_law 379 = .ok (.invokevirtual 118, 3) := by decide +kernel
theorem dL_law_382 : decode cL_law 382 = .ok (.if_icmp .eq 1170, 3) := by decide +kernel
theorem dL_law_385 : decode cL_law 385 = .ok (.iconst 0, 1) := by decide +kernel
theorem dL_law_386 : decode cL_law 386 = .ok (.ireturn, 1) := by decide +kernel
theorem dL_law_387 : decode cL_law 387 = .ok (.aload_n 1, 1) := by decide +kernel
theorem dL_law_388 : decode cL_law 388 = .ok (.invokevirtual 119, 3) := by decide +kernel
theorem dL_law_391 : decode cL_law 391 = .ok (.aload_n 2, 1) := by decide +kernel
theorem dL_law_392 : decode cL_law 392 = .ok (.invokevirtual 122, 3) := by decide +kernel
theorem dL_law_395 : decode cL_law 395 = .ok (.if_icmp .eq 1157, 3) := by decide +kernel
theorem dL_law_398 : decode cL_law 398 = .ok (.iconst 0, 1) := by decide +kernel
theorem dL_law_399 : decode cL_law 399 = .ok (.ireturn, 1) := by decide +kernel
theorem dL_law_400 : decode cL_law 400 = .ok (.aload_n 1, 1) := by decide +kernel
theorem dL_law_401 : decode cL_law 401 = .ok (.aload_n 0, 1) := by decide +kernel
theorem dL_law_402 : decode cL_law 402 = .ok (.iload 4, 2) := by decide +kernel
theorem dL_law_404 : decode cL_law 404 = .ok (.iconst 1, 1) := by decide +kernel
theorem dL_law_405 : decode cL_law 405 = .ok (.iadd, 1) := by decide +kernel
theorem dL_law_406 : decode cL_law 406 = .ok (.iaload, 1) := by decide +kernel
theorem dL_law_407 : decode cL_law 407 = .ok (.aload_n 3, 1) := by decide +kernel
theorem dL_law_408 : decode cL_law 408 = .ok (.invokestatic 123, 3) := by decide +kernel
theorem dL_law_411 : decode cL_law 411 = .ok (.istore 5, 2) := by decide +kernel
theorem dL_law_413 : decode cL_law 413 = .ok (.aload_n 2, 1) := by decide +kernel
theorem dL_law_414 : decode cL_law 414 = .ok (.aload_n 0, 1) := by decide +kernel
theorem dL_law_415 : decode cL_law 415 = .ok (.iload 4, 2) := by decide +kernel
theorem dL_law_417 : decode cL_law 417 = .ok (.iconst 1, 1) := by decide +kernel
theorem dL_law_418 : decode cL_law 418 = .ok (.iadd, 1) := by decide +kernel
theorem dL_law_419 : decode cL_law 419 = .ok (.iaload, 1) := by decide +kernel
theorem dL_law_420 : decode cL_law 420 = .ok (.invokevirtual 125, 3) := by decide +kernel
theorem dL_law_423 : decode cL_law 423 = .ok (.istore 6, 2) := by decide +kernel
theorem dL_law_425 : decode cL_law 425 = .ok (.aload_n 2, 1) := by decide +kernel
theorem dL_law_426 : decode cL_law 426 = .ok (.invokevirtual 91, 3) := by decide +kernel
theorem dL_law_429 : decode cL_law 429 = .ok (.iload 5, 2) := by decide +kernel
theorem dL_law_431 : decode cL_law 431 = .ok (.if_icmp .eq 5, 3) := by decide +kernel
theorem dL_law_434 : decode cL_law 434 = .ok (.iconst 0, 1) := by decide +kernel
theorem dL_law_435 : decode cL_law 435 = .ok (.ireturn, 1) := by decide +kernel
theorem dL_law_436 : decode cL_law 436 = .ok (.iload 5, 2) := by decide +kernel
theorem dL_law_438 : decode cL_law 438 = .ok (.ifCond .ne 15, 3) := by decide +kernel
theorem dL_law_441 : decode cL_law 441 = .ok (.aload_n 3, 1) := by decide +kernel
theorem dL_law_442 : decode cL_law 442 = .ok (.iconst 0, 1) := by decide +kernel
theorem dL_law_443 : decode cL_law 443 = .ok (.laload, 1) := by decide +kernel
theorem dL_law_444 : decode cL_law 444 = .ok (.iload 6, 2) := by decide +kernel
theorem dL_law_446 : decode cL_law 446 = .ok (.i2l, 1) := by decide +kernel
theorem dL_law_447 : decode cL_law 447 = .ok (.lcmp, 1) := by decide +kernel
theorem dL_law_448 : decode cL_law 448 = .ok (.ifCond .eq 5, 3) := by decide +kernel
theorem dL_law_451 : decode cL_law 451 = .ok (.iconst 0, 1) := by decide +kernel
theorem dL_law_452 : decode cL_law 452 = .ok (.ireturn, 1) := by decide +kernel
theorem dL_law_453 : decode cL_law 453 = .ok (.goto 1099, 3) := by decide +kernel
theorem dL_law_456 : decode cL_law 456 = .ok (.aload_n 1, 1) := by decide +kernel
theorem dL_law_457 : decode cL_law 457 = .ok (.aload_n 0, 1) := by decide +kernel
theorem dL_law_458 : decode cL_law 458 = .ok (.iload 4, 2) := by decide +kernel
theorem dL_law_460 : decode cL_law 460 = .ok (.iconst 1, 1) := by decide +kernel
theorem dL_law_461 : decode cL_law 461 = .ok (.iadd, 1) := by decide +kernel
theorem dL_law_462 : decode cL_law 462 = .ok (.iaload, 1) := by decide +kernel
theorem dL_law_463 : decode cL_law 463 = .ok (.aload_n 3, 1) := by decide +kernel
theorem dL_law_464 : decode cL_law 464 = .ok (.invokestatic 126, 3) := by decide +kernel
theorem dL_law_467 : decode cL_law 467 = .ok (.istore 5, 2) := by decide +kernel
theorem dL_law_469 : decode cL_law 469 = .ok (.aload_n 2, 1) := by decide +kernel
theorem dL_law_470 : decode cL_law 470 = .ok (.aload_n 0, 1) := by decide +kernel
theorem dL_law_471 : decode cL_law 471 = .ok (.iload 4, 2) := by decide +kernel
theorem dL_law_473 : decode cL_law 473 = .ok (.iconst 1, 1) := by decide +kernel
theorem dL_law_474 : decode cL_law 474 = .ok (.iadd, 1) := by decide +kernel
theorem dL_law_475 : decode cL_law 475 = .ok (.iaload, 1) := by decide +kernel
theorem dL_law_476 : decode cL_law 476 = .ok (.invokevirtual 128, 3) := by decide +kernel
theorem dL_law_479 : decode cL_law 479 = .ok (.lstore 6, 2) := by decide +kernel
theorem dL_law_481 : decode cL_law 481 = .ok (.aload_n 2, 1) := by decide +kernel
theorem dL_law_482 : decode cL_law 482 = .ok (.invokevirtual 91, 3) := by decide +kernel
theorem dL_law_485 : decode cL_law 485 = .ok (.iload 5, 2) := by decide +kernel
theorem dL_law_487 : decode cL_law 487 = .ok (.if_icmp .eq 5, 3) := by decide +kernel
theorem dL_law_490 : decode cL_law 490 = .ok (.iconst 0, 1) := by decide +kernel
theorem dL_law_491 : decode cL_law 491 = .ok (.ireturn, 1) := by decide +kernel
theorem dL_law_492 : decode cL_law 492 = .ok (.iload 5, 2) := by decide +kernel
theorem dL_law_494 : decode cL_law 494 = .ok (.ifCond .ne 14, 3) := by decide +kernel
theorem dL_law_497 : decode cL_law 497 = .ok (.aload_n 3, 1) := by decide +kernel
theorem dL_law_498 : decode cL_law 498 = .ok (.iconst 0, 1) := by decide +kernel
theorem dL_law_499 : decode cL_law 499 = .ok (.laload, 1) := by decide +kernel
theorem dL_law_500 : decode cL_law 500 = .ok (.lload 6, 2) := by decide +kernel
theorem dL_law_502 : decode cL_law 502 = .ok (.lcmp, 1) := by decide +kernel
theorem dL_law_503 : decode cL_law 503 = .ok (.ifCond .eq 5, 3) := by decide +kernel
theorem dL_law_506 : decode cL_law 506 = .ok (.iconst 0, 1) := by decide +kernel
theorem dL_law_507 : decode cL_law 507 = .ok (.ireturn, 1) := by decide +kernel
theorem dL_law_508 : decode cL_law 508 = .ok (.goto 1044, 3) := by decide +kernel
theorem dL_law_511 : decode cL_law 511 = .ok (.aload_n 1, 1) := by decide +kernel
theorem dL_law_512 : decode cL_law 512 = .ok (.aload_n 0, 1) := by decide +kernel
theorem dL_law_513 : decode cL_law 513 = .ok (.iload 4, 2) := by decide +kernel
theorem dL_law_515 : decode cL_law 515 = .ok (.iconst 1, 1) := by decide +kernel
theorem dL_law_516 : decode cL_law 516 = .ok (.iadd, 1) := by decide +kernel
theorem dL_law_517 : decode cL_law 517 = .ok (.iaload, 1) := by decide +kernel
theorem dL_law_518 : decode cL_law 518 = .ok (.aload_n 3, 1) := by decide +kernel
theorem dL_law_519 : decode cL_law 519 = .ok (.invokestatic 129, 3) := by decide +kernel
theorem dL_law_522 : decode cL_law 522 = .ok (.istore 5, 2) := by decide +kernel
theorem dL_law_524 : decode cL_law 524 = .ok (.aload_n 2, 1) := by decide +kernel
theorem dL_law_525 : decode cL_law 525 = .ok (.aload_n 0, 1) := by decide +kernel
theorem dL_law_526 : decode cL_law 526 = .ok (.iload 4, 2) := by decide +kernel
theorem dL_law_528 : decode cL_law 528 = .ok (.iconst 1, 1) := by decide +kernel
theorem dL_law_529 : decode cL_law 529 = .ok (.iadd, 1) := by decide +kernel
theorem dL_law_530 : decode cL_law 530 = .ok (.iaload, 1) := by decide +kernel
theorem dL_law_531 : decode cL_law 531 = .ok (.invokevirtual 131, 3) := by decide +kernel
theorem dL_law_534 : decode cL_law 534 = .ok (.istore 6, 2) := by decide +kernel
theorem dL_law_536 : decode cL_law 536 = .ok (.aload_n 2, 1) := by decide +kernel
theorem dL_law_537 : decode cL_law 537 = .ok (.invokevirtual 91, 3) := by decide +kernel
theorem dL_law_540 : decode cL_law 540 = .ok (.iload 5, 2) := by decide +kernel
theorem dL_law_542 : decode cL_law 542 = .ok (.if_icmp .eq 5, 3) := by decide +kernel
theorem dL_law_545 : decode cL_law 545 = .ok (.iconst 0, 1) := by decide +kernel
theorem dL_law_546 : decode cL_law 546 = .ok (.ireturn, 1) := by decide +kernel
theorem dL_law_547 : decode cL_law 547 = .ok (.iload 5, 2) := by decide +kernel
theorem dL_law_549 : decode cL_law 549 = .ok (.ifCond .ne 15, 3) := by decide +kernel
theorem dL_law_552 : decode cL_law 552 = .ok (.aload_n 3, 1) := by decide +kernel
theorem dL_law_553 : decode cL_law 553 = .ok (.iconst 0, 1) := by decide +kernel
theorem dL_law_554 : decode cL_law 554 = .ok (.laload, 1) := by decide +kernel
theorem dL_law_555 : decode cL_law 555 = .ok (.iload 6, 2) := by decide +kernel
theorem dL_law_557 : decode cL_law 557 = .ok (.i2l, 1) := by decide +kernel
theorem dL_law_558 : decode cL_law 558 = .ok (.lcmp, 1) := by decide +kernel
theorem dL_law_559 : decode cL_law 559 = .ok (.ifCond .eq 5, 3) := by decide +kernel
theorem dL_law_562 : decode cL_law 562 = .ok (.iconst 0, 1) := by decide +kernel
theorem dL_law_563 : decode cL_law 563 = .ok (.ireturn, 1) := by decide +kernel
theorem dL_law_564 : decode cL_law 564 = .ok (.goto 988, 3) := by decide +kernel
theorem dL_law_567 : decode cL_law 567 = .ok (.aload_n 1, 1) := by decide +kernel
theorem dL_law_568 : decode cL_law 568 = .ok (.aload_n 0, 1) := by decide +kernel
theorem dL_law_569 : decode cL_law 569 = .ok (.iload 4, 2) := by decide +kernel
theorem dL_law_571 : decode cL_law 571 = .ok (.iconst 1, 1) := by decide +kernel
theorem dL_law_572 : decode cL_law 572 = .ok (.iadd, 1) := by decide +kernel
theorem dL_law_573 : decode cL_law 573 = .ok (.iaload, 1) := by decide +kernel
theorem dL_law_574 : decode cL_law 574 = .ok (.aload_n 3, 1) := by decide +kernel
theorem dL_law_575 : decode cL_law 575 = .ok (.invokestatic 132, 3) := by decide +kernel
theorem dL_law_578 : decode cL_law 578 = .ok (.istore 5, 2) := by decide +kernel
theorem dL_law_580 : decode cL_law 580 = .ok (.aload_n 2, 1) := by decide +kernel
theorem dL_law_581 : decode cL_law 581 = .ok (.aload_n 0, 1) := by decide +kernel
theorem dL_law_582 : decode cL_law 582 = .ok (.iload 4, 2) := by decide +kernel
theorem dL_law_584 : decode cL_law 584 = .ok (.iconst 1, 1) := by decide +kernel
theorem dL_law_585 : decode cL_law 585 = .ok (.iadd, 1) := by decide +kernel
theorem dL_law_586 : decode cL_law 586 = .ok (.iaload, 1) := by decide +kernel
theorem dL_law_587 : decode cL_law 587 = .ok (.invokevirtual 134, 3) := by decide +kernel
theorem dL_law_590 : decode cL_law 590 = .ok (.istore 6, 2) := by decide +kernel
theorem dL_law_592 : decode cL_law 592 = .ok (.aload_n 2, 1) := by decide +kernel
theorem dL_law_593 : decode cL_law 593 = .ok (.invokevirtual 91, 3) := by decide +kernel
theorem dL_law_596 : decode cL_law 596 = .ok (.iload 5, 2) := by decide +kernel
theorem dL_law_598 : decode cL_law 598 = .ok (.if_icmp .eq 5, 3) := by decide +kernel
theorem dL_law_601 : decode cL_law 601 = .ok (.iconst 0, 1) := by decide +kernel
theorem dL_law_602 : decode cL_law 602 = .ok (.ireturn, 1) := by decide +kernel
theorem dL_law_603 : decode cL_law 603 = .ok (.iload 5, 2) := by decide +kernel
theorem dL_law_605 : decode cL_law 605 = .ok (.ifCond .ne 15, 3) := by decide +kernel
theorem dL_law_608 : decode cL_law 608 = .ok (.aload_n 3, 1) := by decide +kernel
theorem dL_law_609 : decode cL_law 609 = .ok (.iconst 0, 1) := by decide +kernel
theorem dL_law_610 : decode cL_law 610 = .ok (.laload, 1) := by decide +kernel
theorem dL_law_611 : decode cL_law 611 = .ok (.iload 6, 2) := by decide +kernel
theorem dL_law_613 : decode cL_law 613 = .ok (.i2l, 1) := by decide +kernel
theorem dL_law_614 : decode cL_law 614 = .ok (.lcmp, 1) := by decide +kernel
theorem dL_law_615 : decode cL_law 615 = .ok (.ifCond .eq 5, 3) := by decide +kernel
theorem dL_law_618 : decode cL_law 618 = .ok (.iconst 0, 1) := by decide +kernel
theorem dL_law_619 : decode cL_law 619 = .ok (.ireturn, 1) := by decide +kernel
theorem dL_law_620 : decode cL_law 620 = .ok (.goto 932, 3) := by decide +kernel
theorem dL_law_623 : decode cL_law 623 = .ok (.aload_n 1, 1) := by decide +kernel
theorem dL_law_624 : decode cL_law 624 = .ok (.aload_n 0, 1) := by decide +kernel
theorem dL_law_625 : decode cL_law 625 = .ok (.iload 4, 2) := by decide +kernel
theorem dL_law_627 : decode cL_law 627 = .ok (.iconst 1, 1) := by decide +kernel
theorem dL_law_628 : decode cL_law 628 = .ok (.iadd, 1) := by decide +kernel
theorem dL_law_629 : decode cL_law 629 = .ok (.iaload, 1) := by decide +kernel
theorem dL_law_630 : decode cL_law 630 = .ok (.aload_n 0, 1) := by decide +kernel
theorem dL_law_631 : decode cL_law 631 = .ok (.iload 4, 2) := by decide +kernel
theorem dL_law_633 : decode cL_law 633 = .ok (.iconst 2, 1) := by decide +kernel
theorem dL_law_634 : decode cL_law 634 = .ok (.iadd, 1) := by decide +kernel
theorem dL_law_635 : decode cL_law 635 = .ok (.iaload, 1) := by decide +kernel
theorem dL_law_636 : decode cL_law 636 = .ok (.aload_n 3, 1) := by decide +kernel
theorem dL_law_637 : decode cL_law 637 = .ok (.invokestatic 135, 3) := by decide +kernel
theorem dL_law_640 : decode cL_law 640 = .ok (.istore 5, 2) := by decide +kernel
theorem dL_law_642 : decode cL_law 642 = .ok (.aload_n 2, 1) := by decide +kernel
theorem dL_law_643 : decode cL_law 643 = .ok (.aload_n 0, 1) := by decide +kernel
theorem dL_law_644 : decode cL_law 644 = .ok (.iload 4, 2) := by decide +kernel
theorem dL_law_646 : decode cL_law 646 = .ok (.iconst 1, 1) := by decide +kernel
theorem dL_law_647 : decode cL_law 647 = .ok (.iadd, 1) := by decide +kernel
theorem dL_law_648 : decode cL_law 648 = .ok (.iaload, 1) := by decide +kernel
theorem dL_law_649 : decode cL_law 649 = .ok (.aload_n 0, 1) := by decide +kernel
theorem dL_law_650 : decode cL_law 650 = .ok (.iload 4, 2) := by decide +kernel
theorem dL_law_652 : decode cL_law 652 = .ok (.iconst 2, 1) := by decide +kernel
theorem dL_law_653 : decode cL_law 653 = .ok (.iadd, 1) := by decide +kernel
theorem dL_law_654 : decode cL_law 654 = .ok (.iaload, 1) := by decide +kernel
theorem dL_law_655 : decode cL_law 655 = .ok (.invokevirtual 138, 3) := by decide +kernel
theorem dL_law_658 : decode cL_law 658 = .ok (.istore 6, 2) := by decide +kernel
theorem dL_law_660 : decode cL_law 660 = .ok (.aload_n 2, 1) := by decide +kernel
theorem dL_law_661 : decode cL_law 661 = .ok (.invokevirtual 91, 3) := by decide +kernel
theorem dL_law_664 : decode cL_law 664 = .ok (.iload 5, 2) := by decide +kernel
theorem dL_law_666 : decode cL_law 666 = .ok (.if_icmp .eq 5, 3) := by decide +kernel
theorem dL_law_669 : decode cL_law 669 = .ok (.iconst 0, 1) := by decide +kernel
theorem dL_law_670 : decode cL_law 670 = .ok (.ireturn, 1) := by decide +kernel
theorem dL_law_671 : decode cL_law 671 = .ok (.iload 5, 2) := by decide +kernel
theorem dL_law_673 : decode cL_law 673 = .ok (.ifCond .ne 22, 3) := by decide +kernel
theorem dL_law_676 : decode cL_law 676 = .ok (.aload_n 3, 1) := by decide +kernel
theorem dL_law_677 : decode cL_law 677 = .ok (.iconst 0, 1) := by decide +kernel
theorem dL_law_678 : decode cL_law 678 = .ok (.laload, 1) := by decide +kernel
theorem dL_law_679 : decode cL_law 679 = .ok (.iload 6, 2) := by decide +kernel
theorem dL_law_681 : decode cL_law 681 = .ok (.ifCond .eq 7, 3) := by decide +kernel
theorem dL_law_684 : decode cL_law 684 = .ok (.lconst 1, 1) := by decide +kernel
theorem dL_law_685 : decode cL_law 685 = .ok (.goto 4, 3) := by decide +kernel
theorem dL_law_688 : decode cL_law 688 = .ok (.lconst 0, 1) := by decide +kernel
theorem dL_law_689 : decode cL_law 689 = .ok (.lcmp, 1) := by decide +kernel
theorem dL_law_690 : decode cL_law 690 = .ok (.ifCond .eq 5, 3) := by decide +kernel
theorem dL_law_693 : decode cL_law 693 = .ok (.iconst 0, 1) := by decide +kernel
theorem dL_law_694 : decode cL_law 694 = .ok (.ireturn, 1) := by decide +kernel
theorem dL_law_695 : decode cL_law 695 = .ok (.goto 857, 3) := by decide +kernel
theorem dL_law_698 : decode cL_law 698 = .ok (.aload_n 1, 1) := by decide +kernel
theorem dL_law_699 : decode cL_law 699 = .ok (.aload_n 0, 1) := by decide +kernel
theorem dL_law_700 : decode cL_law 700 = .ok (.iload 4, 2) := by decide +kernel
theorem dL_law_702 : decode cL_law 702 = .ok (.iconst 1, 1) := by decide +kernel
theorem dL_law_703 : decode cL_law 703 = .ok (.iadd, 1) := by decide +kernel
theorem dL_law_704 : decode cL_law 704 = .ok (.iaload, 1) := by decide +kernel
theorem dL_law_705 : decode cL_law 705 = .ok (.aload_n 3, 1) := by decide +kernel
theorem dL_law_706 : decode cL_law 706 = .ok (.invokestatic 139, 3) := by decide +kernel
theorem dL_law_709 : decode cL_law 709 = .ok (.istore 5, 2) := by decide +kernel
theorem dL_law_711 : decode cL_law 711 = .ok (.aload_n 2, 1) := by decide +kernel
theorem dL_law_712 : decode cL_law 712 = .ok (.aload_n 0, 1) := by decide +kernel
theorem dL_law_713 : decode cL_law 713 = .ok (.iload 4, 2) := by decide +kernel
theorem dL_law_715 : decode cL_law 715 = .ok (.iconst 1, 1) := by decide +kernel
theorem dL_law_716 : decode cL_law 716 = .ok (.iadd, 1) := by decide +kernel
theorem dL_law_717 : decode cL_law 717 = .ok (.iaload, 1) := by decide +kernel
theorem dL_law_718 : decode cL_law 718 = .ok (.invokevirtual 141, 3) := by decide +kernel
theorem dL_law_721 : decode cL_law 721 = .ok (.istore 6, 2) := by decide +kernel
theorem dL_law_723 : decode cL_law 723 = .ok (.aload_n 2, 1) := by decide +kernel
theorem dL_law_724 : decode cL_law 724 = .ok (.invokevirtual 91, 3) := by decide +kernel
theorem dL_law_727 : decode cL_law 727 = .ok (.iload 5, 2) := by decide +kernel
theorem dL_law_729 : decode cL_law 729 = .ok (.if_icmp .eq 5, 3) := by decide +kernel
theorem dL_law_732 : decode cL_law 732 = .ok (.iconst 0, 1) := by decide +kernel
theorem dL_law_733 : decode cL_law 733 = .ok (.ireturn, 1) := by decide +kernel
theorem dL_law_734 : decode cL_law 734 = .ok (.iload 5, 2) := by decide +kernel
theorem dL_law_736 : decode cL_law 736 = .ok (.ifCond .ne 15, 3) := by decide +kernel
theorem dL_law_739 : decode cL_law 739 = .ok (.aload_n 3, 1) := by decide +kernel
theorem dL_law_740 : decode cL_law 740 = .ok (.iconst 0, 1) := by decide +kernel
theorem dL_law_741 : decode cL_law 741 = .ok (.laload, 1) := by decide +kernel
theorem dL_law_742 : decode cL_law 742 = .ok (.iload 6, 2) := by decide +kernel
theorem dL_law_744 : decode cL_law 744 = .ok (.i2l, 1) := by decide +kernel
theorem dL_law_745 : decode cL_law 745 = .ok (.lcmp, 1) := by decide +kernel
theorem dL_law_746 : decode cL_law 746 = .ok (.ifCond .eq 5, 3) := by decide +kernel
theorem dL_law_749 : decode cL_law 749 = .ok (.iconst 0, 1) := by decide +kernel
theorem dL_law_750 : decode cL_law 750 = .ok (.ireturn, 1) := by decide +kernel
theorem dL_law_751 : decode cL_law 751 = .ok (.goto 801, 3) := by decide +kernel
theorem dL_law_754 : decode cL_law 754 = .ok (.aload_n 1, 1) := by decide +kernel
theorem dL_law_755 : decode cL_law 755 = .ok (.aload_n 0, 1) := by decide +kernel
theorem dL_law_756 : decode cL_law 756 = .ok (.iload 4, 2) := by decide +kernel
theorem dL_law_758 : decode cL_law 758 = .ok (.iconst 1, 1) := by decide +kernel
theorem dL_law_759 : decode cL_law 759 = .ok (.iadd, 1) := by decide +kernel
theorem dL_law_760 : decode cL_law 760 = .ok (.iaload, 1) := by decide +kernel
theorem dL_law_761 : decode cL_law 761 = .ok (.aload_n 3, 1) := by decide +kernel
theorem dL_law_762 : decode cL_law 762 = .ok (.invokestatic 142, 3) := by decide +kernel
theorem dL_law_765 : decode cL_law 765 = .ok (.istore 5, 2) := by decide +kernel
theorem dL_law_767 : decode cL_law 767 = .ok (.aload_n 2, 1) := by decide +kernel
theorem dL_law_768 : decode cL_law 768 = .ok (.aload_n 0, 1) := by decide +kernel
theorem dL_law_769 : decode cL_law 769 = .ok (.iload 4, 2) := by decide +kernel
theorem dL_law_771 : decode cL_law 771 = .ok (.iconst 1, 1) := by decide +kernel
theorem dL_law_772 : decode cL_law 772 = .ok (.iadd, 1) := by decide +kernel
theorem dL_law_773 : decode cL_law 773 = .ok (.iaload, 1) := by decide +kernel
theorem dL_law_774 : decode cL_law 774 = .ok (.invokevirtual 144, 3) := by decide +kernel
theorem dL_law_777 : decode cL_law 777 = .ok (.istore 6, 2) := by decide +kernel
theorem dL_law_779 : decode cL_law 779 = .ok (.aload_n 2, 1) := by decide +kernel
theorem dL_law_780 : decode cL_law 780 = .ok (.invokevirtual 91, 3) := by decide +kernel
theorem dL_law_783 : decode cL_law 783 = .ok (.iload 5, 2) := by decide +kernel
theorem dL_law_785 : decode cL_law 785 = .ok (.if_icmp .eq 5, 3) := by decide +kernel
theorem dL_law_788 : decode cL_law 788 = .ok (.iconst 0, 1) := by decide +kernel
theorem dL_law_789 : decode cL_law 789 = .ok (.ireturn, 1) := by decide +kernel
theorem dL_law_790 : decode cL_law 790 = .ok (.iload 5, 2) := by decide +kernel
theorem dL_law_792 : decode cL_law 792 = .ok (.ifCond .ne 15, 3) := by decide +kernel
theorem dL_law_795 : decode cL_law 795 = .ok (.aload_n 3, 1) := by decide +kernel
theorem dL_law_796 : decode cL_law 796 = .ok (.iconst 0, 1) := by decide +kernel
theorem dL_law_797 : decode cL_law 797 = .ok (.laload, 1) := by decide +kernel
theorem dL_law_798 : decode cL_law 798 = .ok (.iload 6, 2) := by decide +kernel
theorem dL_law_800 : decode cL_law 800 = .ok (.i2l, 1) := by decide +kernel
theorem dL_law_801 : decode cL_law 801 = .ok (.lcmp, 1) := by decide +kernel
theorem dL_law_802 : decode cL_law 802 = .ok (.ifCond .eq 5, 3) := by decide +kernel
theorem dL_law_805 : decode cL_law 805 = .ok (.iconst 0, 1) := by decide +kernel
theorem dL_law_806 : decode cL_law 806 = .ok (.ireturn, 1) := by decide +kernel
theorem dL_law_807 : decode cL_law 807 = .ok (.goto 745, 3) := by decide +kernel
theorem dL_law_810 : decode cL_law 810 = .ok (.aload_n 1, 1) := by decide +kernel
theorem dL_law_811 : decode cL_law 811 = .ok (.aload_n 0, 1) := by decide +kernel
theorem dL_law_812 : decode cL_law 812 = .ok (.iload 4, 2) := by decide +kernel
theorem dL_law_814 : decode cL_law 814 = .ok (.iconst 1, 1) := by decide +kernel
theorem dL_law_815 : decode cL_law 815 = .ok (.iadd, 1) := by decide +kernel
theorem dL_law_816 : decode cL_law 816 = .ok (.iaload, 1) := by decide +kernel
theorem dL_law_817 : decode cL_law 817 = .ok (.aload_n 3, 1) := by decide +kernel
theorem dL_law_818 : decode cL_law 818 = .ok (.invokestatic 145, 3) := by decide +kernel
theorem dL_law_821 : decode cL_law 821 = .ok (.istore 5, 2) := by decide +kernel
theorem dL_law_823 : decode cL_law 823 = .ok (.aload_n 2, 1) := by decide +kernel
theorem dL_law_824 : decode cL_law 824 = .ok (.aload_n 0, 1) := by decide +kernel
theorem dL_law_825 : decode cL_law 825 = .ok (.iload 4, 2) := by decide +kernel
theorem dL_law_827 : decode cL_law 827 = .ok (.iconst 1, 1) := by decide +kernel
theorem dL_law_828 : decode cL_law 828 = .ok (.iadd, 1) := by decide +kernel
theorem dL_law_829 : decode cL_law 829 = .ok (.iaload, 1) := by decide +kernel
theorem dL_law_830 : decode cL_law 830 = .ok (.invokevirtual 147, 3) := by decide +kernel
theorem dL_law_833 : decode cL_law 833 = .ok (.lstore 6, 2) := by decide +kernel
theorem dL_law_835 : decode cL_law 835 = .ok (.aload_n 2, 1) := by decide +kernel
theorem dL_law_836 : decode cL_law 836 = .ok (.invokevirtual 91, 3) := by decide +kernel
theorem dL_law_839 : decode cL_law 839 = .ok (.iload 5, 2) := by decide +kernel
theorem dL_law_841 : decode cL_law 841 = .ok (.if_icmp .eq 5, 3) := by decide +kernel
theorem dL_law_844 : decode cL_law 844 = .ok (.iconst 0, 1) := by decide +kernel
theorem dL_law_845 : decode cL_law 845 = .ok (.ireturn, 1) := by decide +kernel
theorem dL_law_846 : decode cL_law 846 = .ok (.iload 5, 2) := by decide +kernel
theorem dL_law_848 : decode cL_law 848 = .ok (.ifCond .ne 14, 3) := by decide +kernel
theorem dL_law_851 : decode cL_law 851 = .ok (.aload_n 3, 1) := by decide +kernel
theorem dL_law_852 : decode cL_law 852 = .ok (.iconst 0, 1) := by decide +kernel
theorem dL_law_853 : decode cL_law 853 = .ok (.laload, 1) := by decide +kernel
theorem dL_law_854 : decode cL_law 854 = .ok (.lload 6, 2) := by decide +kernel
theorem dL_law_856 : decode cL_law 856 = .ok (.lcmp, 1) := by decide +kernel
theorem dL_law_857 : decode cL_law 857 = .ok (.ifCond .eq 5, 3) := by decide +kernel
theorem dL_law_860 : decode cL_law 860 = .ok (.iconst 0, 1) := by decide +kernel
theorem dL_law_861 : decode cL_law 861 = .ok (.ireturn, 1) := by decide +kernel
theorem dL_law_862 : decode cL_law 862 = .ok (.goto 690, 3) := by decide +kernel
theorem dL_law_865 : decode cL_law 865 = .ok (.aload_n 1, 1) := by decide +kernel
theorem dL_law_866 : decode cL_law 866 = .ok (.aload_n 0, 1) := by decide +kernel
theorem dL_law_867 : decode cL_law 867 = .ok (.iload 4, 2) := by decide +kernel
theorem dL_law_869 : decode cL_law 869 = .ok (.iconst 1, 1) := by decide +kernel
theorem dL_law_870 : decode cL_law 870 = .ok (.iadd, 1) := by decide +kernel
theorem dL_law_871 : decode cL_law 871 = .ok (.iaload, 1) := by decide +kernel
theorem dL_law_872 : decode cL_law 872 = .ok (.aload_n 0, 1) := by decide +kernel
theorem dL_law_873 : decode cL_law 873 = .ok (.iload 4, 2) := by decide +kernel
theorem dL_law_875 : decode cL_law 875 = .ok (.iconst 2, 1) := by decide +kernel
theorem dL_law_876 : decode cL_law 876 = .ok (.iadd, 1) := by decide +kernel
theorem dL_law_877 : decode cL_law 877 = .ok (.iaload, 1) := by decide +kernel
theorem dL_law_878 : decode cL_law 878 = .ok (.aload_n 3, 1) := by decide +kernel
theorem dL_law_879 : decode cL_law 879 = .ok (.invokestatic 148, 3) := by decide +kernel
theorem dL_law_882 : decode cL_law 882 = .ok (.istore 5, 2) := by decide +kernel
theorem dL_law_884 : decode cL_law 884 = .ok (.aload_n 2, 1) := by decide +kernel
theorem dL_law_885 : decode cL_law 885 = .ok (.aload_n 0, 1) := by decide +kernel
theorem dL_law_886 : decode cL_law 886 = .ok (.iload 4, 2) := by decide +kernel
theorem dL_law_888 : decode cL_law 888 = .ok (.iconst 1, 1) := by decide +kernel
theorem dL_law_889 : decode cL_law 889 = .ok (.iadd, 1) := by decide +kernel
theorem dL_law_890 : decode cL_law 890 = .ok (.iaload, 1) := by decide +kernel
theorem dL_law_891 : decode cL_law 891 = .ok (.aload_n 0, 1) := by decide +kernel
theorem dL_law_892 : decode cL_law 892 = .ok (.iload 4, 2) := by decide +kernel
theorem dL_law_894 : decode cL_law 894 = .ok (.iconst 2, 1) := by decide +kernel
theorem dL_law_895 : decode cL_law 895 = .ok (.iadd, 1) := by decide +kernel
theorem dL_law_896 : decode cL_law 896 = .ok (.iaload, 1) := by decide +kernel
theorem dL_law_897 : decode cL_law 897 = .ok (.invokevirtual 150, 3) := by decide +kernel
theorem dL_law_900 : decode cL_law 900 = .ok (.istore 6, 2) := by decide +kernel
theorem dL_law_902 : decode cL_law 902 = .ok (.aload_n 2, 1) := by decide +kernel
theorem dL_law_903 : decode cL_law 903 = .ok (.invokevirtual 91, 3) := by decide +kernel
theorem dL_law_906 : decode cL_law 906 = .ok (.iload 5, 2) := by decide +kernel
theorem dL_law_908 : decode cL_law 908 = .ok (.if_icmp .eq 5, 3) := by decide +kernel
theorem dL_law_911 : decode cL_law 911 = .ok (.iconst 0, 1) := by decide +kernel
theorem dL_law_912 : decode cL_law 912 = .ok (.ireturn, 1) := by decide +kernel
theorem dL_law_913 : decode cL_law 913 = .ok (.iload 5, 2) := by decide +kernel
theorem dL_law_915 : decode cL_law 915 = .ok (.ifCond .ne 15, 3) := by decide +kernel
theorem dL_law_918 : decode cL_law 918 = .ok (.aload_n 3, 1) := by decide +kernel
theorem dL_law_919 : decode cL_law 919 = .ok (.iconst 0, 1) := by decide +kernel
theorem dL_law_920 : decode cL_law 920 = .ok (.laload, 1) := by decide +kernel
theorem dL_law_921 : decode cL_law 921 = .ok (.iload 6, 2) := by decide +kernel
theorem dL_law_923 : decode cL_law 923 = .ok (.i2l, 1) := by decide +kernel
theorem dL_law_924 : decode cL_law 924 = .ok (.lcmp, 1) := by decide +kernel
theorem dL_law_925 : decode cL_law 925 = .ok (.ifCond .eq 5, 3) := by decide +kernel
theorem dL_law_928 : decode cL_law 928 = .ok (.iconst 0, 1) := by decide +kernel
theorem dL_law_929 : decode cL_law 929 = .ok (.ireturn, 1) := by decide +kernel
theorem dL_law_930 : decode cL_law 930 = .ok (.goto 622, 3) := by decide +kernel
theorem dL_law_933 : decode cL_law 933 = .ok (.aload_n 1, 1) := by decide +kernel
theorem dL_law_934 : decode cL_law 934 = .ok (.invokevirtual 151, 3) := by decide +kernel
theorem dL_law_937 : decode cL_law 937 = .ok (.aload_n 2, 1) := by decide +kernel
theorem dL_law_938 : decode cL_law 938 = .ok (.invokevirtual 154, 3) := by decide +kernel
theorem dL_law_941 : decode cL_law 941 = .ok (.if_icmp .eq 611, 3) := by decide +kernel
theorem dL_law_944 : decode cL_law 944 = .ok (.iconst 0, 1) := by decide +kernel
theorem dL_law_945 : decode cL_law 945 = .ok (.ireturn, 1) := by decide +kernel
theorem dL_law_946 : decode cL_law 946 = .ok (.aload_n 1, 1) := by decide +kernel
theorem dL_law_947 : decode cL_law 947 = .ok (.aload_n 0, 1) := by decide +kernel
theorem dL_law_948 : decode cL_law 948 = .ok (.iload 4, 2) := by decide +kernel
theorem dL_law_950 : decode cL_law 950 = .ok (.iconst 1, 1) := by decide +kernel
theorem dL_law_951 : decode cL_law 951 = .ok (.iadd, 1) := by decide +kernel
theorem dL_law_952 : decode cL_law 952 = .ok (.iaload, 1) := by decide +kernel
theorem dL_law_953 : decode cL_law 953 = .ok (.aload_n 3, 1) := by decide +kernel
theorem dL_law_954 : decode cL_law 954 = .ok (.invokestatic 155, 3) := by decide +kernel
theorem dL_law_957 : decode cL_law 957 = .ok (.istore 5, 2) := by decide +kernel
theorem dL_law_959 : decode cL_law 959 = .ok (.aload_n 2, 1) := by decide +kernel
theorem dL_law_960 : decode cL_law 960 = .ok (.aload_n 0, 1) := by decide +kernel
theorem dL_law_961 : decode cL_law 961 = .ok (.iload 4, 2) := by decide +kernel
theorem dL_law_963 : decode cL_law 963 = .ok (.iconst 1, 1) := by decide +kernel
theorem dL_law_964 : decode cL_law 964 = .ok (.iadd, 1) := by decide +kernel
theorem dL_law_965 : decode cL_law 965 = .ok (.iaload, 1) := by decide +kernel
theorem dL_law_966 : decode cL_law 966 = .ok (.invokevirtual 157, 3) := by decide +kernel
theorem dL_law_969 : decode cL_law 969 = .ok (.istore 6, 2) := by decide +kernel
theorem dL_law_971 : decode cL_law 971 = .ok (.aload_n 2, 1) := by decide +kernel
theorem dL_law_972 : decode cL_law 972 = .ok (.invokevirtual 91, 3) := by decide +kernel
theorem dL_law_975 : decode cL_law 975 = .ok (.iload 5, 2) := by decide +kernel
theorem dL_law_977 : decode cL_law 977 = .ok (.if_icmp .eq 5, 3) := by decide +kernel
theorem dL_law_980 : decode cL_law 980 = .ok (.iconst 0, 1) := by decide +kernel
theorem dL_law_981 : decode cL_law 981 = .ok (.ireturn, 1) := by decide +kernel
theorem dL_law_982 : decode cL_law 982 = .ok (.iload 5, 2) := by decide +kernel
theorem dL_law_984 : decode cL_law 984 = .ok (.ifCond .ne 15, 3) := by decide +kernel
theorem dL_law_987 : decode cL_law 987 = .ok (.aload_n 3, 1) := by decide +kernel
theorem dL_law_988 : decode cL_law 988 = .ok (.iconst 0, 1) := by decide +kernel
theorem dL_law_989 : decode cL_law 989 = .ok (.laload, 1) := by decide +kernel
theorem dL_law_990 : decode cL_law 990 = .ok (.iload 6, 2) := by decide +kernel
theorem dL_law_992 : decode cL_law 992 = .ok (.i2l, 1) := by decide +kernel
theorem dL_law_993 : decode cL_law 993 = .ok (.lcmp, 1) := by decide +kernel
theorem dL_law_994 : decode cL_law 994 = .ok (.ifCond .eq 5, 3) := by decide +kernel
theorem dL_law_997 : decode cL_law 997 = .ok (.iconst 0, 1) := by decide +kernel
theorem dL_law_998 : decode cL_law 998 = .ok (.ireturn, 1) := by decide +kernel
theorem dL_law_999 : decode cL_law 999 = .ok (.goto 553, 3) := by decide +kernel
theorem dL_law_1002 : decode cL_law 1002 = .ok (.aload_n 1, 1) := by decide +kernel
theorem dL_law_1003 : decode cL_law 1003 = .ok (.invokevirtual 158, 3) := by decide +kernel
theorem dL_law_1006 : decode cL_law 1006 = .ok (.aload_n 2, 1) := by decide +kernel
theorem dL_law_1007 : decode cL_law 1007 = .ok (.invokevirtual 161, 3) := by decide +kernel
theorem dL_law_1010 : decode cL_law 1010 = .ok (.if_icmp .eq 542, 3) := by decide +kernel
theorem dL_law_1013 : decode cL_law 1013 = .ok (.iconst 0, 1) := by decide +kernel
theorem dL_law_1014 : decode cL_law 1014 = .ok (.ireturn, 1) := by decide +kernel
theorem dL_law_1015 : decode cL_law 1015 = .ok (.aload_n 1, 1) := by decide +kernel
theorem dL_law_1016 : decode cL_law 1016 = .ok (.invokevirtual 162, 3) := by decide +kernel
theorem dL_law_1019 : decode cL_law 1019 = .ok (.aload_n 2, 1) := by decide +kernel
theorem dL_law_1020 : decode cL_law 1020 = .ok (.invokevirtual 165, 3) := by decide +kernel
theorem dL_law_1023 : decode cL_law 1023 = .ok (.if_icmp .eq 529, 3) := by decide +kernel
theorem dL_law_1026 : decode cL_law 1026 = .ok (.iconst 0, 1) := by decide +kernel
theorem dL_law_1027 : decode cL_law 1027 = .ok (.ireturn, 1) := by decide +kernel
theorem dL_law_1028 : decode cL_law 1028 = .ok (.aload_n 1, 1) := by decide +kernel
theorem dL_law_1029 : decode cL_law 1029 = .ok (.aload_n 0, 1) := by decide +kernel
theorem dL_law_1030 : decode cL_law 1030 = .ok (.iload 4, 2) := by decide +kernel
theorem dL_law_1032 : decode cL_law 1032 = .ok (.iconst 1, 1) := by decide +kernel
theorem dL_law_1033 : decode cL_law 1033 = .ok (.iadd, 1) := by decide +kernel
theorem dL_law_1034 : decode cL_law 1034 = .ok (.iaload, 1) := by decide +kernel
theorem dL_law_1035 : decode cL_law 1035 = .ok (.aload_n 0, 1) := by decide +kernel
theorem dL_law_1036 : decode cL_law 1036 = .ok (.iload 4, 2) := by decide +kernel
theorem dL_law_1038 : decode cL_law 1038 = .ok (.iconst 2, 1) := by decide +kernel
theorem dL_law_1039 : decode cL_law 1039 = .ok (.iadd, 1) := by decide +kernel
theorem dL_law_1040 : decode cL_law 1040 = .ok (.iaload, 1) := by decide +kernel
theorem dL_law_1041 : decode cL_law 1041 = .ok (.aload_n 3, 1) := by decide +kernel
theorem dL_law_1042 : decode cL_law 1042 = .ok (.invokestatic 166, 3) := by decide +kernel
theorem dL_law_1045 : decode cL_law 1045 = .ok (.istore 5, 2) := by decide +kernel
theorem dL_law_1047 : decode cL_law 1047 = .ok (.aload_n 2, 1) := by decide +kernel
theorem dL_law_1048 : decode cL_law 1048 = .ok (.aload_n 0, 1) := by decide +kernel
theorem dL_law_1049 : decode cL_law 1049 = .ok (.iload 4, 2) := by decide +kernel
theorem dL_law_1051 : decode cL_law 1051 = .ok (.iconst 1, 1) := by decide +kernel
theorem dL_law_1052 : decode cL_law 1052 = .ok (.iadd, 1) := by decide +kernel
theorem dL_law_1053 : decode cL_law 1053 = .ok (.iaload, 1) := by decide +kernel
theorem dL_law_1054 : decode cL_law 1054 = .ok (.aload_n 0, 1) := by decide +kernel
theorem dL_law_1055 : decode cL_law 1055 = .ok (.iload 4, 2) := by decide +kernel
theorem dL_law_1057 : decode cL_law 1057 = .ok (.iconst 2, 1) := by decide +kernel
theorem dL_law_1058 : decode cL_law 1058 = .ok (.iadd, 1) := by decide +kernel
theorem dL_law_1059 : decode cL_law 1059 = .ok (.iaload, 1) := by decide +kernel
theorem dL_law_1060 : decode cL_law 1060 = .ok (.invokevirtual 168, 3) := by decide +kernel
theorem dL_law_1063 : decode cL_law 1063 = .ok (.lstore 6, 2) := by decide +kernel
theorem dL_law_1065 : decode cL_law 1065 = .ok (.aload_n 2, 1) := by decide +kernel
theorem dL_law_1066 : decode cL_law 1066 = .ok (.invokevirtual 91, 3) := by decide +kernel
theorem dL_law_1069 : decode cL_law 1069 = .ok (.iload 5, 2) := by decide +kernel
theorem dL_law_1071 : decode cL_law 1071 = .ok (.if_icmp .eq 5, 3) := by decide +kernel
theorem dL_law_1074 : decode cL_law 1074 = .ok (.iconst 0, 1) := by decide +kernel
theorem dL_law_1075 : decode cL_law 1075 = .ok (.ireturn, 1) := by decide +kernel
theorem dL_law_1076 : decode cL_law 1076 = .ok (.iload 5, 2) := by decide +kernel
theorem dL_law_1078 : decode cL_law 1078 = .ok (.ifCond .ne 14, 3) := by decide +kernel
theorem dL_law_1081 : decode cL_law 1081 = .ok (.aload_n 3, 1) := by decide +kernel
theorem dL_law_1082 : decode cL_law 1082 = .ok (.iconst 0, 1) := by decide +kernel
theorem dL_law_1083 : decode cL_law 1083 = .ok (.laload, 1) := by decide +kernel
theorem dL_law_1084 : decode cL_law 1084 = .ok (.lload 6, 2) := by decide +kernel
theorem dL_law_1086 : decode cL_law 1086 = .ok (.lcmp, 1) := by decide +kernel
theorem dL_law_1087 : decode cL_law 1087 = .ok (.ifCond .eq 5, 3) := by decide +kernel
theorem dL_law_1090 : decode cL_law 1090 = .ok (.iconst 0, 1) := by decide +kernel
theorem dL_law_1091 : decode cL_law 1091 = .ok (.ireturn, 1) := by decide +kernel
theorem dL_law_1092 : decode cL_law 1092 = .ok (.goto 460, 3) := by decide +kernel
theorem dL_law_1095 : decode cL_law 1095 = .ok (.aload_n 1, 1) := by decide +kernel
theorem dL_law_1096 : decode cL_law 1096 = .ok (.aload_n 0, 1) := by decide +kernel
theorem dL_law_1097 : decode cL_law 1097 = .ok (.iload 4, 2) := by decide +kernel
theorem dL_law_1099 : decode cL_law 1099 = .ok (.iconst 1, 1) := by decide +kernel
theorem dL_law_1100 : decode cL_law 1100 = .ok (.iadd, 1) := by decide +kernel
theorem dL_law_1101 : decode cL_law 1101 = .ok (.iaload, 1) := by decide +kernel
theorem dL_law_1102 : decode cL_law 1102 = .ok (.aload_n 3, 1) := by decide +kernel
theorem dL_law_1103 : decode cL_law 1103 = .ok (.invokestatic 169, 3) := by decide +kernel
theorem dL_law_1106 : decode cL_law 1106 = .ok (.istore 5, 2) := by decide +kernel
theorem dL_law_1108 : decode cL_law 1108 = .ok (.aload_n 2, 1) := by decide +kernel
theorem dL_law_1109 : decode cL_law 1109 = .ok (.aload_n 0, 1) := by decide +kernel
theorem dL_law_1110 : decode cL_law 1110 = .ok (.iload 4, 2) := by decide +kernel
theorem dL_law_1112 : decode cL_law 1112 = .ok (.iconst 1, 1) := by decide +kernel
theorem dL_law_1113 : decode cL_law 1113 = .ok (.iadd, 1) := by decide +kernel
theorem dL_law_1114 : decode cL_law 1114 = .ok (.iaload, 1) := by decide +kernel
theorem dL_law_1115 : decode cL_law 1115 = .ok (.invokevirtual 171, 3) := by decide +kernel
theorem dL_law_1118 : decode cL_law 1118 = .ok (.istore 6, 2) := by decide +kernel
theorem dL_law_1120 : decode cL_law 1120 = .ok (.aload_n 2, 1) := by decide +kernel
theorem dL_law_1121 : decode cL_law 1121 = .ok (.invokevirtual 91, 3) := by decide +kernel
theorem dL_law_1124 : decode cL_law 1124 = .ok (.iload 5, 2) := by decide +kernel
theorem dL_law_1126 : decode cL_law 1126 = .ok (.if_icmp .eq 5, 3) := by decide +kernel
theorem dL_law_1129 : decode cL_law 1129 = .ok (.iconst 0, 1) := by decide +kernel
theorem dL_law_1130 : decode cL_law 1130 = .ok (.ireturn, 1) := by decide +kernel
theorem dL_law_1131 : decode cL_law 1131 = .ok (.iload 5, 2) := by decide +kernel
theorem dL_law_1133 : decode cL_law 1133 = .ok (.ifCond .ne 15, 3) := by decide +kernel
theorem dL_law_1136 : decode cL_law 1136 = .ok (.aload_n 3, 1) := by decide +kernel
theorem dL_law_1137 : decode cL_law 1137 = .ok (.iconst 0, 1) := by decide +kernel
theorem dL_law_1138 : decode cL_law 1138 = .ok (.laload, 1) := by decide +kernel
theorem dL_law_1139 : decode cL_law 1139 = .ok (.iload 6, 2) := by decide +kernel
theorem dL_law_1141 : decode cL_law 1141 = .ok (.i2l, 1) := by decide +kernel
theorem dL_law_1142 : decode cL_law 1142 = .ok (.lcmp, 1) := by decide +kernel
theorem dL_law_1143 : decode cL_law 1143 = .ok (.ifCond .eq 5, 3) := by decide +kernel
theorem dL_law_1146 : decode cL_law 1146 = .ok (.iconst 0, 1) := by decide +kernel
theorem dL_law_1147 : decode cL_law 1147 = .ok (.ireturn, 1) := by decide +kernel
theorem dL_law_1148 : decode cL_law 1148 = .ok (.goto 404, 3) := by decide +kernel
theorem dL_law_1151 : decode cL_law 1151 = .ok (.aload_n 1, 1) := by decide +kernel
theorem dL_law_1152 : decode cL_law 1152 = .ok (.aload_n 0, 1) := by decide +kernel
theorem dL_law_1153 : decode cL_law 1153 = .ok (.iload 4, 2) := by decide +kernel
theorem dL_law_1155 : decode cL_law 1155 = .ok (.iconst 1, 1) := by decide +kernel
theorem dL_law_1156 : decode cL_law 1156 = .ok (.iadd, 1) := by decide +kernel
theorem dL_law_1157 : decode cL_law 1157 = .ok (.iaload, 1) := by decide +kernel
theorem dL_law_1158 : decode cL_law 1158 = .ok (.aload_n 3, 1) := by decide +kernel
theorem dL_law_1159 : decode cL_law 1159 = .ok (.invokestatic 172, 3) := by decide +kernel
theorem dL_law_1162 : decode cL_law 1162 = .ok (.istore 5, 2) := by decide +kernel
theorem dL_law_1164 : decode cL_law 1164 = .ok (.aload_n 2, 1) := by decide +kernel
theorem dL_law_1165 : decode cL_law 1165 = .ok (.aload_n 0, 1) := by decide +kernel
theorem dL_law_1166 : decode cL_law 1166 = .ok (.iload 4, 2) := by decide +kernel
theorem dL_law_1168 : decode cL_law 1168 = .ok (.iconst 1, 1) := by decide +kernel
theorem dL_law_1169 : decode cL_law 1169 = .ok (.iadd, 1) := by decide +kernel
theorem dL_law_1170 : decode cL_law 1170 = .ok (.iaload, 1) := by decide +kernel
theorem dL_law_1171 : decode cL_law 1171 = .ok (.invokevirtual 174, 3) := by decide +kernel
theorem dL_law_1174 : decode cL_law 1174 = .ok (.istore 6, 2) := by decide +kernel
theorem dL_law_1176 : decode cL_law 1176 = .ok (.aload_n 2, 1) := by decide +kernel
theorem dL_law_1177 : decode cL_law 1177 = .ok (.invokevirtual 91, 3) := by decide +kernel
theorem dL_law_1180 : decode cL_law 1180 = .ok (.iload 5, 2) := by decide +kernel
theorem dL_law_1182 : decode cL_law 1182 = .ok (.if_icmp .eq 5, 3) := by decide +kernel
theorem dL_law_1185 : decode cL_law 1185 = .ok (.iconst 0, 1) := by decide +kernel
theorem dL_law_1186 : decode cL_law 1186 = .ok (.ireturn, 1) := by decide +kernel
theorem dL_law_1187 : decode cL_law 1187 = .ok (.iload 5, 2) := by decide +kernel
theorem dL_law_1189 : decode cL_law 1189 = .ok (.ifCond .ne 15, 3) := by decide +kernel
theorem dL_law_1192 : decode cL_law 1192 = .ok (.aload_n 3, 1) := by decide +kernel
theorem dL_law_1193 : decode cL_law 1193 = .ok (.iconst 0, 1) := by decide +kernel
theorem dL_law_1194 : decode cL_law 1194 = .ok (.laload, 1) := by decide +kernel
theorem dL_law_1195 : decode cL_law 1195 = .ok (.iload 6, 2) := by decide +kernel
theorem dL_law_1197 : decode cL_law 1197 = .ok (.i2l, 1) := by decide +kernel
theorem dL_law_1198 : decode cL_law 1198 = .ok (.lcmp, 1) := by decide +kernel
theorem dL_law_1199 : decode cL_law 1199 = .ok (.ifCond .eq 5, 3) := by decide +kernel
theorem dL_law_1202 : decode cL_law 1202 = .ok (.iconst 0, 1) := by decide +kernel
theorem dL_law_1203 : decode cL_law 1203 = .ok (.ireturn, 1) := by decide +kernel
theorem dL_law_1204 : decode cL_law 1204 = .ok (.goto 348, 3) := by decide +kernel
theorem dL_law_1207 : decode cL_law 1207 = .ok (.aload_n 1, 1) := by decide +kernel
theorem dL_law_1208 : decode cL_law 1208 = .ok (.aload_n 0, 1) := by decide +kernel
theorem dL_law_1209 : decode cL_law 1209 = .ok (.iload 4, 2) := by decide +kernel
theorem dL_law_1211 : decode cL_law 1211 = .ok (.iconst 1, 1) := by decide +kernel
theorem dL_law_1212 : decode cL_law 1212 = .ok (.iadd, 1) := by decide +kernel
theorem dL_law_1213 : decode cL_law 1213 = .ok (.iaload, 1) := by decide +kernel
theorem dL_law_1214 : decode cL_law 1214 = .ok (.aload_n 0, 1) := by decide +kernel
theorem dL_law_1215 : decode cL_law 1215 = .ok (.iload 4, 2) := by decide +kernel
theorem dL_law_1217 : decode cL_law 1217 = .ok (.iconst 2, 1) := by decide +kernel
theorem dL_law_1218 : decode cL_law 1218 = .ok (.iadd, 1) := by decide +kernel
theorem dL_law_1219 : decode cL_law 1219 = .ok (.iaload, 1) := by decide +kernel
theorem dL_law_1220 : decode cL_law 1220 = .ok (.aload_n 3, 1) := by decide +kernel
theorem dL_law_1221 : decode cL_law 1221 = .ok (.invokestatic 175, 3) := by decide +kernel
theorem dL_law_1224 : decode cL_law 1224 = .ok (.istore 5, 2) := by decide +kernel
theorem dL_law_1226 : decode cL_law 1226 = .ok (.aload_n 2, 1) := by decide +kernel
theorem dL_law_1227 : decode cL_law 1227 = .ok (.aload_n 0, 1) := by decide +kernel
theorem dL_law_1228 : decode cL_law 1228 = .ok (.iload 4, 2) := by decide +kernel
theorem dL_law_1230 : decode cL_law 1230 = .ok (.iconst 1, 1) := by decide +kernel
theorem dL_law_1231 : decode cL_law 1231 = .ok (.iadd, 1) := by decide +kernel
theorem dL_law_1232 : decode cL_law 1232 = .ok (.iaload, 1) := by decide +kernel
theorem dL_law_1233 : decode cL_law 1233 = .ok (.aload_n 0, 1) := by decide +kernel
theorem dL_law_1234 : decode cL_law 1234 = .ok (.iload 4, 2) := by decide +kernel
theorem dL_law_1236 : decode cL_law 1236 = .ok (.iconst 2, 1) := by decide +kernel
theorem dL_law_1237 : decode cL_law 1237 = .ok (.iadd, 1) := by decide +kernel
theorem dL_law_1238 : decode cL_law 1238 = .ok (.iaload, 1) := by decide +kernel
theorem dL_law_1239 : decode cL_law 1239 = .ok (.invokevirtual 177, 3) := by decide +kernel
theorem dL_law_1242 : decode cL_law 1242 = .ok (.istore 6, 2) := by decide +kernel
theorem dL_law_1244 : decode cL_law 1244 = .ok (.aload_n 2, 1) := by decide +kernel
theorem dL_law_1245 : decode cL_law 1245 = .ok (.invokevirtual 91, 3) := by decide +kernel
theorem dL_law_1248 : decode cL_law 1248 = .ok (.iload 5, 2) := by decide +kernel
theorem dL_law_1250 : decode cL_law 1250 = .ok (.if_icmp .eq 5, 3) := by decide +kernel
theorem dL_law_1253 : decode cL_law 1253 = .ok (.iconst 0, 1) := by decide +kernel
theorem dL_law_1254 : decode cL_law 1254 = .ok (.ireturn, 1) := by decide +kernel
theorem dL_law_1255 : decode cL_law 1255 = .ok (.iload 5, 2) := by decide +kernel
theorem dL_law_1257 : decode cL_law 1257 = .ok (.ifCond .ne 15, 3) := by decide +kernel
theorem dL_law_1260 : decode cL_law 1260 = .ok (.aload_n 3, 1) := by decide +kernel
theorem dL_law_1261 : decode cL_law 1261 = .ok (.iconst 0, 1) := by decide +kernel
theorem dL_law_1262 : decode cL_law 1262 = .ok (.laload, 1) := by decide +kernel
theorem dL_law_1263 : decode cL_law 1263 = .ok (.iload 6, 2) := by decide +kernel
theorem dL_law_1265 : decode cL_law 1265 = .ok (.i2l, 1) := by decide +kernel
theorem dL_law_1266 : decode cL_law 1266 = .ok (.lcmp, 1) := by decide +kernel
theorem dL_law_1267 : decode cL_law 1267 = .ok (.ifCond .eq 5, 3) := by decide +kernel
theorem dL_law_1270 : decode cL_law 1270 = .ok (.iconst 0, 1) := by decide +kernel
theorem dL_law_1271 : decode cL_law 1271 = .ok (.ireturn, 1) := by decide +kernel
theorem dL_law_1272 : decode cL_law 1272 = .ok (.goto 280, 3) := by decide +kernel
theorem dL_law_1275 : decode cL_law 1275 = .ok (.aload_n 1, 1) := by decide +kernel
theorem dL_law_1276 : decode cL_law 1276 = .ok (.aload_n 0, 1) := by decide +kernel
theorem dL_law_1277 : decode cL_law 1277 = .ok (.iload 4, 2) := by decide +kernel
theorem dL_law_1279 : decode cL_law 1279 = .ok (.iconst 1, 1) := by decide +kernel
theorem dL_law_1280 : decode cL_law 1280 = .ok (.iadd, 1) := by decide +kernel
theorem dL_law_1281 : decode cL_law 1281 = .ok (.iaload, 1) := by decide +kernel
theorem dL_law_1282 : decode cL_law 1282 = .ok (.aload_n 3, 1) := by decide +kernel
theorem dL_law_1283 : decode cL_law 1283 = .ok (.invokestatic 178, 3) := by decide +kernel
theorem dL_law_1286 : decode cL_law 1286 = .ok (.istore 5, 2) := by decide +kernel
theorem dL_law_1288 : decode cL_law 1288 = .ok (.aload_n 2, 1) := by decide +kernel
theorem dL_law_1289 : decode cL_law 1289 = .ok (.aload_n 0, 1) := by decide +kernel
theorem dL_law_1290 : decode cL_law 1290 = .ok (.iload 4, 2) := by decide +kernel
theorem dL_law_1292 : decode cL_law 1292 = .ok (.iconst 1, 1) := by decide +kernel
theorem dL_law_1293 : decode cL_law 1293 = .ok (.iadd, 1) := by decide +kernel
theorem dL_law_1294 : decode cL_law 1294 = .ok (.iaload, 1) := by decide +kernel
theorem dL_law_1295 : decode cL_law 1295 = .ok (.invokevirtual 180, 3) := by decide +kernel
theorem dL_law_1298 : decode cL_law 1298 = .ok (.istore 6, 2) := by decide +kernel
theorem dL_law_1300 : decode cL_law 1300 = .ok (.aload_n 2, 1) := by decide +kernel
theorem dL_law_1301 : decode cL_law 1301 = .ok (.invokevirtual 91, 3) := by decide +kernel
theorem dL_law_1304 : decode cL_law 1304 = .ok (.iload 5, 2) := by decide +kernel
theorem dL_law_1306 : decode cL_law 1306 = .ok (.if_icmp .eq 5, 3) := by decide +kernel
theorem dL_law_1309 : decode cL_law 1309 = .ok (.iconst 0, 1) := by decide +kernel
theorem dL_law_1310 : decode cL_law 1310 = .ok (.ireturn, 1) := by decide +kernel
theorem dL_law_1311 : decode cL_law 1311 = .ok (.iload 5, 2) := by decide +kernel
theorem dL_law_1313 : decode cL_law 1313 = .ok (.ifCond .ne 15, 3) := by decide +kernel
theorem dL_law_1316 : decode cL_law 1316 = .ok (.aload_n 3, 1) := by decide +kernel
theorem dL_law_1317 : decode cL_law 1317 = .ok (.iconst 0, 1) := by decide +kernel
theorem dL_law_1318 : decode cL_law 1318 = .ok (.laload, 1) := by decide +kernel
theorem dL_law_1319 : decode cL_law 1319 = .ok (.iload 6, 2) := by decide +kernel
theorem dL_law_1321 : decode cL_law 1321 = .ok (.i2l, 1) := by decide +kernel
theorem dL_law_1322 : decode cL_law 1322 = .ok (.lcmp, 1) := by decide +kernel
theorem dL_law_1323 : decode cL_law 1323 = .ok (.ifCond .eq 5, 3) := by decide +kernel
theorem dL_law_1326 : decode cL_law 1326 = .ok (.iconst 0, 1) := by decide +kernel
theorem dL_law_1327 : decode cL_law 1327 = .ok (.ireturn, 1) := by decide +kernel
theorem dL_law_1328 : decode cL_law 1328 = .ok (.goto 224, 3) := by decide +kernel
theorem dL_law_1331 : decode cL_law 1331 = .ok (.aload_n 1, 1) := by decide +kernel
theorem dL_law_1332 : decode cL_law 1332 = .ok (.aload_n 0, 1) := by decide +kernel
theorem dL_law_1333 : decode cL_law 1333 = .ok (.iload 4, 2) := by decide +kernel
theorem dL_law_1335 : decode cL_law 1335 = .ok (.iconst 1, 1) := by decide +kernel
theorem dL_law_1336 : decode cL_law 1336 = .ok (.iadd, 1) := by decide +kernel
theorem dL_law_1337 : decode cL_law 1337 = .ok (.iaload, 1) := by decide +kernel
theorem dL_law_1338 : decode cL_law 1338 = .ok (.aload_n 0, 1) := by decide +kernel
theorem dL_law_1339 : decode cL_law 1339 = .ok (.iload 4, 2) := by decide +kernel
theorem dL_law_1341 : decode cL_law 1341 = .ok (.iconst 2, 1) := by decide +kernel
theorem dL_law_1342 : decode cL_law 1342 = .ok (.iadd, 1) := by decide +kernel
theorem dL_law_1343 : decode cL_law 1343 = .ok (.iaload, 1) := by decide +kernel
theorem dL_law_1344 : decode cL_law 1344 = .ok (.aload_n 0, 1) := by decide +kernel
theorem dL_law_1345 : decode cL_law 1345 = .ok (.iload 4, 2) := by decide +kernel
theorem dL_law_1347 : decode cL_law 1347 = .ok (.iconst 3, 1) := by decide +kernel
theorem dL_law_1348 : decode cL_law 1348 = .ok (.iadd, 1) := by decide +kernel
theorem dL_law_1349 : decode cL_law 1349 = .ok (.iaload, 1) := by decide +kernel
theorem dL_law_1350 : decode cL_law 1350 = .ok (.ifCond .eq 7, 3) := by decide +kernel
theorem dL_law_1353 : decode cL_law 1353 = .ok (.iconst 1, 1) := by decide +kernel
theorem dL_law_1354 : decode cL_law 1354 = .ok (.goto 4, 3) := by decide +kernel
theorem dL_law_1357 : decode cL_law 1357 = .ok (.iconst 0, 1) := by decide +kernel
theorem dL_law_1358 : decode cL_law 1358 = .ok (.aload_n 3, 1) := by decide +kernel
theorem dL_law_1359 : decode cL_law 1359 = .ok (.invokestatic 181, 3) := by decide +kernel
theorem dL_law_1362 : decode cL_law 1362 = .ok (.istore 5, 2) := by decide +kernel
theorem dL_law_1364 : decode cL_law 1364 = .ok (.aload_n 2, 1) := by decide +kernel
theorem dL_law_1365 : decode cL_law 1365 = .ok (.aload_n 0, 1) := by decide +kernel
theorem dL_law_1366 : decode cL_law 1366 = .ok (.iload 4, 2) := by decide +kernel
theorem dL_law_1368 : decode cL_law 1368 = .ok (.iconst 1, 1) := by decide +kernel
theorem dL_law_1369 : decode cL_law 1369 = .ok (.iadd, 1) := by decide +kernel
theorem dL_law_1370 : decode cL_law 1370 = .ok (.iaload, 1) := by decide +kernel
theorem dL_law_1371 : decode cL_law 1371 = .ok (.aload_n 0, 1) := by decide +kernel
theorem dL_law_1372 : decode cL_law 1372 = .ok (.iload 4, 2) := by decide +kernel
theorem dL_law_1374 : decode cL_law 1374 = .ok (.iconst 2, 1) := by decide +kernel
theorem dL_law_1375 : decode cL_law 1375 = .ok (.iadd, 1) := by decide +kernel
theorem dL_law_1376 : decode cL_law 1376 = .ok (.iaload, 1) := by decide +kernel
theorem dL_law_1377 : decode cL_law 1377 = .ok (.aload_n 0, 1) := by decide +kernel
theorem dL_law_1378 : decode cL_law 1378 = .ok (.iload 4, 2) := by decide +kernel
theorem dL_law_1380 : decode cL_law 1380 = .ok (.iconst 3, 1) := by decide +kernel
theorem dL_law_1381 : decode cL_law 1381 = .ok (.iadd, 1) := by decide +kernel
theorem dL_law_1382 : decode cL_law 1382 = .ok (.iaload, 1) := by decide +kernel
theorem dL_law_1383 : decode cL_law 1383 = .ok (.ifCond .eq 7, 3) := by decide +kernel
theorem dL_law_1386 : decode cL_law 1386 = .ok (.iconst 1, 1) := by decide +kernel
theorem dL_law_1387 : decode cL_law 1387 = .ok (.goto 4, 3) := by decide +kernel
theorem dL_law_1390 : decode cL_law 1390 = .ok (.iconst 0, 1) := by decide +kernel
theorem dL_law_1391 : decode cL_law 1391 = .ok (.invokevirtual 184, 3) := by decide +kernel
theorem dL_law_1394 : decode cL_law 1394 = .ok (.istore 6, 2) := by decide +kernel
theorem dL_law_1396 : decode cL_law 1396 = .ok (.aload_n 2, 1) := by decide +kernel
theorem dL_law_1397 : decode cL_law 1397 = .ok (.invokevirtual 91, 3) := by decide +kernel
theorem dL_law_1400 : decode cL_law 1400 = .ok (.iload 5, 2) := by decide +kernel
theorem dL_law_1402 : decode cL_law 1402 = .ok (.if_icmp .eq 5, 3) := by decide +kernel
theorem dL_law_1405 : decode cL_law 1405 = .ok (.iconst 0, 1) := by decide +kernel
theorem dL_law_1406 : decode cL_law 1406 = .ok (.ireturn, 1) := by decide +kernel
theorem dL_law_1407 : decode cL_law 1407 = .ok (.iload 5, 2) := by decide +kernel
theorem dL_law_1409 : decode cL_law 1409 = .ok (.ifCond .ne 22, 3) := by decide +kernel
theorem dL_law_1412 : decode cL_law 1412 = .ok (.aload_n 3, 1) := by decide +kernel
theorem dL_law_1413 : decode cL_law 1413 = .ok (.iconst 0, 1) := by decide +kernel
theorem dL_law_1414 : decode cL_law 1414 = .ok (.laload, 1) := by decide +kernel
theorem dL_law_1415 : decode cL_law 1415 = .ok (.iload 6, 2) := by decide +kernel
theorem dL_law_1417 : decode cL_law 1417 = .ok (.ifCond .eq 7, 3) := by decide +kernel
theorem dL_law_1420 : decode cL_law 1420 = .ok (.lconst 1, 1) := by decide +kernel
theorem dL_law_1421 : decode cL_law 1421 = .ok (.goto 4, 3) := by decide +kernel
theorem dL_law_1424 : decode cL_law 1424 = .ok (.lconst 0, 1) := by decide +kernel
theorem dL_law_1425 : decode cL_law 1425 = .ok (.lcmp, 1) := by decide +kernel
theorem dL_law_1426 : decode cL_law 1426 = .ok (.ifCond .eq 5, 3) := by decide +kernel
theorem dL_law_1429 : decode cL_law 1429 = .ok (.iconst 0, 1) := by decide +kernel
theorem dL_law_1430 : decode cL_law 1430 = .ok (.ireturn, 1) := by decide +kernel
theorem dL_law_1431 : decode cL_law 1431 = .ok (.goto 121, 3) := by decide +kernel
theorem dL_law_1434 : decode cL_law 1434 = .ok (.aload_n 1, 1) := by decide +kernel
theorem dL_law_1435 : decode cL_law 1435 = .ok (.aload_n 0, 1) := by decide +kernel
theorem dL_law_1436 : decode cL_law 1436 = .ok (.iload 4, 2) := by decide +kernel
theorem dL_law_1438 : decode cL_law 1438 = .ok (.iconst 1, 1) := by decide +kernel
theorem dL_law_1439 : decode cL_law 1439 = .ok (.iadd, 1) := by decide +kernel
theorem dL_law_1440 : decode cL_law 1440 = .ok (.iaload, 1) := by decide +kernel
theorem dL_law_1441 : decode cL_law 1441 = .ok (.aload_n 0, 1) := by decide +kernel
theorem dL_law_1442 : decode cL_law 1442 = .ok (.iload 4, 2) := by decide +kernel
theorem dL_law_1444 : decode cL_law 1444 = .ok (.iconst 2, 1) := by decide +kernel
theorem dL_law_1445 : decode cL_law 1445 = .ok (.iadd, 1) := by decide +kernel
theorem dL_law_1446 : decode cL_law 1446 = .ok (.iaload, 1) := by decide +kernel
theorem dL_law_1447 : decode cL_law 1447 = .ok (.ifCond .eq 7, 3) := by decide +kernel
theorem dL_law_1450 : decode cL_law 1450 = .ok (.iconst 1, 1) := by decide +kernel
theorem dL_law_1451 : decode cL_law 1451 = .ok (.goto 4, 3) := by decide +kernel
theorem dL_law_1454 : decode cL_law 1454 = .ok (.iconst 0, 1) := by decide +kernel
theorem dL_law_1455 : decode cL_law 1455 = .ok (.aload_n 3, 1) := by decide +kernel
theorem dL_law_1456 : decode cL_law 1456 = .ok (.invokestatic 185, 3) := by decide +kernel
theorem dL_law_1459 : decode cL_law 1459 = .ok (.istore 5, 2) := by decide +kernel
theorem dL_law_1461 : decode cL_law 1461 = .ok (.aload_n 2, 1) := by decide +kernel
theorem dL_law_1462 : decode cL_law 1462 = .ok (.aload_n 0, 1) := by decide +kernel
theorem dL_law_1463 : decode cL_law 1463 = .ok (.iload 4, 2) := by decide +kernel
theorem dL_law_1465 : decode cL_law 1465 = .ok (.iconst 1, 1) := by decide +kernel
theorem dL_law_1466 : decode cL_law 1466 = .ok (.iadd, 1) := by decide +kernel
theorem dL_law_1467 : decode cL_law 1467 = .ok (.iaload, 1) := by decide +kernel
theorem dL_law_1468 : decode cL_law 1468 = .ok (.aload_n 0, 1) := by decide +kernel
theorem dL_law_1469 : decode cL_law 1469 = .ok (.iload 4, 2) := by decide +kernel
theorem dL_law_1471 : decode cL_law 1471 = .ok (.iconst 2, 1) := by decide +kernel
theorem dL_law_1472 : decode cL_law 1472 = .ok (.iadd, 1) := by decide +kernel
theorem dL_law_1473 : decode cL_law 1473 = .ok (.iaload, 1) := by decide +kernel
theorem dL_law_1474 : decode cL_law 1474 = .ok (.ifCond .eq 7, 3) := by decide +kernel
theorem dL_law_1477 : decode cL_law 1477 = .ok (.iconst 1, 1) := by decide +kernel
theorem dL_law_1478 : decode cL_law 1478 = .ok (.goto 4, 3) := by decide +kernel
theorem dL_law_1481 : decode cL_law 1481 = .ok (.iconst 0, 1) := by decide +kernel
theorem dL_law_1482 : decode cL_law 1482 = .ok (.invokevirtual 188, 3) := by decide +kernel
theorem dL_law_1485 : decode cL_law 1485 = .ok (.istore 6, 2) := by decide +kernel
theorem dL_law_1487 : decode cL_law 1487 = .ok (.aload_n 2, 1) := by decide +kernel
theorem dL_law_1488 : decode cL_law 1488 = .ok (.invokevirtual 91, 3) := by decide +kernel
theorem dL_law_1491 : decode cL_law 1491 = .ok (.iload 5, 2) := by decide +kernel
theorem dL_law_1493 : decode cL_law 1493 = .ok (.if_icmp .eq 5, 3) := by decide +kernel
theorem dL_law_1496 : decode cL_law 1496 = .ok (.iconst 0, 1) := by decide +kernel
theorem dL_law_1497 : decode cL_law 1497 = .ok (.ireturn, 1) := by decide +kernel
theorem dL_law_1498 : decode cL_law 1498 = .ok (.iload 5, 2) := by decide +kernel
theorem dL_law_1500 : decode cL_law 1500 = .ok (.ifCond .ne 22, 3) := by decide +kernel
theorem dL_law_1503 : decode cL_law 1503 = .ok (.aload_n 3, 1) := by decide +kernel
theorem dL_law_1504 : decode cL_law 1504 = .ok (.iconst 0, 1) := by decide +kernel
theorem dL_law_1505 : decode cL_law 1505 = .ok (.laload, 1) := by decide +kernel
theorem dL_law_1506 : decode cL_law 1506 = .ok (.iload 6, 2) := by decide +kernel
theorem dL_law_1508 : decode cL_law 1508 = .ok (.ifCond .eq 7, 3) := by decide +kernel
theorem dL_law_1511 : decode cL_law 1511 = .ok (.lconst 1, 1) := by decide +kernel
theorem dL_law_1512 : decode cL_law 1512 = .ok (.goto 4, 3) := by decide +kernel
theorem dL_law_1515 : decode cL_law 1515 = .ok (.lconst 0, 1) := by decide +kernel
theorem dL_law_1516 : decode cL_law 1516 = .ok (.lcmp, 1) := by decide +kernel
theorem dL_law_1517 : decode cL_law 1517 = .ok (.ifCond .eq 5, 3) := by decide +kernel
theorem dL_law_1520 : decode cL_law 1520 = .ok (.iconst 0, 1) := by decide +kernel
theorem dL_law_1521 : decode cL_law 1521 = .ok (.ireturn, 1) := by decide +kernel
theorem dL_law_1522 : decode cL_law 1522 = .ok (.goto 30, 3) := by decide +kernel
theorem dL_law_1525 : decode cL_law 1525 = .ok (.aload_n 1, 1) := by decide +kernel
theorem dL_law_1526 : decode cL_law 1526 = .ok (.invokevirtual 189, 3) := by decide +kernel
theorem dL_law_1529 : decode cL_law 1529 = .ok (.aload_n 2, 1) := by decide +kernel
theorem dL_law_1530 : decode cL_law 1530 = .ok (.invokevirtual 192, 3) := by decide +kernel
theorem dL_law_1533 : decode cL_law 1533 = .ok (.if_icmp .eq 19, 3) := by decide +kernel
theorem dL_law_1536 : decode cL_law 1536 = .ok (.iconst 0, 1) := by decide +kernel
theorem dL_law_1537 : decode cL_law 1537 = .ok (.ireturn, 1) := by decide +kernel
theorem dL_law_1538 : decode cL_law 1538 = .ok (.aload_n 1, 1) := by decide +kernel
theorem dL_law_1539 : decode cL_law 1539 = .ok (.invokevirtual 193, 3) := by decide +kernel
theorem dL_law_1542 : decode cL_law 1542 = .ok (.aload_n 2, 1) := by decide +kernel
theorem dL_law_1543 : decode cL_law 1543 = .ok (.invokevirtual 197, 3) := by decide +kernel
theorem dL_law_1546 : decode cL_law 1546 = .ok (.lcmp, 1) := by decide +kernel
theorem dL_law_1547 : decode cL_law 1547 = .ok (.ifCond .eq 5, 3) := by decide +kernel
theorem dL_law_1550 : decode cL_law 1550 = .ok (.iconst 0, 1) := by decide +kernel
theorem dL_law_1551 : decode cL_law 1551 = .ok (.ireturn, 1) := by decide +kernel
theorem dL_law_1552 : decode cL_law 1552 = .ok (.iinc 4 6, 3) := by decide +kernel
theorem dL_law_1555 : decode cL_law 1555 = .ok (.goto (-1532), 3) := by decide +kernel
theorem dL_law_1558 : decode cL_law 1558 = .ok (.iconst 1, 1) := by decide +kernel
theorem dL_law_1559 : decode cL_law 1559 = .ok (.ireturn, 1) := by decide +kernel
end
section
abbrev Gl : Type := va_G × (Nat → ClassId) × (Nat → Nat) × (Nat → Nat)
def gtys (g : Gl) : List (ClassId × FieldType) := [(g.2.1 0, .int), (g.2.1 1, .long), (g.2.1 2, .byte), (g.2.1 3, .boolean), (g.2.1 4, .object "TunnelControlDesk$Tunnel"), (g.2.1 5, .array .int)]
def GT : List Cond := lw_tbl.filter goodWord
theorem gt_of {w : Cond} (h : w ∈ lw_tbl) (g : goodWord w = true) : w ∈ GT := List.mem_filter.mpr ⟨h, g⟩
theorem gt_lw {w : Cond} (h : w ∈ GT) : w ∈ lw_tbl := (List.mem_filter.mp h).1
theorem gt_good {w : Cond} (h : w ∈ GT) : goodWord w = true := (List.mem_filter.mp h).2
def wsM (y : MethodName) (cc : ByteArray) (nL : Nat) (ret : Option FieldType) : List Cond := .code y cc nL ret :: GT
theorem wsM_good {y : MethodName} {cc : ByteArray} {nL : Nat} {ret : Option FieldType} (h : Cond.code y cc nL ret ∈ GT) : GoodIn GT (wsM y cc nL ret) := fun w hw => by
  rcases List.mem_cons.mp hw with e | hw
  · subst e
    exact ⟨h, good_of_word (gt_good h)⟩
  · exact ⟨hw, good_of_word (gt_good hw)⟩
/-- what stays as the start gave it: statics of Throwable, the text constants -/
def sTab : List (String × Nat × String × Nat) := [("TunnelControlDesk$SetupReader", 69, "tunnel", 0), ("TunnelControlDesk$SetupReader", 100, "bay", 1), ("TunnelControlDesk$SetupReader", 105, "vent", 2), ("TunnelControlDesk$SetupReader", 110, "fan", 3), ("TunnelControlDesk$SetupReader", 115, "car", 4), ("TunnelControlDesk$SetupReader", 120, "fire", 5), ("TunnelControlDesk$SetupReader", 125, "draft", 6), ("TunnelControlDesk$SetupReader", 130, "red", 7), ("TunnelControlDesk$SetupReader", 135, "rate", 8), ("TunnelControlDesk$SetupReader", 221, "clock", 9), ("TunnelControlDesk$SetupReader", 223, "cars", 10), ("TunnelControlDesk$SetupReader", 224, "flow", 11), ("TunnelControlDesk$SetupReader", 226, "east", 12), ("TunnelControlDesk$SetupReader", 228, "west", 13), ("TunnelControlDeskModel", 198, "tunnel", 0), ("TunnelControlDeskModel", 168, "bay", 1), ("TunnelControlDeskModel", 173, "vent", 2), ("TunnelControlDeskModel", 175, "fan", 3), ("TunnelControlDeskModel", 180, "car", 4), ("TunnelControlDeskModel", 184, "fire", 5), ("TunnelControlDeskModel", 189, "draft", 6), ("TunnelControlDeskModel", 190, "red", 7), ("TunnelControlDeskModel", 192, "rate", 8), ("TunnelControlDeskModel", 125, "clock", 9), ("TunnelControlDeskModel", 127, "cars", 10), ("TunnelControlDeskModel", 129, "flow", 11), ("TunnelControlDeskModel", 107, "east", 12), ("TunnelControlDeskModel", 113, "west", 13)]
def xTab : List (Nat × String) := [(57, "length is not within the input buffer"), (123, "what is not 0 to 3"), (164, "limit is not 0 to 200"), (184, "setting is not -10 to 10"), (186, "ticks is not 0 to 60"), (199, "ticks is not 1 to 100"), (203, "there is no tunnel"), (206, "the clock would exceed 10000"), (211, "the section has no bay"), (223, "there is no such section"), (226, "there is no such car"), (231, "the section has no fan"), (233, "direction is not 1 or -1")]
def lenS : List Nat := [6, 3, 4, 3, 3, 4, 5, 3, 4, 5, 4, 4, 4, 4]
def bytS : List (List Int32) := [[116, 117, 110, 110, 101, 108], [98, 97, 121], [118, 101, 110, 116], [102, 97, 110], [99, 97, 114], [102, 105, 114, 101], [100, 114, 97, 102, 116], [114, 101, 100], [114, 97, 116, 101], [99, 108, 111, 99, 107], [99, 97, 114, 115], [102, 108, 111, 119], [101, 97, 115, 116], [119, 101, 115, 116]]
def nTab : List (String × Nat × MethodName × String) := [("TunnelControlDesk", 9, yX2_init, "TunnelControlDesk"), ("TunnelControlDesk$SetupReader", 11, yX1_init, "TunnelControlDesk"), ("TunnelControlDesk$SetupReader", 187, yX6_laneIndex, "TunnelControlDesk"), ("TunnelControlDesk$SetupReader", 33, yX2_init, "TunnelControlDesk"), ("TunnelControlDesk$Tunnel", 65, yX6_laneIndex, "TunnelControlDesk")]
def cTab : List (String × String) := [("java/lang/IndexOutOfBoundsException", "java/lang/IndexOutOfBoundsException"), ("java/lang/IllegalArgumentException", "java/lang/IllegalArgumentException"), ("java/lang/IllegalStateException", "java/lang/IllegalStateException")]
def ncTab : List (String × String) := [("java/lang/IllegalStateException", "java/lang/IndexOutOfBoundsException"), ("java/lang/IllegalArgumentException", "java/lang/IndexOutOfBoundsException"), ("java/lang/IllegalStateException", "java/lang/IllegalArgumentException")]
/-- what the tables alone say -/
def GV (g : Gl) (U : State) : Prop := (∀ q ∈ sTab, vk_R q.1 q.2.1 q.2.2.1 (g.2.2.1 q.2.2.2) U) ∧ (∀ q ∈ xTab, ∃ a : Nat, vk_R "TunnelControlDesk" q.1 q.2 a U) ∧ (∀ q ∈ nTab, va_Nw (.methodLinkNest q.1 q.2.1 q.2.2.1 q.2.2.2) U) ∧ va_AO "TunnelControlDesk$Tunnel" U ∧ (∀ q ∈ ncTab, va_Nc q.1 q.2 U) ∧ (∀ q ∈ cTab, (Cond.castable q.1 q.2).before #[] U = true)
theorem castable_moved {a b : String} {u U : State} (hvm : u.vm.Alike U.vm) (h : (Cond.castable a b).before #[] u = true) : (Cond.castable a b).before #[] U = true := by
  obtain ⟨c3, c4, hc3, hc4, hasg⟩ := Cond.castable_spec h
  simp [Cond.before, Cond.holds, Cond.value, hvm.findClass, hvm.assignable, hc3, hc4, hasg]
theorem GV.moved {g : Gl} {u U : State} (hW : u.WarmedH U.vm) (h : GV g u) : GV g U := by
  obtain ⟨h1, h2, h3, h4, h5, h6⟩ := h
  refine ⟨fun q hq => (h1 q hq).warm hW, fun q hq => ?_, fun q hq => (h3 q hq).warmM hW, h4.moved hW.alike, fun q hq => (h5 q hq).moved hW.alike, fun q hq => castable_moved hW.alike (h6 q hq)⟩
  obtain ⟨a, ha⟩ := h2 q hq
  exact ⟨a, ha.warm hW⟩
theorem GV.same {g : Gl} {u U : State} (hv : U.vm = u.vm) (h : GV g u) : GV g U := by
  have e : u.vm.Alike U.vm := by rw [hv]; exact Vm.Alike.refl _
  obtain ⟨h1, h2, h3, h4, h5, h6⟩ := h
  refine ⟨fun q hq => (h1 q hq).same hv, fun q hq => ?_, fun q hq => va_Nw.same rfl hv.symm (h3 q hq), h4.moved e, fun q hq => (h5 q hq).moved e, fun q hq => castable_moved e (h6 q hq)⟩
  obtain ⟨a, ha⟩ := h2 q hq
  exact ⟨a, ha.same hv⟩
/-- what stays as the start gave it: statics of Throwable, the text constants -/
def GH (g : Gl) (A : Nat → Prop) (U : State) (H : Heap) : Prop := vx_Zq Bundle.tN "UNASSIGNED_STACK" Bundle.steD A U H ∧ vx_Zq Bundle.tN "SUPPRESSED_SENTINEL" Bundle.listD A U H ∧ va_Z "java/lang/String" "COMPACT_STRINGS" "Z" (.int 1) A U H ∧ va_Zq "jdk/internal/util/Preconditions" "SIOOBE_FORMATTER" "Ljava/util/function/BiFunction;" A U H ∧
  vk_S 14 lenS bytS g.2.2.1 g.2.2.2 A U H ∧ GV g U
theorem GH.moved {g : Gl} {A : Nat → Prop} {u U : State} {H : Heap} (hW : u.WarmedH U.vm) (h : GH g A u H) : GH g A U H := by
  obtain ⟨h1, h2, h3, h4, h5, h6⟩ := h
  exact ⟨h1.moved hW.alike, h2.moved hW.alike, h3.moved hW.alike, h4.moved hW.alike, h5.moved hW.alike, h6.moved hW⟩
theorem GH.same {g : Gl} {A : Nat → Prop} {u U : State} {H : Heap} (hv : U.vm = u.vm) (h : GH g A u H) : GH g A U H := by
  have e : u.vm.Alike U.vm := by rw [hv]; exact Vm.Alike.refl _
  obtain ⟨h1, h2, h3, h4, h5, h6⟩ := h
  exact ⟨h1.moved e, h2.moved e, h3.moved e, h4.moved e, h5.moved e, h6.same hv⟩
theorem GH.kept {g : Gl} {A : Nat → Prop} {U : State} {H H1 : Heap} (h : GH g A U H) (hq : ∀ a : Nat, a < H.size → ¬ A a → H1[a]? = H[a]?) : GH g A U H1 := by
  obtain ⟨h1, h2, h3, h4, h5, h6⟩ := h
  exact ⟨h1.kept hq, h2.kept hq, h3.kept hq, h4.kept hq, h5.kept hq, h6⟩
theorem GH.narrow {g : Gl} {A B : Nat → Prop} {U : State} {H : Heap} (h : GH g A U H) (hAB : ∀ q, B q → A q) : GH g B U H := by
  obtain ⟨h1, h2, h3, h4, h5, h6⟩ := h
  exact ⟨h1.narrow hAB, h2.narrow hAB, h3.narrow hAB, h4.narrow hAB, h5.narrow hAB, h6⟩
theorem GH.gv {g : Gl} {A : Nat → Prop} {U : State} {H : Heap} (h : GH g A U H) : GV g U := h.2.2.2.2.2
abbrev QT : Type := Option Value → va_W → Prop
abbrev XT : Type := String → va_W → Prop
abbrev KT : Type := Heap → List Loc → Nat → Nat → Nat → Array Slot → List Value → Prop
def noX : XT := fun _ _ => False
def cQ (g : Gl) (sz : Nat) (ws : va_W) (Q : QT) : Array Value → State → Outcome → State → Prop := fun _ st oc t =>
  (∃ (v : Option Value) (w : va_W), oc = .returned v ∧ Q v w ∧ va_P g.1 vwCl w t.heap ∧ va_D (va_A ws sz) w) ∧ va_F (va_A ws sz) st t
def cX (g : Gl) (sz : Nat) (ws : va_W) (X : XT) : String → State → State → Prop := fun E st t =>
  (∃ w : va_W, X E w ∧ va_P g.1 vwCl w t.heap ∧ va_D (va_A ws sz) w) ∧ va_F (va_A ws sz) st t
def cP (g : Gl) (sz : Nat) (ws : va_W) (args : List Value) : Array Value → State → Prop :=
  va_Pc args (fun U => U.heap.size = sz ∧ va_P g.1 vwCl ws U.heap ∧ va_K g.1 vwCl (gtys g) U ∧ va_D (fun _ => True) ws ∧ GH g (va_A ws sz) U U.heap)
/-- a method's contract: at most mc cells of ms slots are made, at most fr frames and lo words -/
def Ct (l : Launch) (g : Gl) (y : MethodName) (cc : ByteArray) (nL : Nat) (ret : Option FieldType) (fr lo mc ms : Nat) (args : List Value) (ws : va_W) (Q : QT) (X : XT) : Prop :=
  ∀ sz : Nat, vx_Met l y (wsM y cc nL ret) { frames := fr, cells := mc, slots := ms, locals := lo } (cP g sz ws args) (cQ g sz ws Q) (cX g sz ws X) mc ms (va_A ws sz)
/-! the locals as a list of places -/
def lvlF : Nat → List (Option Value) → List (Nat × Value)
  | _, [] => []
  | i, some v :: t => (i, v) :: lvlF (i + 1) t
  | i, none :: t => lvlF (i + 1) t
def lvl (lv : List (Option Value)) : List (Nat × Value) := lvlF 0 lv
theorem lvlF_mem : ∀ (lv : List (Option Value)) (b j : Nat) (v : Value), (j, v) ∈ lvlF b lv ↔ ∃ k, j = b + k ∧ lv[k]? = some (some v)
  | [], b, j, v => by simp [lvlF]
  | none :: t, b, j, v => by
    rw [lvlF, lvlF_mem t (b + 1) j v]
    constructor
    · rintro ⟨k, e, h⟩
      exact ⟨k + 1, by omega, by simpa using h⟩
    · rintro ⟨k, e, h⟩
      cases k with
      | zero => simp at h
      | succ k => exact ⟨k, by omega, by simpa using h⟩
  | some w :: t, b, j, v => by
    rw [lvlF, List.mem_cons, lvlF_mem t (b + 1) j v]
    constructor
    · rintro (h | ⟨k, e, h⟩)
      · cases h
        exact ⟨0, by omega, by simp⟩
      · exact ⟨k + 1, by omega, by simpa using h⟩
    · rintro ⟨k, e, h⟩
      cases k with
      | zero =>
        left
        simp at h
        rw [h, e]; rfl
      | succ k => exact Or.inr ⟨k, by omega, by simpa using h⟩
theorem lvl_mem {lv : List (Option Value)} {j : Nat} {v : Value} : (j, v) ∈ lvl lv ↔ lv[j]? = some (some v) := by
  unfold lvl
  rw [lvlF_mem]
  constructor
  · rintro ⟨k, e, h⟩
    have : j = k := by omega
    rw [this]; exact h
  · intro h
    exact ⟨j, by omega, h⟩
/-- the k-th of a list -/
def Gp {α : Type} (k : Nat) (l : List α) (x : α) : Prop := l[k]? = some x
theorem gp0 {α : Type} {x : α} {t : List α} : Gp 0 (x :: t) x := rfl
theorem gps {α : Type} {k : Nat} {x a : α} {t : List α} (h : Gp k t x) : Gp (k + 1) (a :: t) x := h
/-- the list with x at k -/
def Wp {α : Type} (k : Nat) (l : List α) (x : α) (l' : List α) : Prop := l.set k x = l'
theorem wp0 {α : Type} {x a : α} {t : List α} : Wp 0 (a :: t) x (x :: t) := rfl
theorem wps {α : Type} {k : Nat} {x a : α} {t t' : List α} (h : Wp k t x t') : Wp (k + 1) (a :: t) x (a :: t') := by
  show a :: t.set k x = a :: t'
  rw [show t.set k x = t' from h]
/-- storing v (wide or not) in place i -/
def St (b : Bool) (i : Nat) (v : Value) (lv lv' : List (Option Value)) : Prop := ∀ (j : Nat) (w : Value), lv'[j]? = some (some w) → (j = i ∧ w = v) ∨ (lv[j]? = some (some w) ∧ j ≠ i ∧ (b = true → j ≠ i + 1) ∧ ¬ (j + 1 = i ∧ w.category = 2))
theorem st0 {v : Value} {o : Option Value} {t : List (Option Value)} : St false 0 v (o :: t) (some v :: t) := by
  intro j w h
  cases j with
  | zero => simp at h; exact Or.inl ⟨rfl, h.symm⟩
  | succ j => exact Or.inr ⟨by simpa using h, by omega, by simp, by omega⟩
theorem st0w {v : Value} {o o2 : Option Value} {t : List (Option Value)} : St true 0 v (o :: o2 :: t) (some v :: none :: t) := by
  intro j w h
  match j, h with
  | 0, h => simp at h; exact Or.inl ⟨rfl, h.symm⟩
  | 1, h => simp at h
  | j + 2, h => exact Or.inr ⟨by simpa using h, by omega, by omega, by omega⟩
theorem sts1 {b : Bool} {v w0 : Value} {t t' : List (Option Value)} (hw : w0.category = 1) (h : St b 0 v t t') : St b 1 v (some w0 :: t) (some w0 :: t') := by
  intro j w hj
  cases j with
  | zero =>
    simp at hj
    exact Or.inr ⟨by simp [hj], by omega, by omega, by rw [← hj]; omega⟩
  | succ j =>
    rcases h j w (by simpa using hj) with ⟨a, e⟩ | ⟨a, b1, c, d⟩
    · exact Or.inl ⟨by omega, e⟩
    · exact Or.inr ⟨by simpa using a, by omega, fun z => by have := c z; omega, fun z => d ⟨by omega, z.2⟩⟩
theorem sts1n {b : Bool} {v : Value} {o : Option Value} {t t' : List (Option Value)} (h : St b 0 v t t') : St b 1 v (o :: t) (none :: t') := by
  intro j w hj
  cases j with
  | zero => simp at hj
  | succ j =>
    rcases h j w (by simpa using hj) with ⟨a, e⟩ | ⟨a, b1, c, d⟩
    · exact Or.inl ⟨by omega, e⟩
    · exact Or.inr ⟨by simpa using a, by omega, fun z => by have := c z; omega, fun z => d ⟨by omega, z.2⟩⟩
theorem sts {b : Bool} {i : Nat} {v : Value} {a0 : Option Value} {t t' : List (Option Value)} (h : St b (i + 1) v t t') : St b (i + 2) v (a0 :: t) (a0 :: t') := by
  intro j w hj
  cases j with
  | zero => exact Or.inr ⟨by simpa using hj, by omega, by omega, by omega⟩
  | succ j =>
    rcases h j w (by simpa using hj) with ⟨a, e⟩ | ⟨a, b1, c, d⟩
    · exact Or.inl ⟨by omega, e⟩
    · exact Or.inr ⟨by simpa using a, by omega, fun z => by have := c z; omega, fun z => d ⟨by omega, z.2⟩⟩
theorem st_1 {ls : Array Slot} {nL i : Nat} {v : Value} {lv lv' : List (Option Value)} (hs : St false i v lv lv') (h : lv_has ls nL ((i, v) :: (lvl lv).filter (fun q => !(q.1 == i) && !(q.1 + 1 == i && q.2.category == 2)))) : lv_has ls nL (lvl lv') := by
  refine ⟨h.1, h.2.1, fun q hq => h.2.2 q ?_⟩
  obtain ⟨j, w⟩ := q
  rcases hs j w (lvl_mem.mp hq) with ⟨rfl, rfl⟩ | ⟨a, b, -, d⟩
  · exact List.mem_cons_self
  · refine List.mem_cons_of_mem _ (List.mem_filter.mpr ⟨lvl_mem.mpr a, ?_⟩)
    simp only [Bool.and_eq_true, Bool.not_eq_true', beq_eq_false_iff_ne, ne_eq, Bool.and_eq_false_iff]
    refine ⟨b, ?_⟩
    by_cases e : j + 1 = i
    · exact Or.inr (fun z => d ⟨e, z⟩)
    · exact Or.inl e
theorem st_2 {ls : Array Slot} {nL i : Nat} {v : Value} {lv lv' : List (Option Value)} (hs : St true i v lv lv') (h : lv_has ls nL ((i, v) :: (lvl lv).filter (fun q => !(q.1 == i) && (!(q.1 == i + 1) && !(q.1 + 1 == i && q.2.category == 2))))) : lv_has ls nL (lvl lv') := by
  refine ⟨h.1, h.2.1, fun q hq => h.2.2 q ?_⟩
  obtain ⟨j, w⟩ := q
  rcases hs j w (lvl_mem.mp hq) with ⟨rfl, rfl⟩ | ⟨a, b, c, d⟩
  · exact List.mem_cons_self
  · refine List.mem_cons_of_mem _ (List.mem_filter.mpr ⟨lvl_mem.mpr a, ?_⟩)
    simp only [Bool.and_eq_true, Bool.not_eq_true', beq_eq_false_iff_ne, ne_eq, Bool.and_eq_false_iff]
    refine ⟨b, c rfl, ?_⟩
    by_cases e : j + 1 = i
    · exact Or.inr (fun z => d ⟨e, z⟩)
    · exact Or.inl e
theorem lv_gp {ls : Array Slot} {nL k : Nat} {v : Value} {lv : List (Option Value)} (h : lv_has ls nL (lvl lv)) (hk : Gp k lv (some v)) : ls[k]? = some (.val v) := h.2.2 (k, v) (lvl_mem.mpr hk)
/-- from a point of a method on: places, stack, world, what is made so far -/
def AW (g : Gl) (A : Nat → Prop) (H0 : Heap) (nL : Nat) (K : KT) (pc : Nat) (lv : List (Option Value)) (st : List Value) (ws : va_W) (cn sn : Nat) : Prop :=
  ∀ (H : Heap) (locs : List Loc) (ls : Array Slot), va_P g.1 vwCl ws H → va_D A ws → va_S A H0 H locs → lv_has ls nL (lvl lv) → K H locs cn sn pc ls st
def OkB (l : Launch) (g : Gl) (own : String) (nm : String) (cc : ByteArray) (nL : Nat) (ret : Option FieldType) (R : Room) (A : Nat → Prop) (H0 : Heap) (K : KT) : Prop :=
  ∃ (p : Program) (e : Env) (s : State) (m : MethodId) (args : Array Value) (below : List Frame) (meth : Method) (c : Code) (Q : State → Prop),
    K = (fun H locs cn sn pc ls st => W p l e R s m args below meth c H locs cn sn Q (F0 m pc ls st)) ∧ H0 = s.heap ∧ p.tables.exec = Jvm.exec ∧ c.code = cc ∧ c.maxLocals = nL ∧ s.vm.findClass own = some m.cls ∧
    (∀ w ∈ GT, w.before args s = true) ∧ meth.sig.returnType = ret ∧ meth.locks = false ∧ va_K g.1 vwCl (gtys g) s ∧ GH g A s s.heap ∧ (∀ q : Nat, s.heap.size ≤ q → A q) ∧ meth.name = nm
def OkR (l : Launch) (g : Gl) (own : String) (nm : String) (cc : ByteArray) (nL : Nat) (ret : Option FieldType) (R : Room) (ws0 : va_W) (Q : QT) (X : XT) (A : Nat → Prop) (H0 : Heap) (K : KT) : Prop :=
  ∃ (p : Program) (e : Env) (s : State) (m : MethodId) (args : Array Value) (below : List Frame) (meth : Method) (c : Code),
    K = (fun H locs cn sn pc ls st => W p l e R s m args below meth c H locs cn sn (vx_MQ below (cQ g s.heap.size ws0 Q) (cX g s.heap.size ws0 X) args s R.cells R.slots A) (F0 m pc ls st)) ∧ H0 = s.heap ∧ p.tables.exec = Jvm.exec ∧ c.code = cc ∧ c.maxLocals = nL ∧ s.vm.findClass own = some m.cls ∧
    (∀ w ∈ GT, w.before args s = true) ∧ meth.sig.returnType = ret ∧ meth.locks = false ∧ va_K g.1 vwCl (gtys g) s ∧ GH g A s s.heap ∧ (∀ q : Nat, s.heap.size ≤ q → A q) ∧ meth.name = nm ∧ A = va_A ws0 s.heap.size ∧ (∀ x ∈ c.exceptionTable.toList, False)
theorem OkR.b {l : Launch} {g : Gl} {own nm : String} {cc : ByteArray} {nL : Nat} {ret : Option FieldType} {R : Room} {ws0 : va_W} {Q : QT} {X : XT} {A : Nat → Prop} {H0 : Heap} {K : KT} (h : OkR l g own nm cc nL ret R ws0 Q X A H0 K) : OkB l g own nm cc nL ret R A H0 K := by
  obtain ⟨p, e, s, m, args, below, meth, c, hK, h0, hx, hb, hml, hown, hts, hr, hlk, hKn, hG, hA, hnm, -, -⟩ := h
  exact ⟨p, e, s, m, args, below, meth, c, _, hK, h0, hx, hb, hml, hown, hts, hr, hlk, hKn, hG, hA, hnm⟩

section AWR
variable {l : Launch} {g : Gl} {own nm : String} {cc : ByteArray} {nL : Nat} {ret : Option FieldType} {R : Room} {A : Nat → Prop} {H0 : Heap} {K : KT} {pc : Nat} {lv : List (Option Value)} {st : List Value} {ws : va_W} {cn sn : Nat}

theorem A_iload_n (ok : OkB l g own nm cc nL ret R A H0 K) {j : Fin 4} {i : Nat} {x : Int32} (hj : (j : Nat) = i) (d : decode cc pc = .ok (.iload_n j, 1)) (h : Gp i lv (some (.int x)))
    (k : AW g A H0 nL K (pc + 1) (lv) (.int x :: st) (ws) cn sn) : AW g A H0 nL K pc lv (st) ws cn sn := by
  obtain ⟨p, e, s, m, args, below, meth, c, Q, rfl, rfl, hx, hb, hml, hown, hts, hr, hlk, hKn, hG, hA, hnm⟩ := ok
  intro H locs ls hP hD hS hl
  exact lv_iload_n hx hb d hj (lv_gp hl h) (k H locs ls hP hD hS hl)

theorem A_iload (ok : OkB l g own nm cc nL ret R A H0 K) {i : Nat} {x : Int32} (d : decode cc pc = .ok (.iload i, 2)) (h : Gp i lv (some (.int x)))
    (k : AW g A H0 nL K (pc + 2) (lv) (.int x :: st) (ws) cn sn) : AW g A H0 nL K pc lv (st) ws cn sn := by
  obtain ⟨p, e, s, m, args, below, meth, c, Q, rfl, rfl, hx, hb, hml, hown, hts, hr, hlk, hKn, hG, hA, hnm⟩ := ok
  intro H locs ls hP hD hS hl
  exact lv_iload hx hb d (lv_gp hl h) (k H locs ls hP hD hS hl)

theorem A_istore_n (ok : OkB l g own nm cc nL ret R A H0 K) {j : Fin 4} {i : Nat} {x : Int32} {lv2 : List (Option Value)} (hj : (j : Nat) = i) (d : decode cc pc = .ok (.istore_n j, 1)) (hn : i < nL) (h : St false i (.int x) lv lv2)
    (k : AW g A H0 nL K (pc + 1) (lv2) (st) (ws) cn sn) : AW g A H0 nL K pc lv (.int x :: st) ws cn sn := by
  obtain ⟨p, e, s, m, args, below, meth, c, Q, rfl, rfl, hx, hb, hml, hown, hts, hr, hlk, hKn, hG, hA, hnm⟩ := ok
  intro H locs ls hP hD hS hl
  exact lv_istore_n hx hb d hj hl hn rfl (fun ls2 hl2 => k H locs ls2 hP hD hS (st_1 h hl2))

theorem A_istore (ok : OkB l g own nm cc nL ret R A H0 K) {i : Nat} {x : Int32} {lv2 : List (Option Value)} (d : decode cc pc = .ok (.istore i, 2)) (hn : i < nL) (h : St false i (.int x) lv lv2)
    (k : AW g A H0 nL K (pc + 2) (lv2) (st) (ws) cn sn) : AW g A H0 nL K pc lv (.int x :: st) ws cn sn := by
  obtain ⟨p, e, s, m, args, below, meth, c, Q, rfl, rfl, hx, hb, hml, hown, hts, hr, hlk, hKn, hG, hA, hnm⟩ := ok
  intro H locs ls hP hD hS hl
  exact lv_istore hx hb d hl hn rfl (fun ls2 hl2 => k H locs ls2 hP hD hS (st_1 h hl2))

theorem A_lload_n (ok : OkB l g own nm cc nL ret R A H0 K) {j : Fin 4} {i : Nat} {x : Int64} (hj : (j : Nat) = i) (d : decode cc pc = .ok (.lload_n j, 1)) (h : Gp i lv (some (.long x)))
    (k : AW g A H0 nL K (pc + 1) (lv) (.long x :: st) (ws) cn sn) : AW g A H0 nL K pc lv (st) ws cn sn := by
  obtain ⟨p, e, s, m, args, below, meth, c, Q, rfl, rfl, hx, hb, hml, hown, hts, hr, hlk, hKn, hG, hA, hnm⟩ := ok
  intro H locs ls hP hD hS hl
  exact lv_lload_n hx hb d hj (lv_gp hl h) (k H locs ls hP hD hS hl)

theorem A_lload (ok : OkB l g own nm cc nL ret R A H0 K) {i : Nat} {x : Int64} (d : decode cc pc = .ok (.lload i, 2)) (h : Gp i lv (some (.long x)))
    (k : AW g A H0 nL K (pc + 2) (lv) (.long x :: st) (ws) cn sn) : AW g A H0 nL K pc lv (st) ws cn sn := by
  obtain ⟨p, e, s, m, args, below, meth, c, Q, rfl, rfl, hx, hb, hml, hown, hts, hr, hlk, hKn, hG, hA, hnm⟩ := ok
  intro H locs ls hP hD hS hl
  exact lv_lload hx hb d (lv_gp hl h) (k H locs ls hP hD hS hl)

theorem A_lstore_n (ok : OkB l g own nm cc nL ret R A H0 K) {j : Fin 4} {i : Nat} {x : Int64} {lv2 : List (Option Value)} (hj : (j : Nat) = i) (d : decode cc pc = .ok (.lstore_n j, 1)) (hn : i + 1 < nL) (h : St true i (.long x) lv lv2)
    (k : AW g A H0 nL K (pc + 1) (lv2) (st) (ws) cn sn) : AW g A H0 nL K pc lv (.long x :: st) ws cn sn := by
  obtain ⟨p, e, s, m, args, below, meth, c, Q, rfl, rfl, hx, hb, hml, hown, hts, hr, hlk, hKn, hG, hA, hnm⟩ := ok
  intro H locs ls hP hD hS hl
  exact lv_lstore_n hx hb d hj hl hn rfl (fun ls2 hl2 => k H locs ls2 hP hD hS (st_2 h hl2))

theorem A_lstore (ok : OkB l g own nm cc nL ret R A H0 K) {i : Nat} {x : Int64} {lv2 : List (Option Value)} (d : decode cc pc = .ok (.lstore i, 2)) (hn : i + 1 < nL) (h : St true i (.long x) lv lv2)
    (k : AW g A H0 nL K (pc + 2) (lv2) (st) (ws) cn sn) : AW g A H0 nL K pc lv (.long x :: st) ws cn sn := by
  obtain ⟨p, e, s, m, args, below, meth, c, Q, rfl, rfl, hx, hb, hml, hown, hts, hr, hlk, hKn, hG, hA, hnm⟩ := ok
  intro H locs ls hP hD hS hl
  exact lv_lstore hx hb d hl hn rfl (fun ls2 hl2 => k H locs ls2 hP hD hS (st_2 h hl2))

theorem A_aload_n (ok : OkB l g own nm cc nL ret R A H0 K) {j : Fin 4} {i : Nat} {x : Nat} (hj : (j : Nat) = i) (d : decode cc pc = .ok (.aload_n j, 1)) (h : Gp i lv (some (.ref x)))
    (k : AW g A H0 nL K (pc + 1) (lv) (.ref x :: st) (ws) cn sn) : AW g A H0 nL K pc lv (st) ws cn sn := by
  obtain ⟨p, e, s, m, args, below, meth, c, Q, rfl, rfl, hx, hb, hml, hown, hts, hr, hlk, hKn, hG, hA, hnm⟩ := ok
  intro H locs ls hP hD hS hl
  exact lv_aload_n hx hb d hj (lv_gp hl h) (k H locs ls hP hD hS hl)

theorem A_aload (ok : OkB l g own nm cc nL ret R A H0 K) {i : Nat} {x : Nat} (d : decode cc pc = .ok (.aload i, 2)) (h : Gp i lv (some (.ref x)))
    (k : AW g A H0 nL K (pc + 2) (lv) (.ref x :: st) (ws) cn sn) : AW g A H0 nL K pc lv (st) ws cn sn := by
  obtain ⟨p, e, s, m, args, below, meth, c, Q, rfl, rfl, hx, hb, hml, hown, hts, hr, hlk, hKn, hG, hA, hnm⟩ := ok
  intro H locs ls hP hD hS hl
  exact lv_aload hx hb d (lv_gp hl h) (k H locs ls hP hD hS hl)

theorem A_astore_n (ok : OkB l g own nm cc nL ret R A H0 K) {j : Fin 4} {i : Nat} {x : Nat} {lv2 : List (Option Value)} (hj : (j : Nat) = i) (d : decode cc pc = .ok (.astore_n j, 1)) (hn : i < nL) (h : St false i (.ref x) lv lv2)
    (k : AW g A H0 nL K (pc + 1) (lv2) (st) (ws) cn sn) : AW g A H0 nL K pc lv (.ref x :: st) ws cn sn := by
  obtain ⟨p, e, s, m, args, below, meth, c, Q, rfl, rfl, hx, hb, hml, hown, hts, hr, hlk, hKn, hG, hA, hnm⟩ := ok
  intro H locs ls hP hD hS hl
  exact lv_astore_n hx hb d hj hl hn rfl (fun ls2 hl2 => k H locs ls2 hP hD hS (st_1 h hl2))

theorem A_astore (ok : OkB l g own nm cc nL ret R A H0 K) {i : Nat} {x : Nat} {lv2 : List (Option Value)} (d : decode cc pc = .ok (.astore i, 2)) (hn : i < nL) (h : St false i (.ref x) lv lv2)
    (k : AW g A H0 nL K (pc + 2) (lv2) (st) (ws) cn sn) : AW g A H0 nL K pc lv (.ref x :: st) ws cn sn := by
  obtain ⟨p, e, s, m, args, below, meth, c, Q, rfl, rfl, hx, hb, hml, hown, hts, hr, hlk, hKn, hG, hA, hnm⟩ := ok
  intro H locs ls hP hD hS hl
  exact lv_astore hx hb d hl hn rfl (fun ls2 hl2 => k H locs ls2 hP hD hS (st_1 h hl2))

theorem A_iinc (ok : OkB l g own nm cc nL ret R A H0 K) {i : Nat} {n : Int} {x v : Int32} {lv2 : List (Option Value)} (d : decode cc pc = .ok (.iinc i n, 3)) (h0 : Gp i lv (some (.int x))) (hv : x + Int32.ofInt n = v) (hn : i < nL) (h : St false i (.int v) lv lv2)
    (k : AW g A H0 nL K (pc + 3) lv2 st ws cn sn) : AW g A H0 nL K pc lv st ws cn sn := by
  obtain ⟨p, e, s, m, args, below, meth, c, Q, rfl, rfl, hx, hb, hml, hown, hts, hr, hlk, hKn, hG, hA, hnm⟩ := ok
  intro H locs ls hP hD hS hl
  obtain ⟨k0, hk0⟩ := List.getElem?_of_mem (lvl_mem.mpr h0)
  exact lv_iinc hx hb d hl hk0 hv hn rfl (fun ls2 hl2 => k H locs ls2 hP hD hS (st_1 h hl2))

theorem A_iconst (ok : OkB l g own nm cc nL ret R A H0 K) {n : Int} {v : Int32} (d : decode cc pc = .ok (.iconst n, 1)) (hv : Int32.ofInt n = v)
    (k : AW g A H0 nL K (pc + 1) (lv) (.int v :: st) (ws) cn sn) : AW g A H0 nL K pc lv (st) ws cn sn := by
  obtain ⟨p, e, s, m, args, below, meth, c, Q, rfl, rfl, hx, hb, hml, hown, hts, hr, hlk, hKn, hG, hA, hnm⟩ := ok
  intro H locs ls hP hD hS hl
  exact lv_iconst hx hb d hv (k H locs ls hP hD hS hl)

theorem A_bipush (ok : OkB l g own nm cc nL ret R A H0 K) {n : Int} {v : Int32} (d : decode cc pc = .ok (.bipush n, 2)) (hv : (Int8.ofInt n).toInt32 = v)
    (k : AW g A H0 nL K (pc + 2) (lv) (.int v :: st) (ws) cn sn) : AW g A H0 nL K pc lv (st) ws cn sn := by
  obtain ⟨p, e, s, m, args, below, meth, c, Q, rfl, rfl, hx, hb, hml, hown, hts, hr, hlk, hKn, hG, hA, hnm⟩ := ok
  intro H locs ls hP hD hS hl
  exact lv_bipush hx hb d hv (k H locs ls hP hD hS hl)

theorem A_sipush (ok : OkB l g own nm cc nL ret R A H0 K) {n : Int} {v : Int32} (d : decode cc pc = .ok (.sipush n, 3)) (hv : (Int16.ofInt n).toInt32 = v)
    (k : AW g A H0 nL K (pc + 3) (lv) (.int v :: st) (ws) cn sn) : AW g A H0 nL K pc lv (st) ws cn sn := by
  obtain ⟨p, e, s, m, args, below, meth, c, Q, rfl, rfl, hx, hb, hml, hown, hts, hr, hlk, hKn, hG, hA, hnm⟩ := ok
  intro H locs ls hP hD hS hl
  exact lv_sipush hx hb d hv (k H locs ls hP hD hS hl)

theorem A_lconst (ok : OkB l g own nm cc nL ret R A H0 K) {n : Fin 2} {v : Int64} (d : decode cc pc = .ok (.lconst n, 1)) (hv : Int64.ofNat (n : Nat) = v)
    (k : AW g A H0 nL K (pc + 1) (lv) (.long v :: st) (ws) cn sn) : AW g A H0 nL K pc lv (st) ws cn sn := by
  obtain ⟨p, e, s, m, args, below, meth, c, Q, rfl, rfl, hx, hb, hml, hown, hts, hr, hlk, hKn, hG, hA, hnm⟩ := ok
  intro H locs ls hP hD hS hl
  exact lv_lconst hx hb d hv (k H locs ls hP hD hS hl)

theorem A_ldc (ok : OkB l g own nm cc nL ret R A H0 K) {ix : Nat} {v : Int32} (d : decode cc pc = .ok (.ldc ix, 2)) (hw : Cond.constant own ix v ∈ GT)
    (k : AW g A H0 nL K (pc + 2) (lv) (.int v :: st) (ws) cn sn) : AW g A H0 nL K pc lv (st) ws cn sn := by
  obtain ⟨p, e, s, m, args, below, meth, c, Q, rfl, rfl, hx, hb, hml, hown, hts, hr, hlk, hKn, hG, hA, hnm⟩ := ok
  intro H locs ls hP hD hS hl
  exact W.ldc hx hb hown (hts _ hw) rfl d (k H locs ls hP hD hS hl)

theorem A_ldc2 (ok : OkB l g own nm cc nL ret R A H0 K) {ix : Nat} {v : Int64} (d : decode cc pc = .ok (.ldc2_w ix, 3)) (hw : Cond.constantLong own ix v ∈ GT)
    (k : AW g A H0 nL K (pc + 3) (lv) (.long v :: st) (ws) cn sn) : AW g A H0 nL K pc lv (st) ws cn sn := by
  obtain ⟨p, e, s, m, args, below, meth, c, Q, rfl, rfl, hx, hb, hml, hown, hts, hr, hlk, hKn, hG, hA, hnm⟩ := ok
  intro H locs ls hP hD hS hl
  exact W.ldc2 hx hb hown (hts _ hw) rfl d (k H locs ls hP hD hS hl)

theorem A_iadd (ok : OkB l g own nm cc nL ret R A H0 K) {x y : Int32} (d : decode cc pc = .ok (.iadd, 1))
    (k : AW g A H0 nL K (pc + 1) (lv) (.int (x + y) :: st) (ws) cn sn) : AW g A H0 nL K pc lv (.int y :: .int x :: st) ws cn sn := by
  obtain ⟨p, e, s, m, args, below, meth, c, Q, rfl, rfl, hx, hb, hml, hown, hts, hr, hlk, hKn, hG, hA, hnm⟩ := ok
  intro H locs ls hP hD hS hl
  exact lv_iadd hx hb d (k H locs ls hP hD hS hl)

theorem A_isub (ok : OkB l g own nm cc nL ret R A H0 K) {x y : Int32} (d : decode cc pc = .ok (.isub, 1))
    (k : AW g A H0 nL K (pc + 1) (lv) (.int (x - y) :: st) (ws) cn sn) : AW g A H0 nL K pc lv (.int y :: .int x :: st) ws cn sn := by
  obtain ⟨p, e, s, m, args, below, meth, c, Q, rfl, rfl, hx, hb, hml, hown, hts, hr, hlk, hKn, hG, hA, hnm⟩ := ok
  intro H locs ls hP hD hS hl
  exact lv_isub hx hb d (k H locs ls hP hD hS hl)

theorem A_imul (ok : OkB l g own nm cc nL ret R A H0 K) {x y : Int32} (d : decode cc pc = .ok (.imul, 1))
    (k : AW g A H0 nL K (pc + 1) (lv) (.int (x * y) :: st) (ws) cn sn) : AW g A H0 nL K pc lv (.int y :: .int x :: st) ws cn sn := by
  obtain ⟨p, e, s, m, args, below, meth, c, Q, rfl, rfl, hx, hb, hml, hown, hts, hr, hlk, hKn, hG, hA, hnm⟩ := ok
  intro H locs ls hP hD hS hl
  exact lv_imul hx hb d (k H locs ls hP hD hS hl)

theorem A_iand (ok : OkB l g own nm cc nL ret R A H0 K) {x y : Int32} (d : decode cc pc = .ok (.iand, 1))
    (k : AW g A H0 nL K (pc + 1) (lv) (.int (x &&& y) :: st) (ws) cn sn) : AW g A H0 nL K pc lv (.int y :: .int x :: st) ws cn sn := by
  obtain ⟨p, e, s, m, args, below, meth, c, Q, rfl, rfl, hx, hb, hml, hown, hts, hr, hlk, hKn, hG, hA, hnm⟩ := ok
  intro H locs ls hP hD hS hl
  exact lv_iand hx hb d (k H locs ls hP hD hS hl)

theorem A_ior (ok : OkB l g own nm cc nL ret R A H0 K) {x y : Int32} (d : decode cc pc = .ok (.ior, 1))
    (k : AW g A H0 nL K (pc + 1) (lv) (.int (x ||| y) :: st) (ws) cn sn) : AW g A H0 nL K pc lv (.int y :: .int x :: st) ws cn sn := by
  obtain ⟨p, e, s, m, args, below, meth, c, Q, rfl, rfl, hx, hb, hml, hown, hts, hr, hlk, hKn, hG, hA, hnm⟩ := ok
  intro H locs ls hP hD hS hl
  exact lv_ior hx hb d (k H locs ls hP hD hS hl)

theorem A_ixor (ok : OkB l g own nm cc nL ret R A H0 K) {x y : Int32} (d : decode cc pc = .ok (.ixor, 1))
    (k : AW g A H0 nL K (pc + 1) (lv) (.int (x ^^^ y) :: st) (ws) cn sn) : AW g A H0 nL K pc lv (.int y :: .int x :: st) ws cn sn := by
  obtain ⟨p, e, s, m, args, below, meth, c, Q, rfl, rfl, hx, hb, hml, hown, hts, hr, hlk, hKn, hG, hA, hnm⟩ := ok
  intro H locs ls hP hD hS hl
  exact lv_ixor hx hb d (k H locs ls hP hD hS hl)

theorem A_ishl (ok : OkB l g own nm cc nL ret R A H0 K) {x y : Int32} (d : decode cc pc = .ok (.ishl, 1))
    (k : AW g A H0 nL K (pc + 1) (lv) (.int (x <<< (y &&& 31)) :: st) (ws) cn sn) : AW g A H0 nL K pc lv (.int y :: .int x :: st) ws cn sn := by
  obtain ⟨p, e, s, m, args, below, meth, c, Q, rfl, rfl, hx, hb, hml, hown, hts, hr, hlk, hKn, hG, hA, hnm⟩ := ok
  intro H locs ls hP hD hS hl
  exact lv_ishl hx hb d (k H locs ls hP hD hS hl)

theorem A_ishr (ok : OkB l g own nm cc nL ret R A H0 K) {x y : Int32} (d : decode cc pc = .ok (.ishr, 1))
    (k : AW g A H0 nL K (pc + 1) (lv) (.int (x >>> (y &&& 31)) :: st) (ws) cn sn) : AW g A H0 nL K pc lv (.int y :: .int x :: st) ws cn sn := by
  obtain ⟨p, e, s, m, args, below, meth, c, Q, rfl, rfl, hx, hb, hml, hown, hts, hr, hlk, hKn, hG, hA, hnm⟩ := ok
  intro H locs ls hP hD hS hl
  exact lv_ishr hx hb d (k H locs ls hP hD hS hl)

theorem A_idiv (ok : OkB l g own nm cc nL ret R A H0 K) {x y : Int32} (d : decode cc pc = .ok (.idiv, 1)) (hne : ¬ y = 0)
    (k : AW g A H0 nL K (pc + 1) (lv) (.int (x / y) :: st) (ws) cn sn) : AW g A H0 nL K pc lv (.int y :: .int x :: st) ws cn sn := by
  obtain ⟨p, e, s, m, args, below, meth, c, Q, rfl, rfl, hx, hb, hml, hown, hts, hr, hlk, hKn, hG, hA, hnm⟩ := ok
  intro H locs ls hP hD hS hl
  exact lv_idiv hx hb d hne (k H locs ls hP hD hS hl)

theorem A_irem (ok : OkB l g own nm cc nL ret R A H0 K) {x y : Int32} (d : decode cc pc = .ok (.irem, 1)) (hne : ¬ y = 0)
    (k : AW g A H0 nL K (pc + 1) (lv) (.int (x - x / y * y) :: st) (ws) cn sn) : AW g A H0 nL K pc lv (.int y :: .int x :: st) ws cn sn := by
  obtain ⟨p, e, s, m, args, below, meth, c, Q, rfl, rfl, hx, hb, hml, hown, hts, hr, hlk, hKn, hG, hA, hnm⟩ := ok
  intro H locs ls hP hD hS hl
  exact lv_irem hx hb d hne (k H locs ls hP hD hS hl)

theorem A_ldiv (ok : OkB l g own nm cc nL ret R A H0 K) {x y : Int64} (d : decode cc pc = .ok (.ldiv, 1)) (hne : ¬ y = 0)
    (k : AW g A H0 nL K (pc + 1) (lv) (.long (x / y) :: st) (ws) cn sn) : AW g A H0 nL K pc lv (.long y :: .long x :: st) ws cn sn := by
  obtain ⟨p, e, s, m, args, below, meth, c, Q, rfl, rfl, hx, hb, hml, hown, hts, hr, hlk, hKn, hG, hA, hnm⟩ := ok
  intro H locs ls hP hD hS hl
  exact lv_ldiv hx hb d hne (k H locs ls hP hD hS hl)

theorem A_ladd (ok : OkB l g own nm cc nL ret R A H0 K) {x y : Int64} (d : decode cc pc = .ok (.ladd, 1))
    (k : AW g A H0 nL K (pc + 1) (lv) (.long (x + y) :: st) (ws) cn sn) : AW g A H0 nL K pc lv (.long y :: .long x :: st) ws cn sn := by
  obtain ⟨p, e, s, m, args, below, meth, c, Q, rfl, rfl, hx, hb, hml, hown, hts, hr, hlk, hKn, hG, hA, hnm⟩ := ok
  intro H locs ls hP hD hS hl
  exact lv_ladd hx hb d (k H locs ls hP hD hS hl)

theorem A_lsub (ok : OkB l g own nm cc nL ret R A H0 K) {x y : Int64} (d : decode cc pc = .ok (.lsub, 1))
    (k : AW g A H0 nL K (pc + 1) (lv) (.long (x - y) :: st) (ws) cn sn) : AW g A H0 nL K pc lv (.long y :: .long x :: st) ws cn sn := by
  obtain ⟨p, e, s, m, args, below, meth, c, Q, rfl, rfl, hx, hb, hml, hown, hts, hr, hlk, hKn, hG, hA, hnm⟩ := ok
  intro H locs ls hP hD hS hl
  exact lv_lsub hx hb d (k H locs ls hP hD hS hl)

theorem A_lmul (ok : OkB l g own nm cc nL ret R A H0 K) {x y : Int64} (d : decode cc pc = .ok (.lmul, 1))
    (k : AW g A H0 nL K (pc + 1) (lv) (.long (x * y) :: st) (ws) cn sn) : AW g A H0 nL K pc lv (.long y :: .long x :: st) ws cn sn := by
  obtain ⟨p, e, s, m, args, below, meth, c, Q, rfl, rfl, hx, hb, hml, hown, hts, hr, hlk, hKn, hG, hA, hnm⟩ := ok
  intro H locs ls hP hD hS hl
  exact lv_lmul hx hb d (k H locs ls hP hD hS hl)

theorem A_land (ok : OkB l g own nm cc nL ret R A H0 K) {x y : Int64} (d : decode cc pc = .ok (.land, 1))
    (k : AW g A H0 nL K (pc + 1) (lv) (.long (x &&& y) :: st) (ws) cn sn) : AW g A H0 nL K pc lv (.long y :: .long x :: st) ws cn sn := by
  obtain ⟨p, e, s, m, args, below, meth, c, Q, rfl, rfl, hx, hb, hml, hown, hts, hr, hlk, hKn, hG, hA, hnm⟩ := ok
  intro H locs ls hP hD hS hl
  exact lv_land hx hb d (k H locs ls hP hD hS hl)

theorem A_lor (ok : OkB l g own nm cc nL ret R A H0 K) {x y : Int64} (d : decode cc pc = .ok (.lor, 1))
    (k : AW g A H0 nL K (pc + 1) (lv) (.long (x ||| y) :: st) (ws) cn sn) : AW g A H0 nL K pc lv (.long y :: .long x :: st) ws cn sn := by
  obtain ⟨p, e, s, m, args, below, meth, c, Q, rfl, rfl, hx, hb, hml, hown, hts, hr, hlk, hKn, hG, hA, hnm⟩ := ok
  intro H locs ls hP hD hS hl
  exact lv_lor hx hb d (k H locs ls hP hD hS hl)

theorem A_lshl (ok : OkB l g own nm cc nL ret R A H0 K) {x : Int64} {y : Int32} (d : decode cc pc = .ok (.lshl, 1))
    (k : AW g A H0 nL K (pc + 1) (lv) (.long (x <<< (y.toInt64 &&& 63)) :: st) (ws) cn sn) : AW g A H0 nL K pc lv (.int y :: .long x :: st) ws cn sn := by
  obtain ⟨p, e, s, m, args, below, meth, c, Q, rfl, rfl, hx, hb, hml, hown, hts, hr, hlk, hKn, hG, hA, hnm⟩ := ok
  intro H locs ls hP hD hS hl
  exact lv_lshl hx hb d rfl (k H locs ls hP hD hS hl)

theorem A_lshr (ok : OkB l g own nm cc nL ret R A H0 K) {x : Int64} {y : Int32} (d : decode cc pc = .ok (.lshr, 1))
    (k : AW g A H0 nL K (pc + 1) (lv) (.long (x >>> (y.toInt64 &&& 63)) :: st) (ws) cn sn) : AW g A H0 nL K pc lv (.int y :: .long x :: st) ws cn sn := by
  obtain ⟨p, e, s, m, args, below, meth, c, Q, rfl, rfl, hx, hb, hml, hown, hts, hr, hlk, hKn, hG, hA, hnm⟩ := ok
  intro H locs ls hP hD hS hl
  exact lv_lshr hx hb d rfl (k H locs ls hP hD hS hl)

theorem A_iushr (ok : OkB l g own nm cc nL ret R A H0 K) {x y : Int32} (d : decode cc pc = .ok (.iushr, 1))
    (k : AW g A H0 nL K (pc + 1) (lv) (.int ((x.toUInt32 >>> (y.toUInt32 &&& Int32.toUInt32 31)).toInt32) :: st) (ws) cn sn) : AW g A H0 nL K pc lv (.int y :: .int x :: st) ws cn sn := by
  obtain ⟨p, e, s, m, args, below, meth, c, Q, rfl, rfl, hx, hb, hml, hown, hts, hr, hlk, hKn, hG, hA, hnm⟩ := ok
  intro H locs ls hP hD hS hl
  exact lv_iushr hx hb d rfl (k H locs ls hP hD hS hl)

theorem A_ineg (ok : OkB l g own nm cc nL ret R A H0 K) {x : Int32} (d : decode cc pc = .ok (.ineg, 1))
    (k : AW g A H0 nL K (pc + 1) (lv) (.int (-x) :: st) (ws) cn sn) : AW g A H0 nL K pc lv (.int x :: st) ws cn sn := by
  obtain ⟨p, e, s, m, args, below, meth, c, Q, rfl, rfl, hx, hb, hml, hown, hts, hr, hlk, hKn, hG, hA, hnm⟩ := ok
  intro H locs ls hP hD hS hl
  exact lv_ineg hx hb d (k H locs ls hP hD hS hl)

theorem A_i2l (ok : OkB l g own nm cc nL ret R A H0 K) {x : Int32} (d : decode cc pc = .ok (.i2l, 1))
    (k : AW g A H0 nL K (pc + 1) (lv) (.long x.toInt64 :: st) (ws) cn sn) : AW g A H0 nL K pc lv (.int x :: st) ws cn sn := by
  obtain ⟨p, e, s, m, args, below, meth, c, Q, rfl, rfl, hx, hb, hml, hown, hts, hr, hlk, hKn, hG, hA, hnm⟩ := ok
  intro H locs ls hP hD hS hl
  exact lv_i2l hx hb d rfl (k H locs ls hP hD hS hl)

theorem A_l2i (ok : OkB l g own nm cc nL ret R A H0 K) {x : Int64} (d : decode cc pc = .ok (.l2i, 1))
    (k : AW g A H0 nL K (pc + 1) (lv) (.int x.toInt32 :: st) (ws) cn sn) : AW g A H0 nL K pc lv (.long x :: st) ws cn sn := by
  obtain ⟨p, e, s, m, args, below, meth, c, Q, rfl, rfl, hx, hb, hml, hown, hts, hr, hlk, hKn, hG, hA, hnm⟩ := ok
  intro H locs ls hP hD hS hl
  exact lv_l2i hx hb d rfl (k H locs ls hP hD hS hl)

theorem A_i2b (ok : OkB l g own nm cc nL ret R A H0 K) {x : Int32} (d : decode cc pc = .ok (.i2b, 1))
    (k : AW g A H0 nL K (pc + 1) (lv) (.int x.toInt8.toInt32 :: st) (ws) cn sn) : AW g A H0 nL K pc lv (.int x :: st) ws cn sn := by
  obtain ⟨p, e, s, m, args, below, meth, c, Q, rfl, rfl, hx, hb, hml, hown, hts, hr, hlk, hKn, hG, hA, hnm⟩ := ok
  intro H locs ls hP hD hS hl
  exact lv_i2b hx hb d rfl (k H locs ls hP hD hS hl)

theorem A_lcmp (ok : OkB l g own nm cc nL ret R A H0 K) {x y : Int64} (d : decode cc pc = .ok (.lcmp, 1))
    (k : AW g A H0 nL K (pc + 1) (lv) (.int (lg_cmp x y) :: st) (ws) cn sn) : AW g A H0 nL K pc lv (.long y :: .long x :: st) ws cn sn := by
  obtain ⟨p, e, s, m, args, below, meth, c, Q, rfl, rfl, hx, hb, hml, hown, hts, hr, hlk, hKn, hG, hA, hnm⟩ := ok
  intro H locs ls hP hD hS hl
  exact W.lcmp hx hb d (k H locs ls hP hD hS hl)

theorem A_dup (ok : OkB l g own nm cc nL ret R A H0 K) {va : Value} (d : decode cc pc = .ok (.dup, 1)) (hc : va.category = 1)
    (k : AW g A H0 nL K (pc + 1) (lv) (va :: va :: st) (ws) cn sn) : AW g A H0 nL K pc lv (va :: st) ws cn sn := by
  obtain ⟨p, e, s, m, args, below, meth, c, Q, rfl, rfl, hx, hb, hml, hown, hts, hr, hlk, hKn, hG, hA, hnm⟩ := ok
  intro H locs ls hP hD hS hl
  exact lv_dup hx hb d hc (k H locs ls hP hD hS hl)

theorem A_pop (ok : OkB l g own nm cc nL ret R A H0 K) {va : Value} (d : decode cc pc = .ok (.pop, 1)) (hc : va.category = 1)
    (k : AW g A H0 nL K (pc + 1) (lv) (st) (ws) cn sn) : AW g A H0 nL K pc lv (va :: st) ws cn sn := by
  obtain ⟨p, e, s, m, args, below, meth, c, Q, rfl, rfl, hx, hb, hml, hown, hts, hr, hlk, hKn, hG, hA, hnm⟩ := ok
  intro H locs ls hP hD hS hl
  exact lv_pop hx hb d hc (k H locs ls hP hD hS hl)

theorem A_dup2 (ok : OkB l g own nm cc nL ret R A H0 K) {va : Value} (d : decode cc pc = .ok (.dup2, 1)) (hc : va.category = 2)
    (k : AW g A H0 nL K (pc + 1) (lv) (va :: va :: st) (ws) cn sn) : AW g A H0 nL K pc lv (va :: st) ws cn sn := by
  obtain ⟨p, e, s, m, args, below, meth, c, Q, rfl, rfl, hx, hb, hml, hown, hts, hr, hlk, hKn, hG, hA, hnm⟩ := ok
  intro H locs ls hP hD hS hl
  exact lv_dup2_2 hx hb d hc (k H locs ls hP hD hS hl)

theorem A_dup2_11 (ok : OkB l g own nm cc nL ret R A H0 K) {va vb : Value} (d : decode cc pc = .ok (.dup2, 1)) (hc : va.category = 1) (hc2 : vb.category = 1)
    (k : AW g A H0 nL K (pc + 1) (lv) (va :: vb :: va :: vb :: st) (ws) cn sn) : AW g A H0 nL K pc lv (va :: vb :: st) ws cn sn := by
  obtain ⟨p, e, s, m, args, below, meth, c, Q, rfl, rfl, hx, hb, hml, hown, hts, hr, hlk, hKn, hG, hA, hnm⟩ := ok
  intro H locs ls hP hD hS hl
  exact lv_dup2_11 hx hb d hc hc2 (k H locs ls hP hD hS hl)

theorem A_goto (ok : OkB l g own nm cc nL ret R A H0 K) {off : Int} {tgt : Nat} (d : decode cc pc = .ok (.goto off, 3)) (ht : (pc : Int) + off = (tgt : Int))
    (k : AW g A H0 nL K (tgt) (lv) (st) (ws) cn sn) : AW g A H0 nL K pc lv (st) ws cn sn := by
  obtain ⟨p, e, s, m, args, below, meth, c, Q, rfl, rfl, hx, hb, hml, hown, hts, hr, hlk, hKn, hG, hA, hnm⟩ := ok
  intro H locs ls hP hD hS hl
  exact lv_goto hx hb d ht (k H locs ls hP hD hS hl)

theorem A_icmp_eq (ok : OkB l g own nm cc nL ret R A H0 K) {x y : Int32} {off : Int} {tgt : Nat} (d : decode cc pc = .ok (.if_icmp .eq off, 3)) (ht : (pc : Int) + off = (tgt : Int))
    (kt : x = y → AW g A H0 nL K tgt lv st ws cn sn) (kf : ¬ x = y → AW g A H0 nL K (pc + 3) lv st ws cn sn) : AW g A H0 nL K pc lv (.int y :: .int x :: st) ws cn sn := by
  obtain ⟨p, e, s, m, args, below, meth, c, Q, rfl, rfl, hx, hb, hml, hown, hts, hr, hlk, hKn, hG, hA, hnm⟩ := ok
  intro H locs ls hP hD hS hl
  exact lv_icmp_eq hx hb d ht (fun q => kt q H locs ls hP hD hS hl) (fun q => kf q H locs ls hP hD hS hl)

theorem A_if_eq (ok : OkB l g own nm cc nL ret R A H0 K) {x : Int32} {off : Int} {tgt : Nat} (d : decode cc pc = .ok (.ifCond .eq off, 3)) (ht : (pc : Int) + off = (tgt : Int))
    (kt : x = 0 → AW g A H0 nL K tgt lv st ws cn sn) (kf : ¬ x = 0 → AW g A H0 nL K (pc + 3) lv st ws cn sn) : AW g A H0 nL K pc lv (.int x :: st) ws cn sn := by
  obtain ⟨p, e, s, m, args, below, meth, c, Q, rfl, rfl, hx, hb, hml, hown, hts, hr, hlk, hKn, hG, hA, hnm⟩ := ok
  intro H locs ls hP hD hS hl
  exact lv_if_eq hx hb d ht (fun q => kt q H locs ls hP hD hS hl) (fun q => kf q H locs ls hP hD hS hl)

theorem A_icmp_ne (ok : OkB l g own nm cc nL ret R A H0 K) {x y : Int32} {off : Int} {tgt : Nat} (d : decode cc pc = .ok (.if_icmp .ne off, 3)) (ht : (pc : Int) + off = (tgt : Int))
    (kt : ¬ x = y → AW g A H0 nL K tgt lv st ws cn sn) (kf : x = y → AW g A H0 nL K (pc + 3) lv st ws cn sn) : AW g A H0 nL K pc lv (.int y :: .int x :: st) ws cn sn := by
  obtain ⟨p, e, s, m, args, below, meth, c, Q, rfl, rfl, hx, hb, hml, hown, hts, hr, hlk, hKn, hG, hA, hnm⟩ := ok
  intro H locs ls hP hD hS hl
  exact lv_icmp_ne hx hb d ht (fun q => kt q H locs ls hP hD hS hl) (fun q => kf q H locs ls hP hD hS hl)

theorem A_if_ne (ok : OkB l g own nm cc nL ret R A H0 K) {x : Int32} {off : Int} {tgt : Nat} (d : decode cc pc = .ok (.ifCond .ne off, 3)) (ht : (pc : Int) + off = (tgt : Int))
    (kt : ¬ x = 0 → AW g A H0 nL K tgt lv st ws cn sn) (kf : x = 0 → AW g A H0 nL K (pc + 3) lv st ws cn sn) : AW g A H0 nL K pc lv (.int x :: st) ws cn sn := by
  obtain ⟨p, e, s, m, args, below, meth, c, Q, rfl, rfl, hx, hb, hml, hown, hts, hr, hlk, hKn, hG, hA, hnm⟩ := ok
  intro H locs ls hP hD hS hl
  exact lv_if_ne hx hb d ht (fun q => kt q H locs ls hP hD hS hl) (fun q => kf q H locs ls hP hD hS hl)

theorem A_icmp_lt (ok : OkB l g own nm cc nL ret R A H0 K) {x y : Int32} {off : Int} {tgt : Nat} (d : decode cc pc = .ok (.if_icmp .lt off, 3)) (ht : (pc : Int) + off = (tgt : Int))
    (kt : x < y → AW g A H0 nL K tgt lv st ws cn sn) (kf : ¬ x < y → AW g A H0 nL K (pc + 3) lv st ws cn sn) : AW g A H0 nL K pc lv (.int y :: .int x :: st) ws cn sn := by
  obtain ⟨p, e, s, m, args, below, meth, c, Q, rfl, rfl, hx, hb, hml, hown, hts, hr, hlk, hKn, hG, hA, hnm⟩ := ok
  intro H locs ls hP hD hS hl
  exact lv_icmp_lt hx hb d ht (fun q => kt q H locs ls hP hD hS hl) (fun q => kf q H locs ls hP hD hS hl)

theorem A_if_lt (ok : OkB l g own nm cc nL ret R A H0 K) {x : Int32} {off : Int} {tgt : Nat} (d : decode cc pc = .ok (.ifCond .lt off, 3)) (ht : (pc : Int) + off = (tgt : Int))
    (kt : x < 0 → AW g A H0 nL K tgt lv st ws cn sn) (kf : ¬ x < 0 → AW g A H0 nL K (pc + 3) lv st ws cn sn) : AW g A H0 nL K pc lv (.int x :: st) ws cn sn := by
  obtain ⟨p, e, s, m, args, below, meth, c, Q, rfl, rfl, hx, hb, hml, hown, hts, hr, hlk, hKn, hG, hA, hnm⟩ := ok
  intro H locs ls hP hD hS hl
  exact lv_if_lt hx hb d ht (fun q => kt q H locs ls hP hD hS hl) (fun q => kf q H locs ls hP hD hS hl)

theorem A_icmp_ge (ok : OkB l g own nm cc nL ret R A H0 K) {x y : Int32} {off : Int} {tgt : Nat} (d : decode cc pc = .ok (.if_icmp .ge off, 3)) (ht : (pc : Int) + off = (tgt : Int))
    (kt : y ≤ x → AW g A H0 nL K tgt lv st ws cn sn) (kf : ¬ y ≤ x → AW g A H0 nL K (pc + 3) lv st ws cn sn) : AW g A H0 nL K pc lv (.int y :: .int x :: st) ws cn sn := by
  obtain ⟨p, e, s, m, args, below, meth, c, Q, rfl, rfl, hx, hb, hml, hown, hts, hr, hlk, hKn, hG, hA, hnm⟩ := ok
  intro H locs ls hP hD hS hl
  exact lv_icmp_ge hx hb d ht (fun q => kt q H locs ls hP hD hS hl) (fun q => kf q H locs ls hP hD hS hl)

theorem A_if_ge (ok : OkB l g own nm cc nL ret R A H0 K) {x : Int32} {off : Int} {tgt : Nat} (d : decode cc pc = .ok (.ifCond .ge off, 3)) (ht : (pc : Int) + off = (tgt : Int))
    (kt : 0 ≤ x → AW g A H0 nL K tgt lv st ws cn sn) (kf : ¬ 0 ≤ x → AW g A H0 nL K (pc + 3) lv st ws cn sn) : AW g A H0 nL K pc lv (.int x :: st) ws cn sn := by
  obtain ⟨p, e, s, m, args, below, meth, c, Q, rfl, rfl, hx, hb, hml, hown, hts, hr, hlk, hKn, hG, hA, hnm⟩ := ok
  intro H locs ls hP hD hS hl
  exact lv_if_ge hx hb d ht (fun q => kt q H locs ls hP hD hS hl) (fun q => kf q H locs ls hP hD hS hl)

theorem A_icmp_gt (ok : OkB l g own nm cc nL ret R A H0 K) {x y : Int32} {off : Int} {tgt : Nat} (d : decode cc pc = .ok (.if_icmp .gt off, 3)) (ht : (pc : Int) + off = (tgt : Int))
    (kt : y < x → AW g A H0 nL K tgt lv st ws cn sn) (kf : ¬ y < x → AW g A H0 nL K (pc + 3) lv st ws cn sn) : AW g A H0 nL K pc lv (.int y :: .int x :: st) ws cn sn := by
  obtain ⟨p, e, s, m, args, below, meth, c, Q, rfl, rfl, hx, hb, hml, hown, hts, hr, hlk, hKn, hG, hA, hnm⟩ := ok
  intro H locs ls hP hD hS hl
  exact lv_icmp_gt hx hb d ht (fun q => kt q H locs ls hP hD hS hl) (fun q => kf q H locs ls hP hD hS hl)

theorem A_if_gt (ok : OkB l g own nm cc nL ret R A H0 K) {x : Int32} {off : Int} {tgt : Nat} (d : decode cc pc = .ok (.ifCond .gt off, 3)) (ht : (pc : Int) + off = (tgt : Int))
    (kt : 0 < x → AW g A H0 nL K tgt lv st ws cn sn) (kf : ¬ 0 < x → AW g A H0 nL K (pc + 3) lv st ws cn sn) : AW g A H0 nL K pc lv (.int x :: st) ws cn sn := by
  obtain ⟨p, e, s, m, args, below, meth, c, Q, rfl, rfl, hx, hb, hml, hown, hts, hr, hlk, hKn, hG, hA, hnm⟩ := ok
  intro H locs ls hP hD hS hl
  exact lv_if_gt hx hb d ht (fun q => kt q H locs ls hP hD hS hl) (fun q => kf q H locs ls hP hD hS hl)

theorem A_icmp_le (ok : OkB l g own nm cc nL ret R A H0 K) {x y : Int32} {off : Int} {tgt : Nat} (d : decode cc pc = .ok (.if_icmp .le off, 3)) (ht : (pc : Int) + off = (tgt : Int))
    (kt : x ≤ y → AW g A H0 nL K tgt lv st ws cn sn) (kf : ¬ x ≤ y → AW g A H0 nL K (pc + 3) lv st ws cn sn) : AW g A H0 nL K pc lv (.int y :: .int x :: st) ws cn sn := by
  obtain ⟨p, e, s, m, args, below, meth, c, Q, rfl, rfl, hx, hb, hml, hown, hts, hr, hlk, hKn, hG, hA, hnm⟩ := ok
  intro H locs ls hP hD hS hl
  exact lv_icmp_le hx hb d ht (fun q => kt q H locs ls hP hD hS hl) (fun q => kf q H locs ls hP hD hS hl)

theorem A_if_le (ok : OkB l g own nm cc nL ret R A H0 K) {x : Int32} {off : Int} {tgt : Nat} (d : decode cc pc = .ok (.ifCond .le off, 3)) (ht : (pc : Int) + off = (tgt : Int))
    (kt : x ≤ 0 → AW g A H0 nL K tgt lv st ws cn sn) (kf : ¬ x ≤ 0 → AW g A H0 nL K (pc + 3) lv st ws cn sn) : AW g A H0 nL K pc lv (.int x :: st) ws cn sn := by
  obtain ⟨p, e, s, m, args, below, meth, c, Q, rfl, rfl, hx, hb, hml, hown, hts, hr, hlk, hKn, hG, hA, hnm⟩ := ok
  intro H locs ls hP hD hS hl
  exact lv_if_le hx hb d ht (fun q => kt q H locs ls hP hD hS hl) (fun q => kf q H locs ls hP hD hS hl)

end AWR
end
section
/-- a class of the world: its place among vwCl, its table -/
def CF (ci : Nat) (C : String) (T : u_T) (N : Nat) (ty : Nat → FieldType) : Prop := vwCl[ci]? = some (C, T, N) ∧ (∀ w ∈ u_ws C T N, w ∈ GT) ∧ (∀ k, k < N → parseFieldDescriptor (T k).2.2.1 = some (ty k)) ∧ (∀ a, a < N → ∀ b, b < N → a ≠ b → (T a).2.1 ≠ (T b).2.1)
/-- an index i within n places is j -/
def Ix (i : Int32) (n j : Nat) : Prop := vp_in i n ∧ i.toNatClampNeg = j
theorem ix_n {j n : Nat} (h : j < n) (hn : n < 2 ^ 31) : Ix (nI j) n j := ⟨vp_in_nI h hn, nI_clamp (by omega)⟩
theorem gp_of {α : Type} {k : Nat} {l : List α} {x : α} (h : Gp k l x) : l[k]? = some x := h
theorem wp_of {α : Type} {k : Nat} {l l2 : List α} {x : α} (h : Wp k l x l2) : l.set k x = l2 := h
theorem gp_lt {α : Type} {k : Nat} {l : List α} {x : α} (h : Gp k l x) : k < l.length := (List.getElem?_eq_some_iff.mp h).1
theorem ty_of {ci : Nat} {C : String} {T : u_T} {N : Nat} {ty : Nat → FieldType} (cf : CF ci C T N ty) {k : Nat} (hk : k < N) : parseFieldDescriptor (T k).2.2.1 = some (ty k) := cf.2.2.1 k hk

section AWR
variable {l : Launch} {g : Gl} {own nm : String} {cc : ByteArray} {nL : Nat} {ret : Option FieldType} {R : Room} {A : Nat → Prop} {H0 : Heap} {K : KT} {pc : Nat} {lv : List (Option Value)} {st : List Value} {ws : va_W} {cn sn : Nat}

theorem A_getf (ok : OkB l g own nm cc nL ret R A H0 K) {ci N : Nat} {C : String} {T : u_T} {ty : Nat → FieldType} (cf : CF ci C T N ty) (k0 : Nat) (hk : k0 < N) {ix q a : Nat} {fs : List Value} {v : Value} (hl0 : Cond.fieldLink own ix (T k0).1 (T k0).2.1 (T k0).2.2.1 ∈ GT) (gq : Gp q ws (a, .inr (ci, fs))) (gv : Gp k0 fs v) (d : decode cc pc = .ok (.getfield ix, 3))
    (k : AW g A H0 nL K (pc + 3) lv (v :: st) ws cn sn) : AW g A H0 nL K pc lv (.ref a :: st) ws cn sn := by
  obtain ⟨p, e, s, m, args, below, meth, c, Q, rfl, rfl, hx, hb, hml, hown, hts, hr, hlk, hKn, hG, hA, hnm⟩ := ok
  intro H locs ls hP hD hS hl
  exact va_get hx hb hts cf.2.1 hown hKn hP q gq cf.1 k0 hk (hts _ hl0) (fun _ h => h) gv d (k H locs ls hP hD hS hl)
theorem A_putf (ok : OkB l g own nm cc nL ret R A H0 K) {ci N : Nat} {C : String} {T : u_T} {ty : Nat → FieldType} (cf : CF ci C T N ty) (k0 : Nat) (hk : k0 < N) (hfin : (T k0).2.2.2 = false) {ix q a : Nat} {fs fs2 : List Value} {v : Value} {ws2 : va_W} (hl0 : Cond.fieldLink own ix (T k0).1 (T k0).2.1 (T k0).2.2.1 ∈ GT) (gq : Gp q ws (a, .inr (ci, fs))) (hn : narrow (ty k0) v = v) (hfit : fits (ty k0) v = true) (hlen : k0 < fs.length) (wf : Wp k0 fs v fs2) (ww : Wp q ws (a, .inr (ci, fs2)) ws2) (d : decode cc pc = .ok (.putfield ix, 3))
    (k : AW g A H0 nL K (pc + 3) lv st ws2 cn sn) : AW g A H0 nL K pc lv (v :: .ref a :: st) ws cn sn := by
  obtain ⟨p, e, s, m, args, below, meth, c, Q, rfl, rfl, hx, hb, hml, hown, hts, hr, hlk, hKn, hG, hA, hnm⟩ := ok
  intro H locs ls hP hD hS hl
  refine va_put hx hb hts cf.2.1 ty cf.2.2.1 cf.2.2.2 hown hKn hP hD hS q gq cf.1 k0 hk (hts _ hl0) (fun _ h => h) hfin (ty_of cf hk) hn hfit hlen d (fun H1 locs1 hP1 hD1 hS1 => ?_)
  rw [wp_of wf, wp_of ww] at hP1 hD1
  exact k H1 locs1 ls hP1 hD1 hS1 hl
theorem A_putF (ok : OkB l g own "<init>" cc nL ret R A H0 K) {ci N : Nat} {C : String} {T : u_T} {ty : Nat → FieldType} (cf : CF ci C T N ty) (k0 : Nat) (hk : k0 < N) (hfin : (T k0).2.2.2 = true) (hdecl : (T k0).1 = own) {ix q a : Nat} {fs fs2 : List Value} {v : Value} {ws2 : va_W} (hl0 : Cond.fieldLink own ix (T k0).1 (T k0).2.1 (T k0).2.2.1 ∈ GT) (gq : Gp q ws (a, .inr (ci, fs))) (hn : narrow (ty k0) v = v) (hfit : fits (ty k0) v = true) (hlen : k0 < fs.length) (wf : Wp k0 fs v fs2) (ww : Wp q ws (a, .inr (ci, fs2)) ws2) (d : decode cc pc = .ok (.putfield ix, 3))
    (k : AW g A H0 nL K (pc + 3) lv st ws2 cn sn) : AW g A H0 nL K pc lv (v :: .ref a :: st) ws cn sn := by
  obtain ⟨p, e, s, m, args, below, meth, c, Q, rfl, rfl, hx, hb, hml, hown, hts, hr, hlk, hKn, hG, hA, hnm⟩ := ok
  intro H locs ls hP hD hS hl
  refine va_putF hx hb hts cf.2.1 ty cf.2.2.1 cf.2.2.2 hown hKn hP hD hS q gq cf.1 k0 hk (hts _ hl0) (fun _ h => h) hfin hnm hdecl (ty_of cf hk) hn hfit hlen d (fun H1 locs1 hP1 hD1 hS1 => ?_)
  rw [wp_of wf, wp_of ww] at hP1 hD1
  exact k H1 locs1 ls hP1 hD1 hS1 hl

theorem A_iald (ok : OkB l g own nm cc nL ret R A H0 K) {q a n j : Nat} {f : Nat → Int32} {i : Int32} (gq : Gp q ws (a, .inl (g.2.1 0, n, .inl f))) (hi : Ix i n j) (d : decode cc pc = .ok (.iaload, 1))
    (k : AW g A H0 nL K (pc + 1) lv (.int (f j) :: st) ws cn sn) : AW g A H0 nL K pc lv (.int i :: .ref a :: st) ws cn sn := by
  obtain ⟨p, e, s, m, args, below, meth, c, Q, rfl, rfl, hx, hb, hml, hown, hts, hr, hlk, hKn, hG, hA, hnm⟩ := ok
  intro H locs ls hP hD hS hl
  obtain ⟨hin, rfl⟩ := hi
  exact va_iald hx hb hKn hP q 0 gq rfl hin d (k H locs ls hP hD hS hl)

theorem A_bald (ok : OkB l g own nm cc nL ret R A H0 K) {q a n j : Nat} {f : Nat → Int32} {i : Int32} (gq : Gp q ws (a, .inl (g.2.1 2, n, .inl f))) (hi : Ix i n j) (d : decode cc pc = .ok (.baload, 1))
    (k : AW g A H0 nL K (pc + 1) lv (.int (f j) :: st) ws cn sn) : AW g A H0 nL K pc lv (.int i :: .ref a :: st) ws cn sn := by
  obtain ⟨p, e, s, m, args, below, meth, c, Q, rfl, rfl, hx, hb, hml, hown, hts, hr, hlk, hKn, hG, hA, hnm⟩ := ok
  intro H locs ls hP hD hS hl
  obtain ⟨hin, rfl⟩ := hi
  exact va_bald hx hb hKn hP q 2 gq rfl hin d (k H locs ls hP hD hS hl)

theorem A_zald (ok : OkB l g own nm cc nL ret R A H0 K) {q a n j : Nat} {f : Nat → Int32} {i : Int32} (gq : Gp q ws (a, .inl (g.2.1 3, n, .inl f))) (hi : Ix i n j) (d : decode cc pc = .ok (.baload, 1))
    (k : AW g A H0 nL K (pc + 1) lv (.int (f j) :: st) ws cn sn) : AW g A H0 nL K pc lv (.int i :: .ref a :: st) ws cn sn := by
  obtain ⟨p, e, s, m, args, below, meth, c, Q, rfl, rfl, hx, hb, hml, hown, hts, hr, hlk, hKn, hG, hA, hnm⟩ := ok
  intro H locs ls hP hD hS hl
  obtain ⟨hin, rfl⟩ := hi
  exact va_zald hx hb hKn hP q 3 gq rfl hin d (k H locs ls hP hD hS hl)

theorem A_lald (ok : OkB l g own nm cc nL ret R A H0 K) {q a n j : Nat} {f : Nat → Int64} {i : Int32} (gq : Gp q ws (a, .inl (g.2.1 1, n, .inr (.inl f)))) (hi : Ix i n j) (d : decode cc pc = .ok (.laload, 1))
    (k : AW g A H0 nL K (pc + 1) lv (.long (f j) :: st) ws cn sn) : AW g A H0 nL K pc lv (.int i :: .ref a :: st) ws cn sn := by
  obtain ⟨p, e, s, m, args, below, meth, c, Q, rfl, rfl, hx, hb, hml, hown, hts, hr, hlk, hKn, hG, hA, hnm⟩ := ok
  intro H locs ls hP hD hS hl
  obtain ⟨hin, rfl⟩ := hi
  exact va_lald hx hb hKn hP q 1 gq rfl hin d (k H locs ls hP hD hS hl)

theorem A_aldq (ok : OkB l g own nm cc nL ret R A H0 K) {q a n j : Nat} {f : Nat → Option Nat} {i : Int32} (gq : Gp q ws (a, .inl (g.2.1 4, n, .inr (.inr (.inr (.inr f)))))) (hi : Ix i n j) (d : decode cc pc = .ok (.aaload, 1))
    (k : AW g A H0 nL K (pc + 1) lv (va_rf (f j) :: st) ws cn sn) : AW g A H0 nL K pc lv (.int i :: .ref a :: st) ws cn sn := by
  obtain ⟨p, e, s, m, args, below, meth, c, Q, rfl, rfl, hx, hb, hml, hown, hts, hr, hlk, hKn, hG, hA, hnm⟩ := ok
  intro H locs ls hP hD hS hl
  obtain ⟨hin, rfl⟩ := hi
  exact va_aldq hx hb hKn hP q 4 gq rfl hin d (k H locs ls hP hD hS hl)

theorem A_iast (ok : OkB l g own nm cc nL ret R A H0 K) {q a n j : Nat} {f : Nat → Int32} {i : Int32} {x : Int32} {ws2 : va_W} (gq : Gp q ws (a, .inl (g.2.1 0, n, .inl f))) (hi : Ix i n j) (ww : Wp q ws (a, .inl (g.2.1 0, n, .inl (upd f j x))) ws2) (d : decode cc pc = .ok (.iastore, 1))
    (k : AW g A H0 nL K (pc + 1) lv st ws2 cn sn) : AW g A H0 nL K pc lv (.int x :: .int i :: .ref a :: st) ws cn sn := by
  obtain ⟨p, e, s, m, args, below, meth, c, Q, rfl, rfl, hx, hb, hml, hown, hts, hr, hlk, hKn, hG, hA, hnm⟩ := ok
  intro H locs ls hP hD hS hl
  obtain ⟨hin, rfl⟩ := hi
  refine va_iast hx hb hKn hP hD hS q 0 gq rfl hin d (fun H1 locs1 hP1 hD1 hS1 => ?_)
  rw [wp_of ww] at hP1 hD1
  exact k H1 locs1 ls hP1 hD1 hS1 hl

theorem A_bast (ok : OkB l g own nm cc nL ret R A H0 K) {q a n j : Nat} {f : Nat → Int32} {i : Int32} {x : Int32} {ws2 : va_W} (gq : Gp q ws (a, .inl (g.2.1 2, n, .inl f))) (hi : Ix i n j) (ww : Wp q ws (a, .inl (g.2.1 2, n, .inl (upd f j (vp_nar .byte x)))) ws2) (d : decode cc pc = .ok (.bastore, 1))
    (k : AW g A H0 nL K (pc + 1) lv st ws2 cn sn) : AW g A H0 nL K pc lv (.int x :: .int i :: .ref a :: st) ws cn sn := by
  obtain ⟨p, e, s, m, args, below, meth, c, Q, rfl, rfl, hx, hb, hml, hown, hts, hr, hlk, hKn, hG, hA, hnm⟩ := ok
  intro H locs ls hP hD hS hl
  obtain ⟨hin, rfl⟩ := hi
  refine va_bast hx hb hKn hP hD hS q 2 gq rfl hin d (fun H1 locs1 hP1 hD1 hS1 => ?_)
  rw [wp_of ww] at hP1 hD1
  exact k H1 locs1 ls hP1 hD1 hS1 hl

theorem A_zast (ok : OkB l g own nm cc nL ret R A H0 K) {q a n j : Nat} {f : Nat → Int32} {i : Int32} {x : Int32} {ws2 : va_W} (gq : Gp q ws (a, .inl (g.2.1 3, n, .inl f))) (hi : Ix i n j) (ww : Wp q ws (a, .inl (g.2.1 3, n, .inl (upd f j (vp_nar .boolean x)))) ws2) (d : decode cc pc = .ok (.bastore, 1))
    (k : AW g A H0 nL K (pc + 1) lv st ws2 cn sn) : AW g A H0 nL K pc lv (.int x :: .int i :: .ref a :: st) ws cn sn := by
  obtain ⟨p, e, s, m, args, below, meth, c, Q, rfl, rfl, hx, hb, hml, hown, hts, hr, hlk, hKn, hG, hA, hnm⟩ := ok
  intro H locs ls hP hD hS hl
  obtain ⟨hin, rfl⟩ := hi
  refine va_zast hx hb hKn hP hD hS q 3 gq rfl hin d (fun H1 locs1 hP1 hD1 hS1 => ?_)
  rw [wp_of ww] at hP1 hD1
  exact k H1 locs1 ls hP1 hD1 hS1 hl

theorem A_last (ok : OkB l g own nm cc nL ret R A H0 K) {q a n j : Nat} {f : Nat → Int64} {i : Int32} {x : Int64} {ws2 : va_W} (gq : Gp q ws (a, .inl (g.2.1 1, n, .inr (.inl f)))) (hi : Ix i n j) (ww : Wp q ws (a, .inl (g.2.1 1, n, .inr (.inl (vp_updL f j x)))) ws2) (d : decode cc pc = .ok (.lastore, 1))
    (k : AW g A H0 nL K (pc + 1) lv st ws2 cn sn) : AW g A H0 nL K pc lv (.long x :: .int i :: .ref a :: st) ws cn sn := by
  obtain ⟨p, e, s, m, args, below, meth, c, Q, rfl, rfl, hx, hb, hml, hown, hts, hr, hlk, hKn, hG, hA, hnm⟩ := ok
  intro H locs ls hP hD hS hl
  obtain ⟨hin, rfl⟩ := hi
  refine va_last hx hb hKn hP hD hS q 1 gq rfl hin d (fun H1 locs1 hP1 hD1 hS1 => ?_)
  rw [wp_of ww] at hP1 hD1
  exact k H1 locs1 ls hP1 hD1 hS1 hl

theorem A_alen (ok : OkB l g own nm cc nL ret R A H0 K) {q a : Nat} {cA : ClassId} {ty : FieldType} {x : vp_A} {v : Int32} (t0 : Nat) (gq : Gp q ws (a, .inl (cA, x))) (ht : (gtys g)[t0]? = some (cA, ty)) (hv : Int32.ofNat x.1 = v) (d : decode cc pc = .ok (.arraylength, 1))
    (k : AW g A H0 nL K (pc + 1) lv (.int v :: st) ws cn sn) : AW g A H0 nL K pc lv (.ref a :: st) ws cn sn := by
  obtain ⟨p, e, s, m, args, below, meth, c, Q, rfl, rfl, hx, hb, hml, hown, hts, hr, hlk, hKn, hG, hA, hnm⟩ := ok
  intro H locs ls hP hD hS hl
  exact va_alen hx hb hKn hP q t0 gq ht hv d (k H locs ls hP hD hS hl)
theorem va_P.pick {D : va_G} {cl : List vw_C} {ws ws2 : va_W} {H : Heap} (h : va_P D cl ws H) (js : List Nat) (hj : js.map (fun i => ws[i]?) = ws2.map some) : va_P D cl ws2 H := by
  refine h.sub js ?_
  have e : js.filterMap (fun i => ws[i]?) = (js.map (fun i => ws[i]?)).filterMap id := by rw [List.filterMap_map]; rfl
  rw [e, hj, List.filterMap_map]
  simp
/-- leaving a point: the world cut down or laid anew by its places -/
theorem A_sub (js : List Nat) {ws2 : va_W} (hj : js.map (fun i => ws[i]?) = ws2.map some) (hn : va_nd js = true) (k : AW g A H0 nL K pc lv st ws2 cn sn) : AW g A H0 nL K pc lv st ws cn sn :=
  fun H locs ls hP hD hS hl => k H locs ls (hP.pick js hj) (hD.sub js hn hj) hS hl
/-- fewer places known of the locals -/
theorem A_lv {lv2 : List (Option Value)} (h : ∀ (j : Nat) (v : Value), lv2[j]? = some (some v) → lv[j]? = some (some v)) (k : AW g A H0 nL K pc lv2 st ws cn sn) : AW g A H0 nL K pc lv st ws cn sn :=
  fun H locs ls hP hD hS hl => k H locs ls hP hD hS ⟨hl.1, hl.2.1, fun q hq => hl.2.2 q (lvl_mem.mpr (h _ _ (lvl_mem.mp hq)))⟩
end AWR
section AWE
variable {l : Launch} {g : Gl} {own nm : String} {cc : ByteArray} {nL : Nat} {R : Room} {ws0 : va_W} {Q : QT} {X : XT} {A : Nat → Prop} {H0 : Heap} {K : KT} {pc : Nat} {lv : List (Option Value)} {st : List Value} {ws : va_W} {cn sn : Nat}

theorem A_iret (ok : OkR l g own nm cc nL (some .int) R ws0 Q X A H0 K) {v : Int32} (d : decode cc pc = .ok (.ireturn, 1)) (hc : cn ≤ R.cells) (hs : sn ≤ R.slots) (hq : Q (some (.int v)) ws) : AW g A H0 nL K pc lv ([.int v]) ws cn sn := by
  obtain ⟨p, e, s, m, args, below, meth, c, rfl, rfl, hx, hb, hml, hown, hts, hr, hlk, hKn, hG, hA, hnm, hAe, hex⟩ := ok
  intro H locs ls hP hD hS hl
  subst hAe
  refine W.widen hc hs (vx_ret ?_)
  exact W.iret hx hb hr (fun t ht hW => ⟨⟨_, ws, rfl, hq, by rw [ht]; exact hP, hD⟩, hS.F ht⟩) hS.2.2 d

theorem A_lret (ok : OkR l g own nm cc nL (some .long) R ws0 Q X A H0 K) {v : Int64} (d : decode cc pc = .ok (.lreturn, 1)) (hc : cn ≤ R.cells) (hs : sn ≤ R.slots) (hq : Q (some (.long v)) ws) : AW g A H0 nL K pc lv ([.long v]) ws cn sn := by
  obtain ⟨p, e, s, m, args, below, meth, c, rfl, rfl, hx, hb, hml, hown, hts, hr, hlk, hKn, hG, hA, hnm, hAe, hex⟩ := ok
  intro H locs ls hP hD hS hl
  subst hAe
  refine W.widen hc hs (vx_ret ?_)
  exact W.lret hx hb hr (fun t ht hW => ⟨⟨_, ws, rfl, hq, by rw [ht]; exact hP, hD⟩, hS.F ht⟩) hS.2.2 d

theorem A_vret (ok : OkR l g own nm cc nL (none) R ws0 Q X A H0 K)  (d : decode cc pc = .ok (.return_, 1)) (hc : cn ≤ R.cells) (hs : sn ≤ R.slots) (hq : Q (none) ws) : AW g A H0 nL K pc lv ([]) ws cn sn := by
  obtain ⟨p, e, s, m, args, below, meth, c, rfl, rfl, hx, hb, hml, hown, hts, hr, hlk, hKn, hG, hA, hnm, hAe, hex⟩ := ok
  intro H locs ls hP hD hS hl
  subst hAe
  refine W.widen hc hs (vx_ret ?_)
  exact W.vret hx hb hr (fun t ht hW => ⟨⟨_, ws, rfl, hq, by rw [ht]; exact hP, hD⟩, hS.F ht⟩) hS.2.2 d

theorem A_zret (ok : OkR l g own nm cc nL (some .boolean) R ws0 Q X A H0 K) {v : Int32} (d : decode cc pc = .ok (.ireturn, 1)) (hv : v = 0 ∨ v = 1) (hc : cn ≤ R.cells) (hs : sn ≤ R.slots) (hq : Q (some (.int v)) ws) : AW g A H0 nL K pc lv ([.int v]) ws cn sn := by
  obtain ⟨p, e, s, m, args, below, meth, c, rfl, rfl, hx, hb, hml, hown, hts, hr, hlk, hKn, hG, hA, hnm, hAe, hex⟩ := ok
  intro H locs ls hP hD hS hl
  subst hAe
  refine W.widen hc hs (vx_ret ?_)
  exact W.zret hx hb hr (by rcases hv with rfl | rfl <;> rfl) (fun t ht hW => ⟨⟨_, ws, rfl, hq, by rw [ht]; exact hP, hD⟩, hS.F ht⟩) hS.2.2 d

/-- 'throw new E("text")' -/
theorem A_throw {ret : Option FieldType} (ok : OkR l g "TunnelControlDesk" nm cc nL ret R ws0 Q X A H0 K) (hl0 : l.stackTraces = false) {cls text : String} {names : List String} {ik is ic : Nat} (hcls : Bundle.fit cls = true) (hnames : ∀ n ∈ names, Bundle.fit n = true) (hk : Cond.classLink "TunnelControlDesk" ik cls ∈ GT) (hini : Cond.initialized cls ∈ GT) (hstr : (is, text) ∈ xTab) (hat : ∀ w ∈ vx_atS "TunnelControlDesk" ic cls names, w ∈ GT)
    (d0 : decode cc pc = .ok (.new ik, 3)) (d3 : decode cc (pc + 3) = .ok (.dup, 1)) (d4 : decode cc (pc + 4) = .ok (.ldc is, 2)) (d6 : decode cc (pc + 6) = .ok (.invokespecial ic, 3)) (d9 : decode cc (pc + 9) = .ok (.athrow, 1))
    (hRf : names.length + 3 < R.frames) (hRl : (st.map fun v => v.category).sum + (13 * (names.length + 1) + 43) ≤ R.locals) (hRc : cn + 1 ≤ R.cells) (hRs : sn + 6 ≤ R.slots) (hX : X cls ws) : AW g A H0 nL K pc lv st ws cn sn := by
  obtain ⟨p, e, s, m, args, below, meth, c, rfl, rfl, hx, hb, hml, hown, hts, hr, hlk, hKn, hG, hA, hnm, hAe, hex⟩ := ok
  intro H locs ls hP hD hS hl
  obtain ⟨sa, hsa⟩ := hG.gv.2.1 _ hstr
  have hgood : ∀ w ∈ Cond.classLink "TunnelControlDesk" ik cls :: Cond.initialized cls :: vx_atS "TunnelControlDesk" ic cls names, vx_ot w = true := by
    intro w hw
    have h9 : w ∈ GT := by
      rcases List.mem_cons.mp hw with h | hw
      · rw [h]; exact hk
      · rcases List.mem_cons.mp hw with h | hw
        · rw [h]; exact hini
        · exact hat w hw
    simp [vx_ot, gt_good h9]
  subst hAe
  exact vx_throwS hx hb hl0 hown hcls hnames (hts _ hk) (hts _ hini) hsa (fun w hw => hts w (hat w hw)) hgood hG.1 hG.2.1 hS (hl.1.trans hml.symm) d0 d3 d4 d6 d9 (fun x hx9 => (hex x hx9).elim) hRf hRl hRc hRs hlk
    (fun t hv hz hk9 => ⟨⟨ws, hX, va_P.kept hP (fun k q hq => hk9 q.1 (hP k q hq).lt), hD⟩, Nat.le_trans hS.1 hz, fun q h1 h2 => (hk9 q (Nat.lt_of_lt_of_le h1 hS.1)).trans (hS.2.1 q h1 h2)⟩) hS.2.2 hRc hRs
end AWE
theorem Ct.intro {l : Launch} {g : Gl} {y : MethodName} {cc : ByteArray} {nL : Nat} {ret : Option FieldType} {fr lo mc ms : Nat} {args : List Value} {ws : va_W} {Q : QT} {X : XT} (lv : List (Option Value)) (hy : plainName y.cls = true) (hlv : ∀ q ∈ lvl lv, q ∈ lv_args 0 args) (hnl : (lg_sl args).length ≤ nL)
    (body : ∀ (A : Nat → Prop) (H0 : Heap) (K : KT), OkR l g y.cls y.name cc nL ret { frames := fr, cells := mc, slots := ms, locals := lo } ws Q X A H0 K → AW g A H0 nL K 0 lv [] ws 0 0) : Ct l g y cc nL ret fr lo mc ms args ws Q X := by
  intro sz
  refine vx_ofW (cc := cc) (maxL := nL) (ret := ret) hy rfl ?_
  intro p e s m args9 below meth c s₁ B hml hex hv
  obtain ⟨rfl, hsz, hP, hK, hD0, hG⟩ := hv
  subst hsz
  have hts0 := atoms_spec (ws := wsM y cc nL ret) B.pre
  have hts : ∀ w ∈ GT, w.before args.toArray s = true := fun w hw => hts0 w (List.mem_cons_of_mem _ hw)
  have hown : s.vm.findClass y.cls = some m.cls := findClass_of_methodNamed B.named
  have hl := lv_entry args (n := nL) hnl
  rw [lg_entry_eq]
  have hl2 : lv_has _ nL (lvl lv) := ⟨hl.1, hl.2.1, fun q hq => hl.2.2 q (hlv q hq)⟩
  exact body (va_A ws s.heap.size) s.heap _ ⟨p, e, s, m, args.toArray, below, meth, c, rfl, rfl, B.exec, B.bytes, hml, hown, hts, B.returns, B.notSynchronized, hK, hG, fun q h => Or.inr h, (name_of_methodNamed B.named B.method).1, rfl, hex⟩ s.heap [] _ hP hD0.self va_S.rf hl2
end
section
/-! ===== BEGIN a constructor that throws (launches without stack traces) ===== -/
section VXIA
variable {p : Program} {l : Launch} {e : Env} {R : Room} {s : State} {m : MethodId} {args : Array Value} {below : List Frame} {meth : Method} {c : Code} {T : State} {locs : List Loc} {cells slots : Nat}
theorem vx_callI (X : Stand p l e R s m args below meth c T locs cells slots) (hexec : p.tables.exec = Jvm.exec) {own : String} {index : Nat} {y : MethodName} {bytes : ByteArray} {maxL : Nat}
    (hown : s.vm.findClass own = some m.cls) (hy1 : y.name = "<init>") (hlink : (Cond.methodLink own index y).before args s = true) (hinst : (Cond.instanceMethod y).before args s = true)
    (hcode : (Cond.code y bytes maxL none).before args s = true) (hy : y.cls ≠ "java/lang/invoke/MethodHandle" ∧ y.cls ≠ "java/lang/invoke/VarHandle")
    {W9 : Nat} {Pre : Pt → Array Value → Prop} {Post : Pt → Array Value → Option Value → Pt → Prop} {PostX : Pt → Array Value → Addr → Pt → Prop} (hK : vx_Back l R p e below s args y 3 W9 Pre Post PostX)
    {g : JFrame} (hg : g.method = m) (hsize : g.locals.size = c.maxLocals) {a : Addr} {argsL rest : List Value} (hlen : ∀ sig, parseMethodDescriptor y.desc = some sig → argsL.length = sig.parameters.length)
    (hstack : g.stack = argsL.reverse ++ .ref a :: rest) (hW : 2 * g.monitorRoom + (rest.map fun v => v.category).sum ≤ W9) (hdg : decode c.code g.pc = .ok (.invokespecial index, 3))
    (hpre : ∀ vm₁, s.WarmedH vm₁ → Pre ⟨T.setVm vm₁, locs, cells, slots⟩ (Value.ref a :: argsL).toArray) :
    (∃ (v : Option Value) (vm₁ : Vm) (B : Pt), s.WarmedH vm₁ ∧ Stand p l e R s m args below meth c B.U B.locs B.cells B.slots ∧ Post ⟨T.setVm vm₁, locs, cells, slots⟩ (Value.ref a :: argsL).toArray v B ∧
      ∀ target, Steps p.tables e below (B.U.setTop { g with pc := g.pc + 3, stack := v.toList ++ rest }) target → Steps p.tables e below (T.setTop g) target) ∨
    (∃ (q : Addr) (vm₁ : Vm) (B : Pt), s.WarmedH vm₁ ∧ Stand p l e R s m args below meth c B.U B.locs B.cells B.slots ∧ PostX ⟨T.setVm vm₁, locs, cells, slots⟩ (Value.ref a :: argsL).toArray q B ∧
      Steps p.tables e below (T.setTop g) ((B.U.setTop { g with stack := rest }).pushFrame (.throwing q))) := by
  subst hg
  have hpl : e.platform.magicAccessors = ({} : Platform).magicAccessors := by rw [X.admits.platform]
  obtain ⟨mk, methM, cM, kP, vm₁, hnamed, hmethM, hcodeM, -, hlocalsM, -, hkP, -, hW₁, hstep₁⟩ := Steps.initColdArgs (e := e) X.here hexec X.warmed hpl hown hy1 hy hlink hinst hcode (f := g) rfl hlen hstack hdg
  have X₁ := X.noted hW₁
  rcases hK g.method meth c ⟨T.setVm vm₁, locs, cells, slots⟩ { g with stack := rest } (.invokespecial index) mk (Value.ref a :: argsL).toArray X₁ rfl hsize hdg hW (X₁.named hnamed) (hpre vm₁ X₁.warmed) with ⟨v, B, X', hpost, hsteps⟩ | ⟨q, B, X', hpost, hsteps⟩
  · exact Or.inl ⟨v, vm₁, B, X₁.warmed, X', hpost, fun target h => hstep₁ _ fun acts => by rw [doInvoke_state]; exact hsteps.trans h⟩
  · exact Or.inr ⟨q, vm₁, B, X₁.warmed, X', hpost, hstep₁ _ fun acts => by rw [doInvoke_state]; exact hsteps⟩
end VXIA
section VXIB
variable {p : Program} {l : Launch} {e : Env} {R : Room} {s : State} {m : MethodId} {args : Array Value} {below : List Frame} {meth : Method} {c : Code} {H : Heap} {locs : List Loc} {cells slots : Nat}
variable {y : MethodName} {bytes cc : ByteArray} {maxL nL mc ms n index : Nat} {ret : Option FieldType} {ws : List Cond} {rm : Room} {Pc : Array Value → State → Prop} {Qc : Array Value → State → Outcome → State → Prop} {XC : String → State → State → Prop} {free : Addr → Prop} {Ts : List Cond} {own C : String} {b : Addr} {As rest : List Value} {g : JFrame}
theorem vx_runI (S : CallFix p m c cc nL s args Ts own) (hM : vx_Met l y ws rm Pc Qc XC mc ms free) (cw : CallB R s args own index y bytes maxL none ws rm mc ms n ∧ y.name = "<init>" ∧ (Cond.instanceMethod y).before args s = true) (hp : PreS s H Pc (.ref b :: As))
    (hg : g.method = m) (hn : As.length = n) (hsize : g.locals.size = nL) (hstack : g.stack = As.reverse ++ .ref b :: rest) (hW : 2 * g.monitorRoom + (rest.map fun v => v.category).sum ≤ 8) (hdg : decode cc g.pc = .ok (.invokespecial index, 3)) (hf : cells + mc ≤ R.cells ∧ slots + ms ≤ R.slots) :
    vx_Run p l e R s m args below meth c H locs cells slots mc ms g rest (Qc (Value.ref b :: As).toArray) XC free := by
  have hK : vx_Back l R p e below s args y 3 8 (PreOf R mc ms Pc) (PostOf Qc mc ms free) (vx_Post XC mc ms free) := vx_callBack cw.1 hM hp.1
  obtain ⟨⟨-, -, -, -, -, -, hcode, -, hy, hlen, hl⟩, hy1, hin⟩ := cw
  obtain ⟨hx, hb, hml, ho, -⟩ := S
  have hPc := hp.2
  intro T hT X
  rcases vx_callI X hx (bytes := bytes) (maxL := maxL) ho hy1 hl hin hcode hy hK hg (hsize.trans hml.symm) (a := b) (argsL := As) (rest := rest) (fun sig h => hn.trans (hlen sig h)) hstack hW (by rw [hb]; exact hdg)
    (fun vm₁ hW₁ => ⟨hf.1, hf.2, hPc (T.setVm vm₁) hT hW₁⟩) with ⟨v, vm₁, ⟨U', l2, c2, s2⟩, hW₁, X', ⟨g', mk, t, L, e1, e2, hq, h1, hL, h2, h3⟩, st⟩ | ⟨q, vm₁, ⟨U', l2, c2, s2⟩, hW₁, X', ⟨g', mk, t, L, E, ce, e1, e2, hq, hce, hcv, hcl, h1, hL, h2, h3⟩, st⟩
  · dsimp only [Pt.U, Pt.locs, Pt.cells, Pt.slots] at X' e1 e2 h1 h2 h3 st
    subst h1; subst h2; subst h3
    exact Or.inl ⟨v, (T.setVm vm₁).calling g' mk (Value.ref b :: As).toArray, t, U', L, hT, X', hL, e1, e2, hq, st⟩
  · dsimp only [Pt.U, Pt.locs, Pt.cells, Pt.slots] at X' e1 e2 h1 h2 h3 st hcl
    subst h1; subst h2; subst h3
    exact Or.inr ⟨q, (T.setVm vm₁).calling g' mk (Value.ref b :: As).toArray, t, U', L, E, ce, hT, X', hL, e1, e2, hq, hce, hcv, vx_cls hW₁ hcl, st⟩
end VXIB
/-! ===== END ===== -/
/-! ===== BEGIN a private constructor of a nest mate that throws ===== -/
section VXIC
variable {p : Program} {l : Launch} {e : Env} {R : Room} {s : State} {m : MethodId} {args : Array Value} {below : List Frame} {meth : Method} {c : Code} {T : State} {locs : List Loc} {cells slots : Nat}
theorem vx_callIN (X : Stand p l e R s m args below meth c T locs cells slots) (hexec : p.tables.exec = Jvm.exec) {own : String} {index : Nat} {host : String} {y : MethodName} {bytes : ByteArray} {maxL : Nat}
    (hown : s.vm.findClass own = some m.cls) (hy1 : y.name = "<init>") (hlink : (Cond.methodLinkNest own index y host).before args s = true) (hinst : (Cond.instanceMethod y).before args s = true)
    (hcode : (Cond.code y bytes maxL none).before args s = true) (hy : y.cls ≠ "java/lang/invoke/MethodHandle" ∧ y.cls ≠ "java/lang/invoke/VarHandle")
    {W9 : Nat} {Pre : Pt → Array Value → Prop} {Post : Pt → Array Value → Option Value → Pt → Prop} {PostX : Pt → Array Value → Addr → Pt → Prop} (hK : vx_Back l R p e below s args y 3 W9 Pre Post PostX)
    {g : JFrame} (hg : g.method = m) (hsize : g.locals.size = c.maxLocals) {a : Addr} {argsL rest : List Value} (hlen : ∀ sig, parseMethodDescriptor y.desc = some sig → argsL.length = sig.parameters.length)
    (hstack : g.stack = argsL.reverse ++ .ref a :: rest) (hW : 2 * g.monitorRoom + (rest.map fun v => v.category).sum ≤ W9) (hdg : decode c.code g.pc = .ok (.invokespecial index, 3))
    (hpre : ∀ vm₁, s.WarmedH vm₁ → Pre ⟨T.setVm vm₁, locs, cells, slots⟩ (Value.ref a :: argsL).toArray) :
    (∃ (v : Option Value) (vm₁ : Vm) (B : Pt), s.WarmedH vm₁ ∧ Stand p l e R s m args below meth c B.U B.locs B.cells B.slots ∧ Post ⟨T.setVm vm₁, locs, cells, slots⟩ (Value.ref a :: argsL).toArray v B ∧
      ∀ target, Steps p.tables e below (B.U.setTop { g with pc := g.pc + 3, stack := v.toList ++ rest }) target → Steps p.tables e below (T.setTop g) target) ∨
    (∃ (q : Addr) (vm₁ : Vm) (B : Pt), s.WarmedH vm₁ ∧ Stand p l e R s m args below meth c B.U B.locs B.cells B.slots ∧ PostX ⟨T.setVm vm₁, locs, cells, slots⟩ (Value.ref a :: argsL).toArray q B ∧
      Steps p.tables e below (T.setTop g) ((B.U.setTop { g with stack := rest }).pushFrame (.throwing q))) := by
  subst hg
  have hpl : e.platform.magicAccessors = ({} : Platform).magicAccessors := by rw [X.admits.platform]
  obtain ⟨mk, methM, cM, kP, vm₁, hnamed, hmethM, hcodeM, -, hlocalsM, -, hkP, -, hW₁, hstep₁⟩ := Steps.initColdArgsNest (e := e) X.here hexec X.warmed hpl hown hy1 hy hlink hinst hcode (f := g) rfl hlen hstack hdg
  have X₁ := X.noted hW₁
  rcases hK g.method meth c ⟨T.setVm vm₁, locs, cells, slots⟩ { g with stack := rest } (.invokespecial index) mk (Value.ref a :: argsL).toArray X₁ rfl hsize hdg hW (X₁.named hnamed) (hpre vm₁ X₁.warmed) with ⟨v, B, X', hpost, hsteps⟩ | ⟨q, B, X', hpost, hsteps⟩
  · exact Or.inl ⟨v, vm₁, B, X₁.warmed, X', hpost, fun target h => hstep₁ _ fun acts => by rw [doInvoke_state]; exact hsteps.trans h⟩
  · exact Or.inr ⟨q, vm₁, B, X₁.warmed, X', hpost, hstep₁ _ fun acts => by rw [doInvoke_state]; exact hsteps⟩
end VXIC
section VXID
variable {p : Program} {l : Launch} {e : Env} {R : Room} {s : State} {m : MethodId} {args : Array Value} {below : List Frame} {meth : Method} {c : Code} {H : Heap} {locs : List Loc} {cells slots : Nat}
theorem vx_runIN {y : MethodName} {bytes cc : ByteArray} {maxL nL mc ms n index : Nat} {ws : List Cond} {rm : Room} {Pc : Array Value → State → Prop} {Qc : Array Value → State → Outcome → State → Prop} {XC : String → State → State → Prop} {free : Addr → Prop} {Ts : List Cond} {own host : String} {b : Addr} {As rest : List Value} {g : JFrame}
    (S : CallFix p m c cc nL s args Ts own) (hM : vx_Met l y ws rm Pc Qc XC mc ms free) (cw : va_CN R s args own index y host bytes maxL none ws rm mc ms n ∧ y.name = "<init>" ∧ (Cond.instanceMethod y).before args s = true) (hp : PreS s H Pc (.ref b :: As))
    (hg : g.method = m) (hn : As.length = n) (hsize : g.locals.size = nL) (hstack : g.stack = As.reverse ++ .ref b :: rest) (hW : 2 * g.monitorRoom + (rest.map fun v => v.category).sum ≤ 8) (hdg : decode cc g.pc = .ok (.invokespecial index, 3)) (hf : cells + mc ≤ R.cells ∧ slots + ms ≤ R.slots) :
    vx_Run p l e R s m args below meth c H locs cells slots mc ms g rest (Qc (Value.ref b :: As).toArray) XC free := by
  obtain ⟨⟨⟨hrc, hrs, hfr, hlo, hws, hcw⟩, hcode, hini, hy, hlen, hl⟩, hx1, hx2⟩ := cw
  have hK : vx_Back l R p e below s args y 3 8 (PreOf R mc ms Pc) (PostOf Qc mc ms free) (vx_Post XC mc ms free) := vx_back (bytes := bytes) (maxL := maxL) (ret := none) hM hp.1 hrc hrs hfr hlo hws hcw (fun a' U hW => word_at hW (Or.inl (by first | rfl | simp [Cond.onTables, Cond.keeps, Cond.steady])) hini)
  obtain ⟨hx, hb, hml, ho, -⟩ := S
  have hPc := hp.2
  intro T hT X
  rcases vx_callIN X hx (bytes := bytes) (maxL := maxL) ho hx1 hl hx2 hcode hy hK hg (hsize.trans hml.symm) (a := b) (argsL := As) (rest := rest) (fun sig h => hn.trans (hlen sig h)) hstack hW (by rw [hb]; exact hdg)
    (fun vm₁ hW₁ => ⟨hf.1, hf.2, hPc (T.setVm vm₁) hT hW₁⟩) with ⟨v, vm₁, ⟨U', l2, c2, s2⟩, hW₁, X', ⟨g', mk, t, L, e1, e2, hq, h1, hL, h2, h3⟩, st⟩ | ⟨q, vm₁, ⟨U', l2, c2, s2⟩, hW₁, X', ⟨g', mk, t, L, E, ce, e1, e2, hq, hce, hcv, hcl, h1, hL, h2, h3⟩, st⟩
  · dsimp only [Pt.U, Pt.locs, Pt.cells, Pt.slots] at X' e1 e2 h1 h2 h3 st
    subst h1; subst h2; subst h3
    exact Or.inl ⟨v, (T.setVm vm₁).calling g' mk (Value.ref b :: As).toArray, t, U', L, hT, X', hL, e1, e2, hq, st⟩
  · dsimp only [Pt.U, Pt.locs, Pt.cells, Pt.slots] at X' e1 e2 h1 h2 h3 st hcl
    subst h1; subst h2; subst h3
    exact Or.inr ⟨q, (T.setVm vm₁).calling g' mk (Value.ref b :: As).toArray, t, U', L, E, ce, hT, X', hL, e1, e2, hq, hce, hcv, vx_cls hW₁ hcl, st⟩
end VXID
/-! ===== END ===== -/
/-! ===== BEGIN a private method of a nest mate that may throw (follows va_callVN, va_callSN, va_runVN, va_runSN) ===== -/
section
variable {p : Program} {l : Launch} {e : Env} {R : Room} {s : State} {m : MethodId} {args : Array Value} {below : List Frame} {meth : Method} {c : Code} {H : Heap} {locs : List Loc} {cells slots : Nat}
variable {T : State}
theorem vx_callVN (X : Stand p l e R s m args below meth c T locs cells slots) (hexec : p.tables.exec = Jvm.exec) {own C : String} {index : Nat} {host : String} {y : MethodName} {bytes : ByteArray} {maxL : Nat} {ret : Option FieldType}
    (hown : s.vm.findClass own = some m.cls) (hlink : (Cond.methodLinkNest own index y host).before args s = true) (hinst : (Cond.instanceMethod y).before args s = true) (hsel : (Cond.selects C y y).before args s = true)
    (hcode : (Cond.code y bytes maxL ret).before args s = true) (hy : y.cls ≠ "java/lang/invoke/MethodHandle" ∧ y.cls ≠ "java/lang/invoke/VarHandle")
    {W : Nat} {Pre : Pt → Array Value → Prop} {Post : Pt → Array Value → Option Value → Pt → Prop} {PostX : Pt → Array Value → Addr → Pt → Prop} (hK : vx_Back l R p e below s args y 3 W Pre Post PostX)
    {b : Addr} {cellB : Cell} (hcell : T.heap[b]? = some cellB) (hobj : cellB.vm.isStatics = false) (hcls : s.vm.findClass C = some cellB.cls)
    {g : JFrame} (hg : g.method = m) (hsize : g.locals.size = c.maxLocals) {argsL rest : List Value} (hlen : ∀ sig, parseMethodDescriptor y.desc = some sig → argsL.length = sig.parameters.length)
    (hstack : g.stack = argsL.reverse ++ .ref b :: rest) (hW : 2 * g.monitorRoom + (rest.map fun v => v.category).sum ≤ W) (hdg : decode c.code g.pc = .ok (.invokevirtual index, 3))
    (hpre : ∀ vm₁, s.WarmedH vm₁ → Pre ⟨T.setVm vm₁, locs, cells, slots⟩ (Value.ref b :: argsL).toArray) :
    (∃ (v : Option Value) (vm₁ : Vm) (B : Pt), s.WarmedH vm₁ ∧ Stand p l e R s m args below meth c B.U B.locs B.cells B.slots ∧ Post ⟨T.setVm vm₁, locs, cells, slots⟩ (Value.ref b :: argsL).toArray v B ∧
      ∀ target, Steps p.tables e below (B.U.setTop { g with pc := g.pc + 3, stack := v.toList ++ rest }) target → Steps p.tables e below (T.setTop g) target) ∨
    (∃ (q : Addr) (vm₁ : Vm) (B : Pt), s.WarmedH vm₁ ∧ Stand p l e R s m args below meth c B.U B.locs B.cells B.slots ∧ PostX ⟨T.setVm vm₁, locs, cells, slots⟩ (Value.ref b :: argsL).toArray q B ∧
      Steps p.tables e below (T.setTop g) ((B.U.setTop { g with stack := rest }).pushFrame (.throwing q))) := by
  obtain ⟨mk, methM, hnamed, hmethM, hstM, habM⟩ := Cond.instanceMethod_spec hinst
  obtain ⟨methM', cM, hmethM', -, -, -, -, -, -, hsigM⟩ := Cond.code_spec hnamed hcode
  cases hmethM.symm.trans hmethM'
  obtain ⟨c2, r2, m2, q1, q2, q3, q4, kP, hkP, hkPi⟩ := Cond.selects_spec hsel
  cases hcls.symm.trans q1
  cases (State.methodFound?_of_named hnamed hy).symm.trans q2
  cases hnamed.symm.trans q3
  have hselP : selectMethod e.platform s.vm cellB.cls mk = .method mk := by rw [Launch.admits_selectMethod X.admits]; exact q4
  obtain ⟨vm₁, X₁, hstep₁⟩ := X.invokevirtualNest hexec hown hlink hnamed hmethM hstM hkP hkPi hy (a := b) (cell := cellB) hcell
    (fun z h => by rw [h] at hobj; cases hobj) hselP hmethM habM hkP hkPi (g := g) hg (argsL := argsL) (rest := rest) (hlen _ hsigM) hstack hdg
  rcases hK m meth c ⟨T.setVm vm₁, locs, cells, slots⟩ { g with stack := rest } (.invokevirtual index) mk (Value.ref b :: argsL).toArray X₁ hg hsize hdg hW (X₁.named hnamed) (hpre vm₁ X₁.warmed) with ⟨v, B, X', hpost, hsteps⟩ | ⟨q, B, X', hpost, hsteps⟩
  · exact Or.inl ⟨v, vm₁, B, X₁.warmed, X', hpost, fun target h => hstep₁ _ fun acts => by rw [doInvoke_state]; exact hsteps.trans h⟩
  · exact Or.inr ⟨q, vm₁, B, X₁.warmed, X', hpost, hstep₁ _ fun acts => by rw [doInvoke_state]; exact hsteps⟩
theorem vx_callSN (X : Stand p l e R s m args below meth c T locs cells slots) (hexec : p.tables.exec = Jvm.exec) {own : String} {index : Nat} {host : String} {y : MethodName} {bytes : ByteArray} {maxL : Nat} {ret : Option FieldType}
    (hown : s.vm.findClass own = some m.cls) (hlink : (Cond.methodLinkNest own index y host).before args s = true) (hstat : (Cond.static y).before args s = true) (hinit : (Cond.initialized y.cls).before args s = true)
    (hcode : (Cond.code y bytes maxL ret).before args s = true) (hy : y.cls ≠ "java/lang/invoke/MethodHandle" ∧ y.cls ≠ "java/lang/invoke/VarHandle")
    {W : Nat} {Pre : Pt → Array Value → Prop} {Post : Pt → Array Value → Option Value → Pt → Prop} {PostX : Pt → Array Value → Addr → Pt → Prop} (hK : vx_Back l R p e below s args y 3 W Pre Post PostX)
    {g : JFrame} (hg : g.method = m) (hsize : g.locals.size = c.maxLocals) {argsL rest : List Value} (hlen : ∀ sig, parseMethodDescriptor y.desc = some sig → argsL.length = sig.parameters.length)
    (hstack : g.stack = argsL.reverse ++ rest) (hW : 2 * g.monitorRoom + (rest.map fun v => v.category).sum ≤ W) (hdg : decode c.code g.pc = .ok (.invokestatic index, 3))
    (hpre : ∀ vm₁, s.WarmedH vm₁ → Pre ⟨T.setVm vm₁, locs, cells, slots⟩ argsL.toArray) :
    (∃ (v : Option Value) (vm₁ : Vm) (B : Pt), s.WarmedH vm₁ ∧ Stand p l e R s m args below meth c B.U B.locs B.cells B.slots ∧ Post ⟨T.setVm vm₁, locs, cells, slots⟩ argsL.toArray v B ∧
      ∀ target, Steps p.tables e below (B.U.setTop { g with pc := g.pc + 3, stack := v.toList ++ rest }) target → Steps p.tables e below (T.setTop g) target) ∨
    (∃ (q : Addr) (vm₁ : Vm) (B : Pt), s.WarmedH vm₁ ∧ Stand p l e R s m args below meth c B.U B.locs B.cells B.slots ∧ PostX ⟨T.setVm vm₁, locs, cells, slots⟩ argsL.toArray q B ∧
      Steps p.tables e below (T.setTop g) ((B.U.setTop { g with stack := rest }).pushFrame (.throwing q))) := by
  obtain ⟨mk, hnamed⟩ := Cond.code_named hcode
  obtain ⟨methM, cM, hmethM, -, -, -, -, -, -, hsigM⟩ := Cond.code_spec hnamed hcode
  have hstatic : methM.isStatic = true := Cond.static_spec hnamed hmethM hstat
  obtain ⟨kP, hkP, -⟩ := className_of_methodNamed hnamed
  have hinitP : kP.init = .initialized := Cond.initialized_spec (findClass_of_methodNamed hnamed) hkP hinit
  obtain ⟨vm₁, X₁, hstep₁⟩ := X.invokestaticNest hexec hown hlink hnamed hmethM hstatic hkP hinitP hy (g := g) hg (argsL := argsL) (rest := rest) (hlen _ hsigM) hstack hdg
  rcases hK m meth c ⟨T.setVm vm₁, locs, cells, slots⟩ { g with stack := rest } (.invokestatic index) mk argsL.toArray X₁ hg hsize hdg hW (X₁.named hnamed) (hpre vm₁ X₁.warmed) with ⟨v, B, X', hpost, hsteps⟩ | ⟨q, B, X', hpost, hsteps⟩
  · exact Or.inl ⟨v, vm₁, B, X₁.warmed, X', hpost, fun target h => hstep₁ _ fun acts => by rw [doInvoke_state]; exact hsteps.trans h⟩
  · exact Or.inr ⟨q, vm₁, B, X₁.warmed, X', hpost, hstep₁ _ fun acts => by rw [doInvoke_state]; exact hsteps⟩
theorem vx_runVN {y : MethodName} {bytes cc : ByteArray} {maxL nL mc ms n index : Nat} {ret : Option FieldType} {ws : List Cond} {rm : Room} {Pc : Array Value → State → Prop} {Qc : Array Value → State → Outcome → State → Prop} {XC : String → State → State → Prop} {free : Addr → Prop} {Ts : List Cond} {own C host : String} {b : Addr} {As rest : List Value} {g : JFrame}
    (S : CallFix p m c cc nL s args Ts own) (hM : vx_Met l y ws rm Pc Qc XC mc ms free) (cw : va_CN R s args own index y host bytes maxL ret ws rm mc ms n ∧ (Cond.instanceMethod y).before args s = true ∧ (Cond.selects C y y).before args s = true) (hp : PreV s H C b Pc As)
    (hg : g.method = m) (hn : As.length = n) (hsize : g.locals.size = nL) (hstack : g.stack = As.reverse ++ .ref b :: rest) (hW : 2 * g.monitorRoom + (rest.map fun v => v.category).sum ≤ 8) (hdg : decode cc g.pc = .ok (.invokevirtual index, 3)) (hf : cells + mc ≤ R.cells ∧ slots + ms ≤ R.slots) :
    vx_Run p l e R s m args below meth c H locs cells slots mc ms g rest (Qc (Value.ref b :: As).toArray) XC free := by
  obtain ⟨⟨⟨hrc, hrs, hfr, hlo, hws, hcw⟩, hcode, hini, hy, hlen, hl⟩, hx1, hx2⟩ := cw
  have hK : vx_Back l R p e below s args y 3 8 (PreOf R mc ms Pc) (PostOf Qc mc ms free) (vx_Post XC mc ms free) := vx_back (bytes := bytes) (maxL := maxL) (ret := ret) hM hp.1 hrc hrs hfr hlo hws hcw (fun a' U hW => word_at hW (Or.inl (by first | rfl | simp [Cond.onTables, Cond.keeps, Cond.steady])) hini)
  obtain ⟨hx, hb, hml, ho, -⟩ := S
  obtain ⟨-, ⟨cellB, hcB, hoB, hclB⟩, hPc⟩ := hp
  intro T hT X
  rcases vx_callVN X hx (C := C) (bytes := bytes) (maxL := maxL) (ret := ret) ho hl hx1 hx2 hcode hy hK (by rw [hT]; exact hcB) hoB hclB hg (hsize.trans hml.symm) (argsL := As) (rest := rest) (fun sig h => hn.trans (hlen sig h)) hstack hW (by rw [hb]; exact hdg)
    (fun vm₁ hW₁ => ⟨hf.1, hf.2, hPc (T.setVm vm₁) hT hW₁⟩) with ⟨v, vm₁, ⟨U', l2, c2, s2⟩, hW₁, X', ⟨g', mk, t, L, e1, e2, hq, h1, hL, h2, h3⟩, st⟩ | ⟨q, vm₁, ⟨U', l2, c2, s2⟩, hW₁, X', ⟨g', mk, t, L, E, ce, e1, e2, hq, hce, hcv, hcl, h1, hL, h2, h3⟩, st⟩
  · dsimp only [Pt.U, Pt.locs, Pt.cells, Pt.slots] at X' e1 e2 h1 h2 h3 st
    subst h1; subst h2; subst h3
    exact Or.inl ⟨v, (T.setVm vm₁).calling g' mk (Value.ref b :: As).toArray, t, U', L, hT, X', hL, e1, e2, hq, st⟩
  · dsimp only [Pt.U, Pt.locs, Pt.cells, Pt.slots] at X' e1 e2 h1 h2 h3 st hcl
    subst h1; subst h2; subst h3
    exact Or.inr ⟨q, (T.setVm vm₁).calling g' mk (Value.ref b :: As).toArray, t, U', L, E, ce, hT, X', hL, e1, e2, hq, hce, hcv, vx_cls hW₁ hcl, st⟩
theorem vx_runSN {y : MethodName} {bytes cc : ByteArray} {maxL nL mc ms n index : Nat} {ret : Option FieldType} {ws : List Cond} {rm : Room} {Pc : Array Value → State → Prop} {Qc : Array Value → State → Outcome → State → Prop} {XC : String → State → State → Prop} {free : Addr → Prop} {Ts : List Cond} {own host : String} {As rest : List Value} {g : JFrame}
    (S : CallFix p m c cc nL s args Ts own) (hM : vx_Met l y ws rm Pc Qc XC mc ms free) (cw : va_CN R s args own index y host bytes maxL ret ws rm mc ms n ∧ (Cond.static y).before args s = true ∧ True) (hp : PreS s H Pc As)
    (hg : g.method = m) (hn : As.length = n) (hsize : g.locals.size = nL) (hstack : g.stack = As.reverse ++ rest) (hW : 2 * g.monitorRoom + (rest.map fun v => v.category).sum ≤ 8) (hdg : decode cc g.pc = .ok (.invokestatic index, 3)) (hf : cells + mc ≤ R.cells ∧ slots + ms ≤ R.slots) :
    vx_Run p l e R s m args below meth c H locs cells slots mc ms g rest (Qc As.toArray) XC free := by
  obtain ⟨⟨⟨hrc, hrs, hfr, hlo, hws, hcw⟩, hcode, hini, hy, hlen, hl⟩, hx1, hx2⟩ := cw
  have hK : vx_Back l R p e below s args y 3 8 (PreOf R mc ms Pc) (PostOf Qc mc ms free) (vx_Post XC mc ms free) := vx_back (bytes := bytes) (maxL := maxL) (ret := ret) hM hp.1 hrc hrs hfr hlo hws hcw (fun a' U hW => word_at hW (Or.inl (by first | rfl | simp [Cond.onTables, Cond.keeps, Cond.steady])) hini)
  obtain ⟨hx, hb, hml, ho, -⟩ := S
  have hPc := hp.2
  intro T hT X
  rcases vx_callSN X hx (bytes := bytes) (maxL := maxL) (ret := ret) ho hl hx1 hini hcode hy hK hg (hsize.trans hml.symm) (argsL := As) (rest := rest) (fun sig h => hn.trans (hlen sig h)) hstack hW (by rw [hb]; exact hdg)
    (fun vm₁ hW₁ => ⟨hf.1, hf.2, hPc (T.setVm vm₁) hT hW₁⟩) with ⟨v, vm₁, ⟨U', l2, c2, s2⟩, hW₁, X', ⟨g', mk, t, L, e1, e2, hq, h1, hL, h2, h3⟩, st⟩ | ⟨q, vm₁, ⟨U', l2, c2, s2⟩, hW₁, X', ⟨g', mk, t, L, E, ce, e1, e2, hq, hce, hcv, hcl, h1, hL, h2, h3⟩, st⟩
  · dsimp only [Pt.U, Pt.locs, Pt.cells, Pt.slots] at X' e1 e2 h1 h2 h3 st
    subst h1; subst h2; subst h3
    exact Or.inl ⟨v, (T.setVm vm₁).calling g' mk As.toArray, t, U', L, hT, X', hL, e1, e2, hq, st⟩
  · dsimp only [Pt.U, Pt.locs, Pt.cells, Pt.slots] at X' e1 e2 h1 h2 h3 st hcl
    subst h1; subst h2; subst h3
    exact Or.inr ⟨q, (T.setVm vm₁).calling g' mk As.toArray, t, U', L, E, ce, hT, X', hL, e1, e2, hq, hce, hcv, vx_cls hW₁ hcl, st⟩
end
/-! ===== END ===== -/
theorem cP_blind {g : Gl} {sz : Nat} {ws : va_W} {args : List Value} : FrameBlind (cP g sz ws args) := fun a U f mk h => by
  obtain ⟨rfl, h1, h2, h3, h4, h5⟩ := h
  exact ⟨rfl, h1, h2, va_K.moved (u := U) (U := U.calling f mk _) (Vm.Alike.refl U.vm) h3, h4, GH.same (u := U) (U := U.calling f mk _) rfl h5⟩
theorem cP_at {g : Gl} {A : Nat → Prop} {s U : State} {H : Heap} {locs : List Loc} {wc : va_W} {args : List Value} (hU : U.heap = H) (hW : s.WarmedH U.vm) (hP : va_P g.1 vwCl wc H) (hK : va_K g.1 vwCl (gtys g) s) (hD : va_D A wc) (hS : va_S A s.heap H locs) (hG : GH g A s s.heap) (hF : ∀ q, va_A wc H.size q → A q) : cP g H.size wc args args.toArray U := by
  refine ⟨rfl, by rw [hU], by rw [hU]; exact hP, va_K.moved hW.alike hK, hD.weaken (fun _ _ _ _ => trivial), ?_⟩
  rw [hU]
  exact GH.moved hW ((hG.kept hS.2.1).narrow hF)
section RUNW
variable {p : Program} {l : Launch} {e : Env} {R : Room} {s : State} {m : MethodId} {args : Array Value} {below : List Frame} {meth : Method} {c : Code} {H : Heap} {locs : List Loc} {cells slots : Nat} {Q9 : State → Prop}
theorem run_W {g : Gl} {A : Nat → Prop} {ws wc wr : va_W} {Q : QT} {X : XT} {a : Array Value} {mc ms pc : Nat} {ls : Array Slot} {st0 rest : List Value} (isC isR : List Nat)
    (hr : vx_Run p l e R s m args below meth c H locs cells slots mc ms (F0 m pc ls st0) rest (cQ g H.size wc Q a) (cX g H.size wc X) (va_A wc H.size))
    (hP : va_P g.1 vwCl ws H) (hD : va_D A ws) (hS : va_S A s.heap H locs) (hA : ∀ q : Nat, s.heap.size ≤ q → A q) (hC : isC.map (fun i => ws[i]?) = wc.map some) (hR : isR.map (fun i => ws[i]?) = wr.map some) (hn : va_nd isR = true) (hdis : ∀ i ∈ isR, i ∉ isC)
    (kx : ∀ (E : String) (ce : Cell) (q9 : Addr) (w : va_W) (H1 : Heap) (locs1 : List Loc), X E w → va_P g.1 vwCl (wr ++ w) H1 → va_D A (wr ++ w) → va_S A s.heap H1 locs1 → H1[q9]? = some ce → ce.vm = .none → s.vm.findClass E = some ce.cls → vx_W p l e R s m args below meth c H1 locs1 (cells + mc) (slots + ms) Q9 (F0 m pc ls rest) q9)
    (kk : ∀ (v : Option Value) (w : va_W) (H1 : Heap) (locs1 : List Loc), Q v w → va_P g.1 vwCl (wr ++ w) H1 → va_D A (wr ++ w) → va_S A s.heap H1 locs1 → W p l e R s m args below meth c H1 locs1 (cells + mc) (slots + ms) Q9 (F0 m (pc + 3) ls (v.toList ++ rest))) :
    W p l e R s m args below meth c H locs cells slots Q9 (F0 m pc ls st0) := by
  have hFc := va_free (wc := wc) hD hS hA isC hC
  intro T hT X0
  rcases hr T hT X0 with ⟨v, st₀, t, T', L, h0, X', hL, e1, e2, ⟨⟨v2, w, hv, hq, hPw, hDw⟩, hF⟩, st⟩ | ⟨q, st₀, t, T', L, E, ce, h0, X', hL, e1, e2, ⟨⟨w, hxw, hPw, hDw⟩, hF⟩, hce, hcv, hcl, st⟩
  · cases hv
    obtain ⟨k1, k2, k3⟩ := vx_keep (A0 := A) h0 e1 hS (fun q _ h => hFc q h) hFc hL hF
    rw [← e1] at hPw
    obtain ⟨hP2, hD2⟩ := va_join hP hD isC isR hC hR hn hdis k2 hFc hPw hDw
    obtain ⟨t2, a1, b1⟩ := kk _ w T'.heap (locs ++ L) hq hP2 hD2 k3 T' rfl X'
    exact ⟨t2, st t2 a1, b1⟩
  · obtain ⟨k1, k2, k3⟩ := vx_keep (A0 := A) h0 e1 hS (fun q _ h => hFc q h) hFc hL hF
    rw [← e1] at hPw
    obtain ⟨hP2, hD2⟩ := va_join hP hD isC isR hC hR hn hdis k2 hFc hPw hDw
    obtain ⟨t2, a1, b1⟩ := kx E ce q w T'.heap (locs ++ L) hxw hP2 hD2 k3 (by rw [e1]; exact hce) hcv hcl T' rfl X'
    exact ⟨t2, st.trans a1, b1⟩
end RUNW
/-- what a call needs of its callee's tables -/
def MF (y : MethodName) (cc : ByteArray) (nL : Nat) (ret : Option FieldType) (n : Nat) : Prop := Cond.code y cc nL ret ∈ GT ∧ Cond.initialized y.cls ∈ GT ∧ (y.cls ≠ "java/lang/invoke/MethodHandle" ∧ y.cls ≠ "java/lang/invoke/VarHandle" ∧ (parseMethodDescriptor y.desc).map (fun d => d.parameters.length) = some n)
theorem wsV_good {own : String} {ix : Nat} {y : MethodName} {cc : ByteArray} {nL n : Nat} {ret : Option FieldType} (mf : MF y cc nL ret n) (h1 : Cond.methodLink own ix y ∈ GT) (h2 : Cond.instanceMethod y ∈ GT) (h3 : Cond.selects y.cls y y ∈ GT) : GoodIn GT (wsV own ix y.cls y (wsM y cc nL ret)) := by
  intro w hw
  unfold wsV at hw
  rcases List.mem_append.mp hw with h | h
  · have h9 : w ∈ GT := by
      simp only [List.mem_cons, List.not_mem_nil, or_false] at h
      rcases h with h | h | h | h
      · rw [h]; exact h1
      · rw [h]; exact h2
      · rw [h]; exact h3
      · rw [h]; exact mf.2.1
    exact ⟨h9, good_of_word (gt_good h9)⟩
  · exact wsM_good mf.1 w h
theorem wsS_good {own : String} {ix : Nat} {y : MethodName} {cc : ByteArray} {nL n : Nat} {ret : Option FieldType} (mf : MF y cc nL ret n) (hy : y.cls = own) (h1 : Cond.methodLink own ix y ∈ GT) (h2 : Cond.static y ∈ GT) : GoodIn GT (wsS own ix y (wsM y cc nL ret)) := by
  intro w hw
  unfold wsS at hw
  rcases List.mem_append.mp hw with h | h
  · have h9 : w ∈ GT := by
      simp only [List.mem_cons, List.not_mem_nil, or_false] at h
      rcases h with h | h | h
      · rw [h]; exact h1
      · rw [h]; exact h2
      · rw [h, ← hy]; exact mf.2.1
    exact ⟨h9, good_of_word (gt_good h9)⟩
  · exact wsM_good mf.1 w h


section AWCR
variable {l : Launch} {g : Gl} {own nm : String} {cc : ByteArray} {nL : Nat} {ret : Option FieldType} {R : Room} {ws0 : va_W} {Q0 : QT} {X0 : XT} {A : Nat → Prop} {H0 : Heap} {K : KT} {pc : Nat} {lv : List (Option Value)} {ws : va_W} {cn sn : Nat}

theorem A_callVB (ok : OkB l g own nm cc nL ret R A H0 K) (isC isR : List Nat) {y : MethodName} {bytes : ByteArray} {maxL n ix fr lo mc ms : Nat} {rt : Option FieldType} {wc wr : va_W} {Q : QT} {X : XT} {b : Nat} {As rest : List Value} (mf : MF y bytes maxL rt n) (hlk9 : Cond.methodLink own ix y ∈ GT) (hin : Cond.instanceMethod y ∈ GT) (hse : Cond.selects y.cls y y ∈ GT) {ci N9 q9 : Nat} {T9 : u_T} {ty9 : Nat → FieldType} {fs : List Value} (cf : CF ci y.cls T9 N9 ty9) (gq : Gp q9 ws (b, .inr (ci, fs))) (hct : Ct l g y bytes maxL rt fr lo mc ms (.ref b :: As) wc Q X) (hn9 : As.length = n) (hndC : va_nd isC = true) {st0 : List Value} (hstk : st0 = As.reverse ++ .ref b :: rest) (d : decode cc pc = .ok (.invokevirtual ix, 3))
     (hC : isC.map (fun i => ws[i]?) = wc.map some) (hRr : isR.map (fun i => ws[i]?) = wr.map some) (hnd : va_nd isR = true) (hdis : ∀ i ∈ isR, i ∉ isC) (hst : (rest.map fun v => v.category).sum ≤ 8) (hfr : fr + 1 ≤ R.frames ∧ 8 + (maxL + 11) + lo ≤ R.locals) (hmk : cn + mc ≤ R.cells ∧ sn + ms ≤ R.slots)
    (hX : ∀ (E : String) (w : va_W), ¬ X E w)
    (kk : ∀ (v : Option Value) (w : va_W), Q v w → AW g A H0 nL K (pc + 3) lv (v.toList ++ rest) (wr ++ w) (cn + mc) (sn + ms)) : AW g A H0 nL K pc lv st0 ws cn sn := by
  obtain ⟨p, e, s, m, args, below, meth, c, Q, rfl, rfl, hx, hb, hml, hown, hts, hr, hlk, hKn, hG, hA, hnm⟩ := ok
  intro H locs ls hP hD hS hl
  have hFc := va_free (wc := wc) hD hS hA isC hC
  have hPc : va_P g.1 vwCl wc H := hP.pick isC hC
  exact run_W isC isR (vx_runV (As := As) (rest := rest) ⟨hx, hb, hml, hown, hts⟩ (hct H.size) (cwV n hts (wsV_good mf hlk9 hin hse) rfl rfl rfl ⟨rfl, mf.2.2⟩ hfr) ⟨cP_blind, va_recv hKn hP cf.1 gq, fun U hU hW => cP_at hU hW hPc hKn (hD.sub isC hndC hC) hS hG hFc⟩ rfl hn9 hl.1 hstk (lv_room hst) d hmk) hP hD hS hA hC hRr hnd hdis
    (fun E ce q9 w H1 locs1 hxw hP2 hD2 hS2 h1 h2 h3 => (hX E w hxw).elim)
    (fun v w H1 locs1 hq hP2 hD2 hS2 => kk v w hq H1 locs1 ls hP2 hD2 hS2 hl)

theorem A_callVR (ok : OkR l g own nm cc nL ret R ws0 Q0 X0 A H0 K) (isC isR : List Nat) {y : MethodName} {bytes : ByteArray} {maxL n ix fr lo mc ms : Nat} {rt : Option FieldType} {wc wr : va_W} {Q : QT} {X : XT} {b : Nat} {As rest : List Value} (mf : MF y bytes maxL rt n) (hlk9 : Cond.methodLink own ix y ∈ GT) (hin : Cond.instanceMethod y ∈ GT) (hse : Cond.selects y.cls y y ∈ GT) {ci N9 q9 : Nat} {T9 : u_T} {ty9 : Nat → FieldType} {fs : List Value} (cf : CF ci y.cls T9 N9 ty9) (gq : Gp q9 ws (b, .inr (ci, fs))) (hct : Ct l g y bytes maxL rt fr lo mc ms (.ref b :: As) wc Q X) (hn9 : As.length = n) (hndC : va_nd isC = true) {st0 : List Value} (hstk : st0 = As.reverse ++ .ref b :: rest) (d : decode cc pc = .ok (.invokevirtual ix, 3))
     (hC : isC.map (fun i => ws[i]?) = wc.map some) (hRr : isR.map (fun i => ws[i]?) = wr.map some) (hnd : va_nd isR = true) (hdis : ∀ i ∈ isR, i ∉ isC) (hst : (rest.map fun v => v.category).sum ≤ 8) (hfr : fr + 1 ≤ R.frames ∧ 8 + (maxL + 11) + lo ≤ R.locals) (hmk : cn + mc ≤ R.cells ∧ sn + ms ≤ R.slots)
    (hX : ∀ (E : String) (w : va_W), X E w → X0 E (wr ++ w))
    (kk : ∀ (v : Option Value) (w : va_W), Q v w → AW g A H0 nL K (pc + 3) lv (v.toList ++ rest) (wr ++ w) (cn + mc) (sn + ms)) : AW g A H0 nL K pc lv st0 ws cn sn := by
  obtain ⟨p, e, s, m, args, below, meth, c, rfl, rfl, hx, hb, hml, hown, hts, hr, hlk, hKn, hG, hA, hnm, hAe, hex⟩ := ok
  intro H locs ls hP hD hS hl
  have hFc := va_free (wc := wc) hD hS hA isC hC
  have hPc : va_P g.1 vwCl wc H := hP.pick isC hC
  subst hAe
  exact run_W isC isR (vx_runV (As := As) (rest := rest) ⟨hx, hb, hml, hown, hts⟩ (hct H.size) (cwV n hts (wsV_good mf hlk9 hin hse) rfl rfl rfl ⟨rfl, mf.2.2⟩ hfr) ⟨cP_blind, va_recv hKn hP cf.1 gq, fun U hU hW => cP_at hU hW hPc hKn (hD.sub isC hndC hC) hS hG hFc⟩ rfl hn9 hl.1 hstk (lv_room hst) d hmk) hP hD hS hA hC hRr hnd hdis
    (fun E ce q9 w H1 locs1 hxw hP2 hD2 hS2 h1 h2 h3 => vx_out (fun x hx9 => (hex x hx9).elim) hlk h1 h2 h3 (fun t ht hv => ⟨⟨_, hX E w hxw, by rw [ht]; exact hP2, hD2⟩, hS2.F ht⟩) hS2.2.2 hmk.1 hmk.2)
    (fun v w H1 locs1 hq hP2 hD2 hS2 => kk v w hq H1 locs1 ls hP2 hD2 hS2 hl)

theorem A_callSB (ok : OkB l g own nm cc nL ret R A H0 K) (isC isR : List Nat) {y : MethodName} {bytes : ByteArray} {maxL n ix fr lo mc ms : Nat} {rt : Option FieldType} {wc wr : va_W} {Q : QT} {X : XT} {As rest : List Value} (mf : MF y bytes maxL rt n) (hlk9 : Cond.methodLink own ix y ∈ GT) (hsc : y.cls = own) (hin : Cond.static y ∈ GT)  (hct : Ct l g y bytes maxL rt fr lo mc ms As wc Q X) (hn9 : As.length = n) (hndC : va_nd isC = true) {st0 : List Value} (hstk : st0 = As.reverse ++ rest) (d : decode cc pc = .ok (.invokestatic ix, 3))
     (hC : isC.map (fun i => ws[i]?) = wc.map some) (hRr : isR.map (fun i => ws[i]?) = wr.map some) (hnd : va_nd isR = true) (hdis : ∀ i ∈ isR, i ∉ isC) (hst : (rest.map fun v => v.category).sum ≤ 8) (hfr : fr + 1 ≤ R.frames ∧ 8 + (maxL + 11) + lo ≤ R.locals) (hmk : cn + mc ≤ R.cells ∧ sn + ms ≤ R.slots)
    (hX : ∀ (E : String) (w : va_W), ¬ X E w)
    (kk : ∀ (v : Option Value) (w : va_W), Q v w → AW g A H0 nL K (pc + 3) lv (v.toList ++ rest) (wr ++ w) (cn + mc) (sn + ms)) : AW g A H0 nL K pc lv st0 ws cn sn := by
  obtain ⟨p, e, s, m, args, below, meth, c, Q, rfl, rfl, hx, hb, hml, hown, hts, hr, hlk, hKn, hG, hA, hnm⟩ := ok
  intro H locs ls hP hD hS hl
  have hFc := va_free (wc := wc) hD hS hA isC hC
  have hPc : va_P g.1 vwCl wc H := hP.pick isC hC
  exact run_W isC isR (vx_runS (As := As) (rest := rest) ⟨hx, hb, hml, hown, hts⟩ (hct H.size) (cwS n hts (wsS_good mf hsc hlk9 hin) rfl rfl rfl ⟨hsc, mf.2.2⟩ hfr) ⟨cP_blind, fun U hU hW => cP_at hU hW hPc hKn (hD.sub isC hndC hC) hS hG hFc⟩ rfl hn9 hl.1 hstk (lv_room hst) d hmk) hP hD hS hA hC hRr hnd hdis
    (fun E ce q9 w H1 locs1 hxw hP2 hD2 hS2 h1 h2 h3 => (hX E w hxw).elim)
    (fun v w H1 locs1 hq hP2 hD2 hS2 => kk v w hq H1 locs1 ls hP2 hD2 hS2 hl)

theorem A_callSR (ok : OkR l g own nm cc nL ret R ws0 Q0 X0 A H0 K) (isC isR : List Nat) {y : MethodName} {bytes : ByteArray} {maxL n ix fr lo mc ms : Nat} {rt : Option FieldType} {wc wr : va_W} {Q : QT} {X : XT} {As rest : List Value} (mf : MF y bytes maxL rt n) (hlk9 : Cond.methodLink own ix y ∈ GT) (hsc : y.cls = own) (hin : Cond.static y ∈ GT)  (hct : Ct l g y bytes maxL rt fr lo mc ms As wc Q X) (hn9 : As.length = n) (hndC : va_nd isC = true) {st0 : List Value} (hstk : st0 = As.reverse ++ rest) (d : decode cc pc = .ok (.invokestatic ix, 3))
     (hC : isC.map (fun i => ws[i]?) = wc.map some) (hRr : isR.map (fun i => ws[i]?) = wr.map some) (hnd : va_nd isR = true) (hdis : ∀ i ∈ isR, i ∉ isC) (hst : (rest.map fun v => v.category).sum ≤ 8) (hfr : fr + 1 ≤ R.frames ∧ 8 + (maxL + 11) + lo ≤ R.locals) (hmk : cn + mc ≤ R.cells ∧ sn + ms ≤ R.slots)
    (hX : ∀ (E : String) (w : va_W), X E w → X0 E (wr ++ w))
    (kk : ∀ (v : Option Value) (w : va_W), Q v w → AW g A H0 nL K (pc + 3) lv (v.toList ++ rest) (wr ++ w) (cn + mc) (sn + ms)) : AW g A H0 nL K pc lv st0 ws cn sn := by
  obtain ⟨p, e, s, m, args, below, meth, c, rfl, rfl, hx, hb, hml, hown, hts, hr, hlk, hKn, hG, hA, hnm, hAe, hex⟩ := ok
  intro H locs ls hP hD hS hl
  have hFc := va_free (wc := wc) hD hS hA isC hC
  have hPc : va_P g.1 vwCl wc H := hP.pick isC hC
  subst hAe
  exact run_W isC isR (vx_runS (As := As) (rest := rest) ⟨hx, hb, hml, hown, hts⟩ (hct H.size) (cwS n hts (wsS_good mf hsc hlk9 hin) rfl rfl rfl ⟨hsc, mf.2.2⟩ hfr) ⟨cP_blind, fun U hU hW => cP_at hU hW hPc hKn (hD.sub isC hndC hC) hS hG hFc⟩ rfl hn9 hl.1 hstk (lv_room hst) d hmk) hP hD hS hA hC hRr hnd hdis
    (fun E ce q9 w H1 locs1 hxw hP2 hD2 hS2 h1 h2 h3 => vx_out (fun x hx9 => (hex x hx9).elim) hlk h1 h2 h3 (fun t ht hv => ⟨⟨_, hX E w hxw, by rw [ht]; exact hP2, hD2⟩, hS2.F ht⟩) hS2.2.2 hmk.1 hmk.2)
    (fun v w H1 locs1 hq hP2 hD2 hS2 => kk v w hq H1 locs1 ls hP2 hD2 hS2 hl)

theorem A_callIB (ok : OkB l g own nm cc nL ret R A H0 K) (isC isR : List Nat) {y : MethodName} {bytes : ByteArray} {maxL n ix fr lo mc ms : Nat} {wc wr : va_W} {Q : QT} {X : XT} {b : Nat} {As rest : List Value} (mf : MF y bytes maxL none n) (hlk9 : Cond.methodLink own ix y ∈ GT) (hin : Cond.instanceMethod y ∈ GT) (hy1 : y.name = "<init>")  (hct : Ct l g y bytes maxL none fr lo mc ms (.ref b :: As) wc Q X) (hn9 : As.length = n) (hndC : va_nd isC = true) {st0 : List Value} (hstk : st0 = As.reverse ++ .ref b :: rest) (d : decode cc pc = .ok (.invokespecial ix, 3))
     (hC : isC.map (fun i => ws[i]?) = wc.map some) (hRr : isR.map (fun i => ws[i]?) = wr.map some) (hnd : va_nd isR = true) (hdis : ∀ i ∈ isR, i ∉ isC) (hst : (rest.map fun v => v.category).sum ≤ 8) (hfr : fr + 1 ≤ R.frames ∧ 8 + (maxL + 11) + lo ≤ R.locals) (hmk : cn + mc ≤ R.cells ∧ sn + ms ≤ R.slots)
    (hX : ∀ (E : String) (w : va_W), ¬ X E w)
    (kk : ∀ (v : Option Value) (w : va_W), Q v w → AW g A H0 nL K (pc + 3) lv (v.toList ++ rest) (wr ++ w) (cn + mc) (sn + ms)) : AW g A H0 nL K pc lv st0 ws cn sn := by
  obtain ⟨p, e, s, m, args, below, meth, c, Q, rfl, rfl, hx, hb, hml, hown, hts, hr, hlk, hKn, hG, hA, hnm⟩ := ok
  intro H locs ls hP hD hS hl
  have hFc := va_free (wc := wc) hD hS hA isC hC
  have hPc : va_P g.1 vwCl wc H := hP.pick isC hC
  exact run_W isC isR (vx_runI (As := As) (rest := rest) ⟨hx, hb, hml, hown, hts⟩ (hct H.size) (cwI n hts (wsM_good mf.1) rfl rfl rfl (hts _ mf.2.1) (hts _ hlk9) (hts _ hin) hy1 mf.2.2 hfr) ⟨cP_blind, fun U hU hW => cP_at hU hW hPc hKn (hD.sub isC hndC hC) hS hG hFc⟩ rfl hn9 hl.1 hstk (lv_room hst) d hmk) hP hD hS hA hC hRr hnd hdis
    (fun E ce q9 w H1 locs1 hxw hP2 hD2 hS2 h1 h2 h3 => (hX E w hxw).elim)
    (fun v w H1 locs1 hq hP2 hD2 hS2 => kk v w hq H1 locs1 ls hP2 hD2 hS2 hl)

theorem A_callIR (ok : OkR l g own nm cc nL ret R ws0 Q0 X0 A H0 K) (isC isR : List Nat) {y : MethodName} {bytes : ByteArray} {maxL n ix fr lo mc ms : Nat} {wc wr : va_W} {Q : QT} {X : XT} {b : Nat} {As rest : List Value} (mf : MF y bytes maxL none n) (hlk9 : Cond.methodLink own ix y ∈ GT) (hin : Cond.instanceMethod y ∈ GT) (hy1 : y.name = "<init>")  (hct : Ct l g y bytes maxL none fr lo mc ms (.ref b :: As) wc Q X) (hn9 : As.length = n) (hndC : va_nd isC = true) {st0 : List Value} (hstk : st0 = As.reverse ++ .ref b :: rest) (d : decode cc pc = .ok (.invokespecial ix, 3))
     (hC : isC.map (fun i => ws[i]?) = wc.map some) (hRr : isR.map (fun i => ws[i]?) = wr.map some) (hnd : va_nd isR = true) (hdis : ∀ i ∈ isR, i ∉ isC) (hst : (rest.map fun v => v.category).sum ≤ 8) (hfr : fr + 1 ≤ R.frames ∧ 8 + (maxL + 11) + lo ≤ R.locals) (hmk : cn + mc ≤ R.cells ∧ sn + ms ≤ R.slots)
    (hX : ∀ (E : String) (w : va_W), X E w → X0 E (wr ++ w))
    (kk : ∀ (v : Option Value) (w : va_W), Q v w → AW g A H0 nL K (pc + 3) lv (v.toList ++ rest) (wr ++ w) (cn + mc) (sn + ms)) : AW g A H0 nL K pc lv st0 ws cn sn := by
  obtain ⟨p, e, s, m, args, below, meth, c, rfl, rfl, hx, hb, hml, hown, hts, hr, hlk, hKn, hG, hA, hnm, hAe, hex⟩ := ok
  intro H locs ls hP hD hS hl
  have hFc := va_free (wc := wc) hD hS hA isC hC
  have hPc : va_P g.1 vwCl wc H := hP.pick isC hC
  subst hAe
  exact run_W isC isR (vx_runI (As := As) (rest := rest) ⟨hx, hb, hml, hown, hts⟩ (hct H.size) (cwI n hts (wsM_good mf.1) rfl rfl rfl (hts _ mf.2.1) (hts _ hlk9) (hts _ hin) hy1 mf.2.2 hfr) ⟨cP_blind, fun U hU hW => cP_at hU hW hPc hKn (hD.sub isC hndC hC) hS hG hFc⟩ rfl hn9 hl.1 hstk (lv_room hst) d hmk) hP hD hS hA hC hRr hnd hdis
    (fun E ce q9 w H1 locs1 hxw hP2 hD2 hS2 h1 h2 h3 => vx_out (fun x hx9 => (hex x hx9).elim) hlk h1 h2 h3 (fun t ht hv => ⟨⟨_, hX E w hxw, by rw [ht]; exact hP2, hD2⟩, hS2.F ht⟩) hS2.2.2 hmk.1 hmk.2)
    (fun v w H1 locs1 hq hP2 hD2 hS2 => kk v w hq H1 locs1 ls hP2 hD2 hS2 hl)

theorem A_callVNB (ok : OkB l g own nm cc nL ret R A H0 K) (isC isR : List Nat) {y : MethodName} {bytes : ByteArray} {maxL n ix fr lo mc ms : Nat} {rt : Option FieldType} {wc wr : va_W} {Q : QT} {X : XT} {b : Nat} {host : String} {As rest : List Value} (mf : MF y bytes maxL rt n) (hlk9 : (own, ix, y, host) ∈ nTab) (hin : Cond.instanceMethod y ∈ GT) (hse : Cond.selects y.cls y y ∈ GT) {ci N9 q9 : Nat} {T9 : u_T} {ty9 : Nat → FieldType} {fs : List Value} (cf : CF ci y.cls T9 N9 ty9) (gq : Gp q9 ws (b, .inr (ci, fs))) (hct : Ct l g y bytes maxL rt fr lo mc ms (.ref b :: As) wc Q X) (hn9 : As.length = n) (hndC : va_nd isC = true) {st0 : List Value} (hstk : st0 = As.reverse ++ .ref b :: rest) (d : decode cc pc = .ok (.invokevirtual ix, 3))
     (hC : isC.map (fun i => ws[i]?) = wc.map some) (hRr : isR.map (fun i => ws[i]?) = wr.map some) (hnd : va_nd isR = true) (hdis : ∀ i ∈ isR, i ∉ isC) (hst : (rest.map fun v => v.category).sum ≤ 8) (hfr : fr + 1 ≤ R.frames ∧ 8 + (maxL + 11) + lo ≤ R.locals) (hmk : cn + mc ≤ R.cells ∧ sn + ms ≤ R.slots)
    (hX : ∀ (E : String) (w : va_W), ¬ X E w)
    (kk : ∀ (v : Option Value) (w : va_W), Q v w → AW g A H0 nL K (pc + 3) lv (v.toList ++ rest) (wr ++ w) (cn + mc) (sn + ms)) : AW g A H0 nL K pc lv st0 ws cn sn := by
  obtain ⟨p, e, s, m, args, below, meth, c, Q, rfl, rfl, hx, hb, hml, hown, hts, hr, hlk, hKn, hG, hA, hnm⟩ := ok
  intro H locs ls hP hD hS hl
  have hFc := va_free (wc := wc) hD hS hA isC hC
  have hPc : va_P g.1 vwCl wc H := hP.pick isC hC
  exact run_W isC isR (vx_runVN (As := As) (rest := rest) ⟨hx, hb, hml, hown, hts⟩ (hct H.size) ⟨va_cnB n hts (wsM_good mf.1) rfl rfl rfl (hG.gv.2.2.1 _ hlk9) (hts _ mf.2.1) mf.2.2 hfr, hts _ hin, hts _ hse⟩ ⟨cP_blind, va_recv hKn hP cf.1 gq, fun U hU hW => cP_at hU hW hPc hKn (hD.sub isC hndC hC) hS hG hFc⟩ rfl hn9 hl.1 hstk (lv_room hst) d hmk) hP hD hS hA hC hRr hnd hdis
    (fun E ce q9 w H1 locs1 hxw hP2 hD2 hS2 h1 h2 h3 => (hX E w hxw).elim)
    (fun v w H1 locs1 hq hP2 hD2 hS2 => kk v w hq H1 locs1 ls hP2 hD2 hS2 hl)

theorem A_callVNR (ok : OkR l g own nm cc nL ret R ws0 Q0 X0 A H0 K) (isC isR : List Nat) {y : MethodName} {bytes : ByteArray} {maxL n ix fr lo mc ms : Nat} {rt : Option FieldType} {wc wr : va_W} {Q : QT} {X : XT} {b : Nat} {host : String} {As rest : List Value} (mf : MF y bytes maxL rt n) (hlk9 : (own, ix, y, host) ∈ nTab) (hin : Cond.instanceMethod y ∈ GT) (hse : Cond.selects y.cls y y ∈ GT) {ci N9 q9 : Nat} {T9 : u_T} {ty9 : Nat → FieldType} {fs : List Value} (cf : CF ci y.cls T9 N9 ty9) (gq : Gp q9 ws (b, .inr (ci, fs))) (hct : Ct l g y bytes maxL rt fr lo mc ms (.ref b :: As) wc Q X) (hn9 : As.length = n) (hndC : va_nd isC = true) {st0 : List Value} (hstk : st0 = As.reverse ++ .ref b :: rest) (d : decode cc pc = .ok (.invokevirtual ix, 3))
     (hC : isC.map (fun i => ws[i]?) = wc.map some) (hRr : isR.map (fun i => ws[i]?) = wr.map some) (hnd : va_nd isR = true) (hdis : ∀ i ∈ isR, i ∉ isC) (hst : (rest.map fun v => v.category).sum ≤ 8) (hfr : fr + 1 ≤ R.frames ∧ 8 + (maxL + 11) + lo ≤ R.locals) (hmk : cn + mc ≤ R.cells ∧ sn + ms ≤ R.slots)
    (hX : ∀ (E : String) (w : va_W), X E w → X0 E (wr ++ w))
    (kk : ∀ (v : Option Value) (w : va_W), Q v w → AW g A H0 nL K (pc + 3) lv (v.toList ++ rest) (wr ++ w) (cn + mc) (sn + ms)) : AW g A H0 nL K pc lv st0 ws cn sn := by
  obtain ⟨p, e, s, m, args, below, meth, c, rfl, rfl, hx, hb, hml, hown, hts, hr, hlk, hKn, hG, hA, hnm, hAe, hex⟩ := ok
  intro H locs ls hP hD hS hl
  have hFc := va_free (wc := wc) hD hS hA isC hC
  have hPc : va_P g.1 vwCl wc H := hP.pick isC hC
  subst hAe
  exact run_W isC isR (vx_runVN (As := As) (rest := rest) ⟨hx, hb, hml, hown, hts⟩ (hct H.size) ⟨va_cnB n hts (wsM_good mf.1) rfl rfl rfl (hG.gv.2.2.1 _ hlk9) (hts _ mf.2.1) mf.2.2 hfr, hts _ hin, hts _ hse⟩ ⟨cP_blind, va_recv hKn hP cf.1 gq, fun U hU hW => cP_at hU hW hPc hKn (hD.sub isC hndC hC) hS hG hFc⟩ rfl hn9 hl.1 hstk (lv_room hst) d hmk) hP hD hS hA hC hRr hnd hdis
    (fun E ce q9 w H1 locs1 hxw hP2 hD2 hS2 h1 h2 h3 => vx_out (fun x hx9 => (hex x hx9).elim) hlk h1 h2 h3 (fun t ht hv => ⟨⟨_, hX E w hxw, by rw [ht]; exact hP2, hD2⟩, hS2.F ht⟩) hS2.2.2 hmk.1 hmk.2)
    (fun v w H1 locs1 hq hP2 hD2 hS2 => kk v w hq H1 locs1 ls hP2 hD2 hS2 hl)

theorem A_callSNB (ok : OkB l g own nm cc nL ret R A H0 K) (isC isR : List Nat) {y : MethodName} {bytes : ByteArray} {maxL n ix fr lo mc ms : Nat} {rt : Option FieldType} {wc wr : va_W} {Q : QT} {X : XT} {host : String} {As rest : List Value} (mf : MF y bytes maxL rt n) (hlk9 : (own, ix, y, host) ∈ nTab) (hin : Cond.static y ∈ GT)  (hct : Ct l g y bytes maxL rt fr lo mc ms As wc Q X) (hn9 : As.length = n) (hndC : va_nd isC = true) {st0 : List Value} (hstk : st0 = As.reverse ++ rest) (d : decode cc pc = .ok (.invokestatic ix, 3))
     (hC : isC.map (fun i => ws[i]?) = wc.map some) (hRr : isR.map (fun i => ws[i]?) = wr.map some) (hnd : va_nd isR = true) (hdis : ∀ i ∈ isR, i ∉ isC) (hst : (rest.map fun v => v.category).sum ≤ 8) (hfr : fr + 1 ≤ R.frames ∧ 8 + (maxL + 11) + lo ≤ R.locals) (hmk : cn + mc ≤ R.cells ∧ sn + ms ≤ R.slots)
    (hX : ∀ (E : String) (w : va_W), ¬ X E w)
    (kk : ∀ (v : Option Value) (w : va_W), Q v w → AW g A H0 nL K (pc + 3) lv (v.toList ++ rest) (wr ++ w) (cn + mc) (sn + ms)) : AW g A H0 nL K pc lv st0 ws cn sn := by
  obtain ⟨p, e, s, m, args, below, meth, c, Q, rfl, rfl, hx, hb, hml, hown, hts, hr, hlk, hKn, hG, hA, hnm⟩ := ok
  intro H locs ls hP hD hS hl
  have hFc := va_free (wc := wc) hD hS hA isC hC
  have hPc : va_P g.1 vwCl wc H := hP.pick isC hC
  exact run_W isC isR (vx_runSN (As := As) (rest := rest) ⟨hx, hb, hml, hown, hts⟩ (hct H.size) ⟨va_cnB n hts (wsM_good mf.1) rfl rfl rfl (hG.gv.2.2.1 _ hlk9) (hts _ mf.2.1) mf.2.2 hfr, hts _ hin, trivial⟩ ⟨cP_blind, fun U hU hW => cP_at hU hW hPc hKn (hD.sub isC hndC hC) hS hG hFc⟩ rfl hn9 hl.1 hstk (lv_room hst) d hmk) hP hD hS hA hC hRr hnd hdis
    (fun E ce q9 w H1 locs1 hxw hP2 hD2 hS2 h1 h2 h3 => (hX E w hxw).elim)
    (fun v w H1 locs1 hq hP2 hD2 hS2 => kk v w hq H1 locs1 ls hP2 hD2 hS2 hl)

theorem A_callSNR (ok : OkR l g own nm cc nL ret R ws0 Q0 X0 A H0 K) (isC isR : List Nat) {y : MethodName} {bytes : ByteArray} {maxL n ix fr lo mc ms : Nat} {rt : Option FieldType} {wc wr : va_W} {Q : QT} {X : XT} {host : String} {As rest : List Value} (mf : MF y bytes maxL rt n) (hlk9 : (own, ix, y, host) ∈ nTab) (hin : Cond.static y ∈ GT)  (hct : Ct l g y bytes maxL rt fr lo mc ms As wc Q X) (hn9 : As.length = n) (hndC : va_nd isC = true) {st0 : List Value} (hstk : st0 = As.reverse ++ rest) (d : decode cc pc = .ok (.invokestatic ix, 3))
     (hC : isC.map (fun i => ws[i]?) = wc.map some) (hRr : isR.map (fun i => ws[i]?) = wr.map some) (hnd : va_nd isR = true) (hdis : ∀ i ∈ isR, i ∉ isC) (hst : (rest.map fun v => v.category).sum ≤ 8) (hfr : fr + 1 ≤ R.frames ∧ 8 + (maxL + 11) + lo ≤ R.locals) (hmk : cn + mc ≤ R.cells ∧ sn + ms ≤ R.slots)
    (hX : ∀ (E : String) (w : va_W), X E w → X0 E (wr ++ w))
    (kk : ∀ (v : Option Value) (w : va_W), Q v w → AW g A H0 nL K (pc + 3) lv (v.toList ++ rest) (wr ++ w) (cn + mc) (sn + ms)) : AW g A H0 nL K pc lv st0 ws cn sn := by
  obtain ⟨p, e, s, m, args, below, meth, c, rfl, rfl, hx, hb, hml, hown, hts, hr, hlk, hKn, hG, hA, hnm, hAe, hex⟩ := ok
  intro H locs ls hP hD hS hl
  have hFc := va_free (wc := wc) hD hS hA isC hC
  have hPc : va_P g.1 vwCl wc H := hP.pick isC hC
  subst hAe
  exact run_W isC isR (vx_runSN (As := As) (rest := rest) ⟨hx, hb, hml, hown, hts⟩ (hct H.size) ⟨va_cnB n hts (wsM_good mf.1) rfl rfl rfl (hG.gv.2.2.1 _ hlk9) (hts _ mf.2.1) mf.2.2 hfr, hts _ hin, trivial⟩ ⟨cP_blind, fun U hU hW => cP_at hU hW hPc hKn (hD.sub isC hndC hC) hS hG hFc⟩ rfl hn9 hl.1 hstk (lv_room hst) d hmk) hP hD hS hA hC hRr hnd hdis
    (fun E ce q9 w H1 locs1 hxw hP2 hD2 hS2 h1 h2 h3 => vx_out (fun x hx9 => (hex x hx9).elim) hlk h1 h2 h3 (fun t ht hv => ⟨⟨_, hX E w hxw, by rw [ht]; exact hP2, hD2⟩, hS2.F ht⟩) hS2.2.2 hmk.1 hmk.2)
    (fun v w H1 locs1 hq hP2 hD2 hS2 => kk v w hq H1 locs1 ls hP2 hD2 hS2 hl)

theorem A_callINB (ok : OkB l g own nm cc nL ret R A H0 K) (isC isR : List Nat) {y : MethodName} {bytes : ByteArray} {maxL n ix fr lo mc ms : Nat} {wc wr : va_W} {Q : QT} {X : XT} {b : Nat} {host : String} {As rest : List Value} (mf : MF y bytes maxL none n) (hlk9 : (own, ix, y, host) ∈ nTab) (hin : Cond.instanceMethod y ∈ GT) (hy1 : y.name = "<init>")  (hct : Ct l g y bytes maxL none fr lo mc ms (.ref b :: As) wc Q X) (hn9 : As.length = n) (hndC : va_nd isC = true) {st0 : List Value} (hstk : st0 = As.reverse ++ .ref b :: rest) (d : decode cc pc = .ok (.invokespecial ix, 3))
     (hC : isC.map (fun i => ws[i]?) = wc.map some) (hRr : isR.map (fun i => ws[i]?) = wr.map some) (hnd : va_nd isR = true) (hdis : ∀ i ∈ isR, i ∉ isC) (hst : (rest.map fun v => v.category).sum ≤ 8) (hfr : fr + 1 ≤ R.frames ∧ 8 + (maxL + 11) + lo ≤ R.locals) (hmk : cn + mc ≤ R.cells ∧ sn + ms ≤ R.slots)
    (hX : ∀ (E : String) (w : va_W), ¬ X E w)
    (kk : ∀ (v : Option Value) (w : va_W), Q v w → AW g A H0 nL K (pc + 3) lv (v.toList ++ rest) (wr ++ w) (cn + mc) (sn + ms)) : AW g A H0 nL K pc lv st0 ws cn sn := by
  obtain ⟨p, e, s, m, args, below, meth, c, Q, rfl, rfl, hx, hb, hml, hown, hts, hr, hlk, hKn, hG, hA, hnm⟩ := ok
  intro H locs ls hP hD hS hl
  have hFc := va_free (wc := wc) hD hS hA isC hC
  have hPc : va_P g.1 vwCl wc H := hP.pick isC hC
  exact run_W isC isR (vx_runIN (As := As) (rest := rest) ⟨hx, hb, hml, hown, hts⟩ (hct H.size) ⟨va_cnB n hts (wsM_good mf.1) rfl rfl rfl (hG.gv.2.2.1 _ hlk9) (hts _ mf.2.1) mf.2.2 hfr, hy1, hts _ hin⟩ ⟨cP_blind, fun U hU hW => cP_at hU hW hPc hKn (hD.sub isC hndC hC) hS hG hFc⟩ rfl hn9 hl.1 hstk (lv_room hst) d hmk) hP hD hS hA hC hRr hnd hdis
    (fun E ce q9 w H1 locs1 hxw hP2 hD2 hS2 h1 h2 h3 => (hX E w hxw).elim)
    (fun v w H1 locs1 hq hP2 hD2 hS2 => kk v w hq H1 locs1 ls hP2 hD2 hS2 hl)

theorem A_callINR (ok : OkR l g own nm cc nL ret R ws0 Q0 X0 A H0 K) (isC isR : List Nat) {y : MethodName} {bytes : ByteArray} {maxL n ix fr lo mc ms : Nat} {wc wr : va_W} {Q : QT} {X : XT} {b : Nat} {host : String} {As rest : List Value} (mf : MF y bytes maxL none n) (hlk9 : (own, ix, y, host) ∈ nTab) (hin : Cond.instanceMethod y ∈ GT) (hy1 : y.name = "<init>")  (hct : Ct l g y bytes maxL none fr lo mc ms (.ref b :: As) wc Q X) (hn9 : As.length = n) (hndC : va_nd isC = true) {st0 : List Value} (hstk : st0 = As.reverse ++ .ref b :: rest) (d : decode cc pc = .ok (.invokespecial ix, 3))
     (hC : isC.map (fun i => ws[i]?) = wc.map some) (hRr : isR.map (fun i => ws[i]?) = wr.map some) (hnd : va_nd isR = true) (hdis : ∀ i ∈ isR, i ∉ isC) (hst : (rest.map fun v => v.category).sum ≤ 8) (hfr : fr + 1 ≤ R.frames ∧ 8 + (maxL + 11) + lo ≤ R.locals) (hmk : cn + mc ≤ R.cells ∧ sn + ms ≤ R.slots)
    (hX : ∀ (E : String) (w : va_W), X E w → X0 E (wr ++ w))
    (kk : ∀ (v : Option Value) (w : va_W), Q v w → AW g A H0 nL K (pc + 3) lv (v.toList ++ rest) (wr ++ w) (cn + mc) (sn + ms)) : AW g A H0 nL K pc lv st0 ws cn sn := by
  obtain ⟨p, e, s, m, args, below, meth, c, rfl, rfl, hx, hb, hml, hown, hts, hr, hlk, hKn, hG, hA, hnm, hAe, hex⟩ := ok
  intro H locs ls hP hD hS hl
  have hFc := va_free (wc := wc) hD hS hA isC hC
  have hPc : va_P g.1 vwCl wc H := hP.pick isC hC
  subst hAe
  exact run_W isC isR (vx_runIN (As := As) (rest := rest) ⟨hx, hb, hml, hown, hts⟩ (hct H.size) ⟨va_cnB n hts (wsM_good mf.1) rfl rfl rfl (hG.gv.2.2.1 _ hlk9) (hts _ mf.2.1) mf.2.2 hfr, hy1, hts _ hin⟩ ⟨cP_blind, fun U hU hW => cP_at hU hW hPc hKn (hD.sub isC hndC hC) hS hG hFc⟩ rfl hn9 hl.1 hstk (lv_room hst) d hmk) hP hD hS hA hC hRr hnd hdis
    (fun E ce q9 w H1 locs1 hxw hP2 hD2 hS2 h1 h2 h3 => vx_out (fun x hx9 => (hex x hx9).elim) hlk h1 h2 h3 (fun t ht hv => ⟨⟨_, hX E w hxw, by rw [ht]; exact hP2, hD2⟩, hS2.F ht⟩) hS2.2.2 hmk.1 hmk.2)
    (fun v w H1 locs1 hq hP2 hD2 hS2 => kk v w hq H1 locs1 ls hP2 hD2 hS2 hl)

end AWCR
end
