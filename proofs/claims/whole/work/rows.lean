section
-- ===== PART A: goes FIRST, ahead of the names: the tables' words, and 'selects' of the private methods out of them =====
/-- a private method of a class that the tables say can be made, by its rows of tables_1 -/
def lw_okq (q : MethodName × Nat) : Prop := (q.1.cls ≠ "java/lang/invoke/MethodHandle" ∧ q.1.cls ≠ "java/lang/invoke/VarHandle") ∧ Cond.instantiable q.1.cls q.2 ∈ tables_1 ∧ Cond.privateMethod q.1 ∈ tables_1 ∧ Cond.instanceMethod q.1 ∈ tables_1
theorem lw_p0 : lw_okq (⟨"KiteLogger$Samples", "placeOf", "(I)I"⟩, 7) := ⟨⟨by decide +kernel, by decide +kernel⟩, List.mem_of_getElem? (i := 234) (by decide +kernel), List.mem_of_getElem? (i := 542) (by decide +kernel), List.mem_of_getElem? (i := 543) (by decide +kernel)⟩
theorem lw_p1 : lw_okq (⟨"KiteLogger$Kite", "fly", "(I)V"⟩, 13) := ⟨⟨by decide +kernel, by decide +kernel⟩, List.mem_of_getElem? (i := 155) (by decide +kernel), List.mem_of_getElem? (i := 615) (by decide +kernel), List.mem_of_getElem? (i := 616) (by decide +kernel)⟩
theorem lw_p2 : lw_okq (⟨"KiteLogger$Kite", "fall", "(I)V"⟩, 13) := ⟨⟨by decide +kernel, by decide +kernel⟩, List.mem_of_getElem? (i := 155) (by decide +kernel), List.mem_of_getElem? (i := 623) (by decide +kernel), List.mem_of_getElem? (i := 624) (by decide +kernel)⟩
theorem lw_p3 : lw_okq (⟨"KiteLogger$Kite", "landOnGround", "()V"⟩, 13) := ⟨⟨by decide +kernel, by decide +kernel⟩, List.mem_of_getElem? (i := 155) (by decide +kernel), List.mem_of_getElem? (i := 629) (by decide +kernel), List.mem_of_getElem? (i := 630) (by decide +kernel)⟩
theorem lw_p4 : lw_okq (⟨"KiteLogger$Output", "addSign", "(C)V"⟩, 2) := ⟨⟨by decide +kernel, by decide +kernel⟩, List.mem_of_getElem? (i := 327) (by decide +kernel), List.mem_of_getElem? (i := 651) (by decide +kernel), List.mem_of_getElem? (i := 652) (by decide +kernel)⟩
theorem lw_p5 : lw_okq (⟨"KiteLogger$Output", "addNumber", "(I)V"⟩, 2) := ⟨⟨by decide +kernel, by decide +kernel⟩, List.mem_of_getElem? (i := 327) (by decide +kernel), List.mem_of_getElem? (i := 656) (by decide +kernel), List.mem_of_getElem? (i := 657) (by decide +kernel)⟩
theorem lw_p6 : lw_okq (⟨"KiteLogger", "refuseLength", "(I)V"⟩, 9) := ⟨⟨by decide +kernel, by decide +kernel⟩, List.mem_of_getElem? (i := 25) (by decide +kernel), List.mem_of_getElem? (i := 696) (by decide +kernel), List.mem_of_getElem? (i := 697) (by decide +kernel)⟩
theorem lw_p7 : lw_okq (⟨"java/lang/Throwable", "fillInStackTrace", "(I)Ljava/lang/Throwable;"⟩, 6) := ⟨⟨by decide +kernel, by decide +kernel⟩, List.mem_of_getElem? (i := 738) (by decide +kernel), List.mem_of_getElem? (i := 736) (by decide +kernel), List.mem_of_getElem? (i := 737) (by decide +kernel)⟩
theorem lw_p8 : lw_okq (⟨"KiteLogger$TextReader", "byteAt", "(I)I"⟩, 10) := ⟨⟨by decide +kernel, by decide +kernel⟩, List.mem_of_getElem? (i := 33) (by decide +kernel), List.mem_of_getElem? (i := 779) (by decide +kernel), List.mem_of_getElem? (i := 780) (by decide +kernel)⟩
theorem lw_p9 : lw_okq (⟨"KiteLogger$StationPlan", "readKite", "(LKiteLogger$TextReader;)Z"⟩, 6) := ⟨⟨by decide +kernel, by decide +kernel⟩, List.mem_of_getElem? (i := 79) (by decide +kernel), List.mem_of_getElem? (i := 791) (by decide +kernel), List.mem_of_getElem? (i := 792) (by decide +kernel)⟩
theorem lw_p10 : lw_okq (⟨"KiteLogger$StationPlan", "readGusts", "(LKiteLogger$TextReader;)Z"⟩, 6) := ⟨⟨by decide +kernel, by decide +kernel⟩, List.mem_of_getElem? (i := 79) (by decide +kernel), List.mem_of_getElem? (i := 869) (by decide +kernel), List.mem_of_getElem? (i := 870) (by decide +kernel)⟩
theorem lw_p11 : lw_okq (⟨"KiteLogger$StationPlan", "readInterval", "(LKiteLogger$TextReader;)Z"⟩, 6) := ⟨⟨by decide +kernel, by decide +kernel⟩, List.mem_of_getElem? (i := 79) (by decide +kernel), List.mem_of_getElem? (i := 880) (by decide +kernel), List.mem_of_getElem? (i := 881) (by decide +kernel)⟩
theorem lw_p12 : lw_okq (⟨"KiteLogger", "change", "(III)I"⟩, 9) := ⟨⟨by decide +kernel, by decide +kernel⟩, List.mem_of_getElem? (i := 25) (by decide +kernel), List.mem_of_getElem? (i := 1011) (by decide +kernel), List.mem_of_getElem? (i := 1012) (by decide +kernel)⟩
theorem lw_p13 : lw_okq (⟨"KiteLogger$Station", "isForbidden", "(II)Z"⟩, 9) := ⟨⟨by decide +kernel, by decide +kernel⟩, List.mem_of_getElem? (i := 149) (by decide +kernel), List.mem_of_getElem? (i := 1023) (by decide +kernel), List.mem_of_getElem? (i := 1024) (by decide +kernel)⟩
theorem lw_p14 : lw_okq (⟨"KiteLogger$History", "placeAt", "(I)LKiteLogger$Station;"⟩, 3) := ⟨⟨by decide +kernel, by decide +kernel⟩, List.mem_of_getElem? (i := 307) (by decide +kernel), List.mem_of_getElem? (i := 1048) (by decide +kernel), List.mem_of_getElem? (i := 1049) (by decide +kernel)⟩
theorem lw_p15 : lw_okq (⟨"KiteLogger$Station", "changeInterval", "(I)I"⟩, 9) := ⟨⟨by decide +kernel, by decide +kernel⟩, List.mem_of_getElem? (i := 149) (by decide +kernel), List.mem_of_getElem? (i := 1074) (by decide +kernel), List.mem_of_getElem? (i := 1075) (by decide +kernel)⟩
def lw_privs_1 : List (MethodName × Nat) := [(⟨"KiteLogger$Samples", "placeOf", "(I)I"⟩, 7), (⟨"KiteLogger$Kite", "fly", "(I)V"⟩, 13), (⟨"KiteLogger$Kite", "fall", "(I)V"⟩, 13), (⟨"KiteLogger$Kite", "landOnGround", "()V"⟩, 13), (⟨"KiteLogger$Output", "addSign", "(C)V"⟩, 2), (⟨"KiteLogger$Output", "addNumber", "(I)V"⟩, 2), (⟨"KiteLogger", "refuseLength", "(I)V"⟩, 9), (⟨"java/lang/Throwable", "fillInStackTrace", "(I)Ljava/lang/Throwable;"⟩, 6), (⟨"KiteLogger$TextReader", "byteAt", "(I)I"⟩, 10), (⟨"KiteLogger$StationPlan", "readKite", "(LKiteLogger$TextReader;)Z"⟩, 6), (⟨"KiteLogger$StationPlan", "readGusts", "(LKiteLogger$TextReader;)Z"⟩, 6), (⟨"KiteLogger$StationPlan", "readInterval", "(LKiteLogger$TextReader;)Z"⟩, 6), (⟨"KiteLogger", "change", "(III)I"⟩, 9), (⟨"KiteLogger$Station", "isForbidden", "(II)Z"⟩, 9), (⟨"KiteLogger$History", "placeAt", "(I)LKiteLogger$Station;"⟩, 3), (⟨"KiteLogger$Station", "changeInterval", "(I)I"⟩, 9)]
theorem lw_r1 : ∀ q ∈ lw_privs_1, lw_okq q := List.forall_mem_cons.mpr ⟨lw_p0, List.forall_mem_cons.mpr ⟨lw_p1, List.forall_mem_cons.mpr ⟨lw_p2, List.forall_mem_cons.mpr ⟨lw_p3, List.forall_mem_cons.mpr ⟨lw_p4, List.forall_mem_cons.mpr ⟨lw_p5, List.forall_mem_cons.mpr ⟨lw_p6, List.forall_mem_cons.mpr ⟨lw_p7, List.forall_mem_cons.mpr ⟨lw_p8, List.forall_mem_cons.mpr ⟨lw_p9, List.forall_mem_cons.mpr ⟨lw_p10, List.forall_mem_cons.mpr ⟨lw_p11, List.forall_mem_cons.mpr ⟨lw_p12, List.forall_mem_cons.mpr ⟨lw_p13, List.forall_mem_cons.mpr ⟨lw_p14, List.forall_mem_cons.mpr ⟨lw_p15, fun _ h => absurd h List.not_mem_nil⟩⟩⟩⟩⟩⟩⟩⟩⟩⟩⟩⟩⟩⟩⟩⟩
theorem lw_p16 : lw_okq (⟨"KiteLogger$Station", "moveSamples", "()I"⟩, 9) := ⟨⟨by decide +kernel, by decide +kernel⟩, List.mem_of_getElem? (i := 149) (by decide +kernel), List.mem_of_getElem? (i := 1083) (by decide +kernel), List.mem_of_getElem? (i := 1084) (by decide +kernel)⟩
theorem lw_p17 : lw_okq (⟨"KiteLogger$Station", "passMany", "(I)I"⟩, 9) := ⟨⟨by decide +kernel, by decide +kernel⟩, List.mem_of_getElem? (i := 149) (by decide +kernel), List.mem_of_getElem? (i := 1096) (by decide +kernel), List.mem_of_getElem? (i := 1097) (by decide +kernel)⟩
theorem lw_p18 : lw_okq (⟨"KiteLogger$Station", "passOne", "()V"⟩, 9) := ⟨⟨by decide +kernel, by decide +kernel⟩, List.mem_of_getElem? (i := 149) (by decide +kernel), List.mem_of_getElem? (i := 1100) (by decide +kernel), List.mem_of_getElem? (i := 1101) (by decide +kernel)⟩
theorem lw_p19 : lw_okq (⟨"KiteLogger$Script", "readBlock", "(LKiteLogger$TextReader;I)Z"⟩, 6) := ⟨⟨by decide +kernel, by decide +kernel⟩, List.mem_of_getElem? (i := 122) (by decide +kernel), List.mem_of_getElem? (i := 1173) (by decide +kernel), List.mem_of_getElem? (i := 1174) (by decide +kernel)⟩
theorem lw_p20 : lw_okq (⟨"KiteLogger$Script", "readCommand", "(LKiteLogger$TextReader;I)Z"⟩, 6) := ⟨⟨by decide +kernel, by decide +kernel⟩, List.mem_of_getElem? (i := 122) (by decide +kernel), List.mem_of_getElem? (i := 1177) (by decide +kernel), List.mem_of_getElem? (i := 1178) (by decide +kernel)⟩
theorem lw_p21 : lw_okq (⟨"KiteLogger$Script", "readNumbers", "(LKiteLogger$TextReader;II)Z"⟩, 6) := ⟨⟨by decide +kernel, by decide +kernel⟩, List.mem_of_getElem? (i := 122) (by decide +kernel), List.mem_of_getElem? (i := 1201) (by decide +kernel), List.mem_of_getElem? (i := 1202) (by decide +kernel)⟩
theorem lw_p22 : lw_okq (⟨"KiteLogger$Script", "readBody", "(LKiteLogger$TextReader;I)Z"⟩, 6) := ⟨⟨by decide +kernel, by decide +kernel⟩, List.mem_of_getElem? (i := 122) (by decide +kernel), List.mem_of_getElem? (i := 1206) (by decide +kernel), List.mem_of_getElem? (i := 1207) (by decide +kernel)⟩
theorem lw_p23 : lw_okq (⟨"KiteLoggerModel", "begin", "(III)V"⟩, 28) := ⟨⟨by decide +kernel, by decide +kernel⟩, List.mem_of_getElem? (i := 1252) (by decide +kernel), List.mem_of_getElem? (i := 1269) (by decide +kernel), List.mem_of_getElem? (i := 1270) (by decide +kernel)⟩
theorem lw_p24 : lw_okq (⟨"KiteLoggerModel", "addGust", "(I)V"⟩, 28) := ⟨⟨by decide +kernel, by decide +kernel⟩, List.mem_of_getElem? (i := 1252) (by decide +kernel), List.mem_of_getElem? (i := 1273) (by decide +kernel), List.mem_of_getElem? (i := 1274) (by decide +kernel)⟩
theorem lw_p25 : lw_okq (⟨"KiteLoggerModel", "lacks", "(Z)Z"⟩, 28) := ⟨⟨by decide +kernel, by decide +kernel⟩, List.mem_of_getElem? (i := 1252) (by decide +kernel), List.mem_of_getElem? (i := 1381) (by decide +kernel), List.mem_of_getElem? (i := 1382) (by decide +kernel)⟩
theorem lw_p26 : lw_okq (⟨"KiteLoggerModel", "gustOf", "(I)I"⟩, 28) := ⟨⟨by decide +kernel, by decide +kernel⟩, List.mem_of_getElem? (i := 1252) (by decide +kernel), List.mem_of_getElem? (i := 1385) (by decide +kernel), List.mem_of_getElem? (i := 1386) (by decide +kernel)⟩
theorem lw_p27 : lw_okq (⟨"KiteLoggerModel", "windNow", "(I)I"⟩, 28) := ⟨⟨by decide +kernel, by decide +kernel⟩, List.mem_of_getElem? (i := 1252) (by decide +kernel), List.mem_of_getElem? (i := 1393) (by decide +kernel), List.mem_of_getElem? (i := 1394) (by decide +kernel)⟩
theorem lw_p28 : lw_okq (⟨"KiteLoggerModel", "greatest", "()I"⟩, 28) := ⟨⟨by decide +kernel, by decide +kernel⟩, List.mem_of_getElem? (i := 1252) (by decide +kernel), List.mem_of_getElem? (i := 1409) (by decide +kernel), List.mem_of_getElem? (i := 1410) (by decide +kernel)⟩
theorem lw_p29 : lw_okq (⟨"KiteLoggerModel", "is", "(I)Z"⟩, 28) := ⟨⟨by decide +kernel, by decide +kernel⟩, List.mem_of_getElem? (i := 1252) (by decide +kernel), List.mem_of_getElem? (i := 1427) (by decide +kernel), List.mem_of_getElem? (i := 1428) (by decide +kernel)⟩
theorem lw_p30 : lw_okq (⟨"KiteLoggerModel", "load", "(I)I"⟩, 28) := ⟨⟨by decide +kernel, by decide +kernel⟩, List.mem_of_getElem? (i := 1252) (by decide +kernel), List.mem_of_getElem? (i := 1467) (by decide +kernel), List.mem_of_getElem? (i := 1468) (by decide +kernel)⟩
theorem lw_p31 : lw_okq (⟨"KiteLoggerModel", "logged", "(II)I"⟩, 28) := ⟨⟨by decide +kernel, by decide +kernel⟩, List.mem_of_getElem? (i := 1252) (by decide +kernel), List.mem_of_getElem? (i := 1503) (by decide +kernel), List.mem_of_getElem? (i := 1504) (by decide +kernel)⟩
def lw_privs_2 : List (MethodName × Nat) := [(⟨"KiteLogger$Station", "moveSamples", "()I"⟩, 9), (⟨"KiteLogger$Station", "passMany", "(I)I"⟩, 9), (⟨"KiteLogger$Station", "passOne", "()V"⟩, 9), (⟨"KiteLogger$Script", "readBlock", "(LKiteLogger$TextReader;I)Z"⟩, 6), (⟨"KiteLogger$Script", "readCommand", "(LKiteLogger$TextReader;I)Z"⟩, 6), (⟨"KiteLogger$Script", "readNumbers", "(LKiteLogger$TextReader;II)Z"⟩, 6), (⟨"KiteLogger$Script", "readBody", "(LKiteLogger$TextReader;I)Z"⟩, 6), (⟨"KiteLoggerModel", "begin", "(III)V"⟩, 28), (⟨"KiteLoggerModel", "addGust", "(I)V"⟩, 28), (⟨"KiteLoggerModel", "lacks", "(Z)Z"⟩, 28), (⟨"KiteLoggerModel", "gustOf", "(I)I"⟩, 28), (⟨"KiteLoggerModel", "windNow", "(I)I"⟩, 28), (⟨"KiteLoggerModel", "greatest", "()I"⟩, 28), (⟨"KiteLoggerModel", "is", "(I)Z"⟩, 28), (⟨"KiteLoggerModel", "load", "(I)I"⟩, 28), (⟨"KiteLoggerModel", "logged", "(II)I"⟩, 28)]
theorem lw_r2 : ∀ q ∈ lw_privs_2, lw_okq q := List.forall_mem_cons.mpr ⟨lw_p16, List.forall_mem_cons.mpr ⟨lw_p17, List.forall_mem_cons.mpr ⟨lw_p18, List.forall_mem_cons.mpr ⟨lw_p19, List.forall_mem_cons.mpr ⟨lw_p20, List.forall_mem_cons.mpr ⟨lw_p21, List.forall_mem_cons.mpr ⟨lw_p22, List.forall_mem_cons.mpr ⟨lw_p23, List.forall_mem_cons.mpr ⟨lw_p24, List.forall_mem_cons.mpr ⟨lw_p25, List.forall_mem_cons.mpr ⟨lw_p26, List.forall_mem_cons.mpr ⟨lw_p27, List.forall_mem_cons.mpr ⟨lw_p28, List.forall_mem_cons.mpr ⟨lw_p29, List.forall_mem_cons.mpr ⟨lw_p30, List.forall_mem_cons.mpr ⟨lw_p31, fun _ h => absurd h List.not_mem_nil⟩⟩⟩⟩⟩⟩⟩⟩⟩⟩⟩⟩⟩⟩⟩⟩
theorem lw_p32 : lw_okq (⟨"KiteLoggerModel", "archived", "(II)I"⟩, 28) := ⟨⟨by decide +kernel, by decide +kernel⟩, List.mem_of_getElem? (i := 1252) (by decide +kernel), List.mem_of_getElem? (i := 1527) (by decide +kernel), List.mem_of_getElem? (i := 1528) (by decide +kernel)⟩
theorem lw_p33 : lw_okq (⟨"KiteLoggerModel", "ofArchive", "(II)I"⟩, 28) := ⟨⟨by decide +kernel, by decide +kernel⟩, List.mem_of_getElem? (i := 1252) (by decide +kernel), List.mem_of_getElem? (i := 1531) (by decide +kernel), List.mem_of_getElem? (i := 1532) (by decide +kernel)⟩
theorem lw_p34 : lw_okq (⟨"KiteLoggerModel", "countBetween", "(II)I"⟩, 28) := ⟨⟨by decide +kernel, by decide +kernel⟩, List.mem_of_getElem? (i := 1252) (by decide +kernel), List.mem_of_getElem? (i := 1547) (by decide +kernel), List.mem_of_getElem? (i := 1548) (by decide +kernel)⟩
theorem lw_p35 : lw_okq (⟨"KiteLoggerModel", "disorder", "(II)I"⟩, 28) := ⟨⟨by decide +kernel, by decide +kernel⟩, List.mem_of_getElem? (i := 1252) (by decide +kernel), List.mem_of_getElem? (i := 1574) (by decide +kernel), List.mem_of_getElem? (i := 1575) (by decide +kernel)⟩
theorem lw_p36 : lw_okq (⟨"KiteLoggerModel", "whyNotLaunch", "()I"⟩, 28) := ⟨⟨by decide +kernel, by decide +kernel⟩, List.mem_of_getElem? (i := 1252) (by decide +kernel), List.mem_of_getElem? (i := 1582) (by decide +kernel), List.mem_of_getElem? (i := 1583) (by decide +kernel)⟩
theorem lw_p37 : lw_okq (⟨"KiteLoggerModel", "putAside", "()V"⟩, 28) := ⟨⟨by decide +kernel, by decide +kernel⟩, List.mem_of_getElem? (i := 1252) (by decide +kernel), List.mem_of_getElem? (i := 1590) (by decide +kernel), List.mem_of_getElem? (i := 1591) (by decide +kernel)⟩
theorem lw_p38 : lw_okq (⟨"KiteLoggerModel", "pass", "(I)V"⟩, 28) := ⟨⟨by decide +kernel, by decide +kernel⟩, List.mem_of_getElem? (i := 1252) (by decide +kernel), List.mem_of_getElem? (i := 1598) (by decide +kernel), List.mem_of_getElem? (i := 1599) (by decide +kernel)⟩
theorem lw_p39 : lw_okq (⟨"KiteLoggerModel", "passTick", "()V"⟩, 28) := ⟨⟨by decide +kernel, by decide +kernel⟩, List.mem_of_getElem? (i := 1252) (by decide +kernel), List.mem_of_getElem? (i := 1602) (by decide +kernel), List.mem_of_getElem? (i := 1603) (by decide +kernel)⟩
theorem lw_p40 : lw_okq (⟨"KiteLoggerModel", "fly", "()V"⟩, 28) := ⟨⟨by decide +kernel, by decide +kernel⟩, List.mem_of_getElem? (i := 1252) (by decide +kernel), List.mem_of_getElem? (i := 1606) (by decide +kernel), List.mem_of_getElem? (i := 1607) (by decide +kernel)⟩
theorem lw_p41 : lw_okq (⟨"KiteLoggerModel", "bufferWind", "(I)V"⟩, 28) := ⟨⟨by decide +kernel, by decide +kernel⟩, List.mem_of_getElem? (i := 1252) (by decide +kernel), List.mem_of_getElem? (i := 1610) (by decide +kernel), List.mem_of_getElem? (i := 1611) (by decide +kernel)⟩
theorem lw_p42 : lw_okq (⟨"KiteLoggerModel", "strain", "(I)V"⟩, 28) := ⟨⟨by decide +kernel, by decide +kernel⟩, List.mem_of_getElem? (i := 1252) (by decide +kernel), List.mem_of_getElem? (i := 1614) (by decide +kernel), List.mem_of_getElem? (i := 1615) (by decide +kernel)⟩
theorem lw_p43 : lw_okq (⟨"KiteLoggerModel", "snap", "(I)V"⟩, 28) := ⟨⟨by decide +kernel, by decide +kernel⟩, List.mem_of_getElem? (i := 1252) (by decide +kernel), List.mem_of_getElem? (i := 1618) (by decide +kernel), List.mem_of_getElem? (i := 1619) (by decide +kernel)⟩
theorem lw_p44 : lw_okq (⟨"KiteLoggerModel", "climb", "(I)V"⟩, 28) := ⟨⟨by decide +kernel, by decide +kernel⟩, List.mem_of_getElem? (i := 1252) (by decide +kernel), List.mem_of_getElem? (i := 1622) (by decide +kernel), List.mem_of_getElem? (i := 1623) (by decide +kernel)⟩
theorem lw_p45 : lw_okq (⟨"KiteLoggerModel", "makeSample", "()V"⟩, 28) := ⟨⟨by decide +kernel, by decide +kernel⟩, List.mem_of_getElem? (i := 1252) (by decide +kernel), List.mem_of_getElem? (i := 1629) (by decide +kernel), List.mem_of_getElem? (i := 1630) (by decide +kernel)⟩
theorem lw_p46 : lw_okq (⟨"KiteLoggerModel", "laidBack", "(I)I"⟩, 28) := ⟨⟨by decide +kernel, by decide +kernel⟩, List.mem_of_getElem? (i := 1252) (by decide +kernel), List.mem_of_getElem? (i := 1633) (by decide +kernel), List.mem_of_getElem? (i := 1634) (by decide +kernel)⟩
theorem lw_p47 : lw_okq (⟨"KiteLoggerModel", "untilSnap", "()I"⟩, 28) := ⟨⟨by decide +kernel, by decide +kernel⟩, List.mem_of_getElem? (i := 1252) (by decide +kernel), List.mem_of_getElem? (i := 1641) (by decide +kernel), List.mem_of_getElem? (i := 1642) (by decide +kernel)⟩
def lw_privs_3 : List (MethodName × Nat) := [(⟨"KiteLoggerModel", "archived", "(II)I"⟩, 28), (⟨"KiteLoggerModel", "ofArchive", "(II)I"⟩, 28), (⟨"KiteLoggerModel", "countBetween", "(II)I"⟩, 28), (⟨"KiteLoggerModel", "disorder", "(II)I"⟩, 28), (⟨"KiteLoggerModel", "whyNotLaunch", "()I"⟩, 28), (⟨"KiteLoggerModel", "putAside", "()V"⟩, 28), (⟨"KiteLoggerModel", "pass", "(I)V"⟩, 28), (⟨"KiteLoggerModel", "passTick", "()V"⟩, 28), (⟨"KiteLoggerModel", "fly", "()V"⟩, 28), (⟨"KiteLoggerModel", "bufferWind", "(I)V"⟩, 28), (⟨"KiteLoggerModel", "strain", "(I)V"⟩, 28), (⟨"KiteLoggerModel", "snap", "(I)V"⟩, 28), (⟨"KiteLoggerModel", "climb", "(I)V"⟩, 28), (⟨"KiteLoggerModel", "makeSample", "()V"⟩, 28), (⟨"KiteLoggerModel", "laidBack", "(I)I"⟩, 28), (⟨"KiteLoggerModel", "untilSnap", "()I"⟩, 28)]
theorem lw_r3 : ∀ q ∈ lw_privs_3, lw_okq q := List.forall_mem_cons.mpr ⟨lw_p32, List.forall_mem_cons.mpr ⟨lw_p33, List.forall_mem_cons.mpr ⟨lw_p34, List.forall_mem_cons.mpr ⟨lw_p35, List.forall_mem_cons.mpr ⟨lw_p36, List.forall_mem_cons.mpr ⟨lw_p37, List.forall_mem_cons.mpr ⟨lw_p38, List.forall_mem_cons.mpr ⟨lw_p39, List.forall_mem_cons.mpr ⟨lw_p40, List.forall_mem_cons.mpr ⟨lw_p41, List.forall_mem_cons.mpr ⟨lw_p42, List.forall_mem_cons.mpr ⟨lw_p43, List.forall_mem_cons.mpr ⟨lw_p44, List.forall_mem_cons.mpr ⟨lw_p45, List.forall_mem_cons.mpr ⟨lw_p46, List.forall_mem_cons.mpr ⟨lw_p47, fun _ h => absurd h List.not_mem_nil⟩⟩⟩⟩⟩⟩⟩⟩⟩⟩⟩⟩⟩⟩⟩⟩
theorem lw_p48 : lw_okq (⟨"KiteLoggerModel", "greatestGust", "()I"⟩, 28) := ⟨⟨by decide +kernel, by decide +kernel⟩, List.mem_of_getElem? (i := 1252) (by decide +kernel), List.mem_of_getElem? (i := 1649) (by decide +kernel), List.mem_of_getElem? (i := 1650) (by decide +kernel)⟩
theorem lw_p49 : lw_okq (⟨"KiteLoggerModel", "keep", "()V"⟩, 28) := ⟨⟨by decide +kernel, by decide +kernel⟩, List.mem_of_getElem? (i := 1252) (by decide +kernel), List.mem_of_getElem? (i := 1657) (by decide +kernel), List.mem_of_getElem? (i := 1658) (by decide +kernel)⟩
theorem lw_p50 : lw_okq (⟨"KiteLoggerModel", "doLaunch", "()I"⟩, 28) := ⟨⟨by decide +kernel, by decide +kernel⟩, List.mem_of_getElem? (i := 1252) (by decide +kernel), List.mem_of_getElem? (i := 1661) (by decide +kernel), List.mem_of_getElem? (i := 1662) (by decide +kernel)⟩
theorem lw_p51 : lw_okq (⟨"KiteLoggerModel", "ends", "(I)I"⟩, 28) := ⟨⟨by decide +kernel, by decide +kernel⟩, List.mem_of_getElem? (i := 1252) (by decide +kernel), List.mem_of_getElem? (i := 1665) (by decide +kernel), List.mem_of_getElem? (i := 1666) (by decide +kernel)⟩
theorem lw_p52 : lw_okq (⟨"KiteLoggerModel", "record", "()V"⟩, 28) := ⟨⟨by decide +kernel, by decide +kernel⟩, List.mem_of_getElem? (i := 1252) (by decide +kernel), List.mem_of_getElem? (i := 1669) (by decide +kernel), List.mem_of_getElem? (i := 1670) (by decide +kernel)⟩
theorem lw_p53 : lw_okq (⟨"KiteLoggerModel", "doOut", "(I)I"⟩, 28) := ⟨⟨by decide +kernel, by decide +kernel⟩, List.mem_of_getElem? (i := 1252) (by decide +kernel), List.mem_of_getElem? (i := 1677) (by decide +kernel), List.mem_of_getElem? (i := 1678) (by decide +kernel)⟩
theorem lw_p54 : lw_okq (⟨"KiteLoggerModel", "doIn", "(I)I"⟩, 28) := ⟨⟨by decide +kernel, by decide +kernel⟩, List.mem_of_getElem? (i := 1252) (by decide +kernel), List.mem_of_getElem? (i := 1685) (by decide +kernel), List.mem_of_getElem? (i := 1686) (by decide +kernel)⟩
theorem lw_p55 : lw_okq (⟨"KiteLoggerModel", "doBridle", "(II)I"⟩, 28) := ⟨⟨by decide +kernel, by decide +kernel⟩, List.mem_of_getElem? (i := 1252) (by decide +kernel), List.mem_of_getElem? (i := 1693) (by decide +kernel), List.mem_of_getElem? (i := 1694) (by decide +kernel)⟩
theorem lw_p56 : lw_okq (⟨"KiteLoggerModel", "doEvery", "(I)I"⟩, 28) := ⟨⟨by decide +kernel, by decide +kernel⟩, List.mem_of_getElem? (i := 1252) (by decide +kernel), List.mem_of_getElem? (i := 1701) (by decide +kernel), List.mem_of_getElem? (i := 1702) (by decide +kernel)⟩
theorem lw_p57 : lw_okq (⟨"KiteLoggerModel", "doSearch", "(I)I"⟩, 28) := ⟨⟨by decide +kernel, by decide +kernel⟩, List.mem_of_getElem? (i := 1252) (by decide +kernel), List.mem_of_getElem? (i := 1709) (by decide +kernel), List.mem_of_getElem? (i := 1710) (by decide +kernel)⟩
theorem lw_p58 : lw_okq (⟨"KiteLoggerModel", "doArchive", "()I"⟩, 28) := ⟨⟨by decide +kernel, by decide +kernel⟩, List.mem_of_getElem? (i := 1252) (by decide +kernel), List.mem_of_getElem? (i := 1717) (by decide +kernel), List.mem_of_getElem? (i := 1718) (by decide +kernel)⟩
theorem lw_p59 : lw_okq (⟨"KiteLoggerModel", "doWait", "(I)I"⟩, 28) := ⟨⟨by decide +kernel, by decide +kernel⟩, List.mem_of_getElem? (i := 1252) (by decide +kernel), List.mem_of_getElem? (i := 1725) (by decide +kernel), List.mem_of_getElem? (i := 1726) (by decide +kernel)⟩
theorem lw_p60 : lw_okq (⟨"KiteLoggerModel", "write", "(I)V"⟩, 28) := ⟨⟨by decide +kernel, by decide +kernel⟩, List.mem_of_getElem? (i := 1252) (by decide +kernel), List.mem_of_getElem? (i := 1733) (by decide +kernel), List.mem_of_getElem? (i := 1734) (by decide +kernel)⟩
theorem lw_p61 : lw_okq (⟨"KiteLoggerModel", "writeNumber", "(I)V"⟩, 28) := ⟨⟨by decide +kernel, by decide +kernel⟩, List.mem_of_getElem? (i := 1252) (by decide +kernel), List.mem_of_getElem? (i := 1737) (by decide +kernel), List.mem_of_getElem? (i := 1738) (by decide +kernel)⟩
theorem lw_p62 : lw_okq (⟨"KiteLoggerModel", "isLength", "(I)Z"⟩, 28) := ⟨⟨by decide +kernel, by decide +kernel⟩, List.mem_of_getElem? (i := 1252) (by decide +kernel), List.mem_of_getElem? (i := 1777) (by decide +kernel), List.mem_of_getElem? (i := 1778) (by decide +kernel)⟩
theorem lw_p63 : lw_okq (⟨"KiteLoggerModel", "startText", "(I)V"⟩, 28) := ⟨⟨by decide +kernel, by decide +kernel⟩, List.mem_of_getElem? (i := 1252) (by decide +kernel), List.mem_of_getElem? (i := 1781) (by decide +kernel), List.mem_of_getElem? (i := 1782) (by decide +kernel)⟩
def lw_privs_4 : List (MethodName × Nat) := [(⟨"KiteLoggerModel", "greatestGust", "()I"⟩, 28), (⟨"KiteLoggerModel", "keep", "()V"⟩, 28), (⟨"KiteLoggerModel", "doLaunch", "()I"⟩, 28), (⟨"KiteLoggerModel", "ends", "(I)I"⟩, 28), (⟨"KiteLoggerModel", "record", "()V"⟩, 28), (⟨"KiteLoggerModel", "doOut", "(I)I"⟩, 28), (⟨"KiteLoggerModel", "doIn", "(I)I"⟩, 28), (⟨"KiteLoggerModel", "doBridle", "(II)I"⟩, 28), (⟨"KiteLoggerModel", "doEvery", "(I)I"⟩, 28), (⟨"KiteLoggerModel", "doSearch", "(I)I"⟩, 28), (⟨"KiteLoggerModel", "doArchive", "()I"⟩, 28), (⟨"KiteLoggerModel", "doWait", "(I)I"⟩, 28), (⟨"KiteLoggerModel", "write", "(I)V"⟩, 28), (⟨"KiteLoggerModel", "writeNumber", "(I)V"⟩, 28), (⟨"KiteLoggerModel", "isLength", "(I)Z"⟩, 28), (⟨"KiteLoggerModel", "startText", "(I)V"⟩, 28)]
theorem lw_r4 : ∀ q ∈ lw_privs_4, lw_okq q := List.forall_mem_cons.mpr ⟨lw_p48, List.forall_mem_cons.mpr ⟨lw_p49, List.forall_mem_cons.mpr ⟨lw_p50, List.forall_mem_cons.mpr ⟨lw_p51, List.forall_mem_cons.mpr ⟨lw_p52, List.forall_mem_cons.mpr ⟨lw_p53, List.forall_mem_cons.mpr ⟨lw_p54, List.forall_mem_cons.mpr ⟨lw_p55, List.forall_mem_cons.mpr ⟨lw_p56, List.forall_mem_cons.mpr ⟨lw_p57, List.forall_mem_cons.mpr ⟨lw_p58, List.forall_mem_cons.mpr ⟨lw_p59, List.forall_mem_cons.mpr ⟨lw_p60, List.forall_mem_cons.mpr ⟨lw_p61, List.forall_mem_cons.mpr ⟨lw_p62, List.forall_mem_cons.mpr ⟨lw_p63, fun _ h => absurd h List.not_mem_nil⟩⟩⟩⟩⟩⟩⟩⟩⟩⟩⟩⟩⟩⟩⟩⟩
theorem lw_p64 : lw_okq (⟨"KiteLoggerModel", "scan", "()V"⟩, 28) := ⟨⟨by decide +kernel, by decide +kernel⟩, List.mem_of_getElem? (i := 1252) (by decide +kernel), List.mem_of_getElem? (i := 1785) (by decide +kernel), List.mem_of_getElem? (i := 1786) (by decide +kernel)⟩
theorem lw_p65 : lw_okq (⟨"KiteLoggerModel", "byteAt", "(I)I"⟩, 28) := ⟨⟨by decide +kernel, by decide +kernel⟩, List.mem_of_getElem? (i := 1252) (by decide +kernel), List.mem_of_getElem? (i := 1789) (by decide +kernel), List.mem_of_getElem? (i := 1790) (by decide +kernel)⟩
theorem lw_p66 : lw_okq (⟨"KiteLoggerModel", "isLetter", "(I)Z"⟩, 28) := ⟨⟨by decide +kernel, by decide +kernel⟩, List.mem_of_getElem? (i := 1252) (by decide +kernel), List.mem_of_getElem? (i := 1793) (by decide +kernel), List.mem_of_getElem? (i := 1794) (by decide +kernel)⟩
theorem lw_p67 : lw_okq (⟨"KiteLoggerModel", "isDigit", "(I)Z"⟩, 28) := ⟨⟨by decide +kernel, by decide +kernel⟩, List.mem_of_getElem? (i := 1252) (by decide +kernel), List.mem_of_getElem? (i := 1797) (by decide +kernel), List.mem_of_getElem? (i := 1798) (by decide +kernel)⟩
theorem lw_p68 : lw_okq (⟨"KiteLoggerModel", "readStation", "()V"⟩, 28) := ⟨⟨by decide +kernel, by decide +kernel⟩, List.mem_of_getElem? (i := 1252) (by decide +kernel), List.mem_of_getElem? (i := 1801) (by decide +kernel), List.mem_of_getElem? (i := 1802) (by decide +kernel)⟩
theorem lw_p69 : lw_okq (⟨"KiteLoggerModel", "isWord", "(Ljava/lang/String;)Z"⟩, 28) := ⟨⟨by decide +kernel, by decide +kernel⟩, List.mem_of_getElem? (i := 1252) (by decide +kernel), List.mem_of_getElem? (i := 1806) (by decide +kernel), List.mem_of_getElem? (i := 1807) (by decide +kernel)⟩
theorem lw_p70 : lw_okq (⟨"KiteLoggerModel", "check", "(ZI)V"⟩, 28) := ⟨⟨by decide +kernel, by decide +kernel⟩, List.mem_of_getElem? (i := 1252) (by decide +kernel), List.mem_of_getElem? (i := 1812) (by decide +kernel), List.mem_of_getElem? (i := 1813) (by decide +kernel)⟩
theorem lw_p71 : lw_okq (⟨"KiteLoggerModel", "advance", "()V"⟩, 28) := ⟨⟨by decide +kernel, by decide +kernel⟩, List.mem_of_getElem? (i := 1252) (by decide +kernel), List.mem_of_getElem? (i := 1816) (by decide +kernel), List.mem_of_getElem? (i := 1817) (by decide +kernel)⟩
theorem lw_p72 : lw_okq (⟨"KiteLoggerModel", "readNumber", "(II)I"⟩, 28) := ⟨⟨by decide +kernel, by decide +kernel⟩, List.mem_of_getElem? (i := 1252) (by decide +kernel), List.mem_of_getElem? (i := 1820) (by decide +kernel), List.mem_of_getElem? (i := 1821) (by decide +kernel)⟩
theorem lw_p73 : lw_okq (⟨"KiteLoggerModel", "look", "(II)I"⟩, 28) := ⟨⟨by decide +kernel, by decide +kernel⟩, List.mem_of_getElem? (i := 1252) (by decide +kernel), List.mem_of_getElem? (i := 1824) (by decide +kernel), List.mem_of_getElem? (i := 1825) (by decide +kernel)⟩
theorem lw_p74 : lw_okq (⟨"KiteLoggerModel", "value", "()I"⟩, 28) := ⟨⟨by decide +kernel, by decide +kernel⟩, List.mem_of_getElem? (i := 1252) (by decide +kernel), List.mem_of_getElem? (i := 1828) (by decide +kernel), List.mem_of_getElem? (i := 1829) (by decide +kernel)⟩
theorem lw_p75 : lw_okq (⟨"KiteLoggerModel", "expect", "(I)V"⟩, 28) := ⟨⟨by decide +kernel, by decide +kernel⟩, List.mem_of_getElem? (i := 1252) (by decide +kernel), List.mem_of_getElem? (i := 1833) (by decide +kernel), List.mem_of_getElem? (i := 1834) (by decide +kernel)⟩
theorem lw_p76 : lw_okq (⟨"KiteLoggerModel", "isSymbol", "(I)Z"⟩, 28) := ⟨⟨by decide +kernel, by decide +kernel⟩, List.mem_of_getElem? (i := 1252) (by decide +kernel), List.mem_of_getElem? (i := 1837) (by decide +kernel), List.mem_of_getElem? (i := 1838) (by decide +kernel)⟩
theorem lw_p77 : lw_okq (⟨"KiteLoggerModel", "readGust", "()V"⟩, 28) := ⟨⟨by decide +kernel, by decide +kernel⟩, List.mem_of_getElem? (i := 1252) (by decide +kernel), List.mem_of_getElem? (i := 1842) (by decide +kernel), List.mem_of_getElem? (i := 1843) (by decide +kernel)⟩
theorem lw_p78 : lw_okq (⟨"KiteLoggerModel", "isFaulty", "()Z"⟩, 28) := ⟨⟨by decide +kernel, by decide +kernel⟩, List.mem_of_getElem? (i := 1252) (by decide +kernel), List.mem_of_getElem? (i := 1847) (by decide +kernel), List.mem_of_getElem? (i := 1848) (by decide +kernel)⟩
theorem lw_p79 : lw_okq (⟨"KiteLoggerModel", "finish", "()I"⟩, 28) := ⟨⟨by decide +kernel, by decide +kernel⟩, List.mem_of_getElem? (i := 1252) (by decide +kernel), List.mem_of_getElem? (i := 1851) (by decide +kernel), List.mem_of_getElem? (i := 1852) (by decide +kernel)⟩
def lw_privs_5 : List (MethodName × Nat) := [(⟨"KiteLoggerModel", "scan", "()V"⟩, 28), (⟨"KiteLoggerModel", "byteAt", "(I)I"⟩, 28), (⟨"KiteLoggerModel", "isLetter", "(I)Z"⟩, 28), (⟨"KiteLoggerModel", "isDigit", "(I)Z"⟩, 28), (⟨"KiteLoggerModel", "readStation", "()V"⟩, 28), (⟨"KiteLoggerModel", "isWord", "(Ljava/lang/String;)Z"⟩, 28), (⟨"KiteLoggerModel", "check", "(ZI)V"⟩, 28), (⟨"KiteLoggerModel", "advance", "()V"⟩, 28), (⟨"KiteLoggerModel", "readNumber", "(II)I"⟩, 28), (⟨"KiteLoggerModel", "look", "(II)I"⟩, 28), (⟨"KiteLoggerModel", "value", "()I"⟩, 28), (⟨"KiteLoggerModel", "expect", "(I)V"⟩, 28), (⟨"KiteLoggerModel", "isSymbol", "(I)Z"⟩, 28), (⟨"KiteLoggerModel", "readGust", "()V"⟩, 28), (⟨"KiteLoggerModel", "isFaulty", "()Z"⟩, 28), (⟨"KiteLoggerModel", "finish", "()I"⟩, 28)]
theorem lw_r5 : ∀ q ∈ lw_privs_5, lw_okq q := List.forall_mem_cons.mpr ⟨lw_p64, List.forall_mem_cons.mpr ⟨lw_p65, List.forall_mem_cons.mpr ⟨lw_p66, List.forall_mem_cons.mpr ⟨lw_p67, List.forall_mem_cons.mpr ⟨lw_p68, List.forall_mem_cons.mpr ⟨lw_p69, List.forall_mem_cons.mpr ⟨lw_p70, List.forall_mem_cons.mpr ⟨lw_p71, List.forall_mem_cons.mpr ⟨lw_p72, List.forall_mem_cons.mpr ⟨lw_p73, List.forall_mem_cons.mpr ⟨lw_p74, List.forall_mem_cons.mpr ⟨lw_p75, List.forall_mem_cons.mpr ⟨lw_p76, List.forall_mem_cons.mpr ⟨lw_p77, List.forall_mem_cons.mpr ⟨lw_p78, List.forall_mem_cons.mpr ⟨lw_p79, fun _ h => absurd h List.not_mem_nil⟩⟩⟩⟩⟩⟩⟩⟩⟩⟩⟩⟩⟩⟩⟩⟩
theorem lw_p80 : lw_okq (⟨"KiteLoggerModel", "readOrder", "(I)V"⟩, 28) := ⟨⟨by decide +kernel, by decide +kernel⟩, List.mem_of_getElem? (i := 1252) (by decide +kernel), List.mem_of_getElem? (i := 1859) (by decide +kernel), List.mem_of_getElem? (i := 1860) (by decide +kernel)⟩
theorem lw_p81 : lw_okq (⟨"KiteLoggerModel", "orderHere", "()I"⟩, 28) := ⟨⟨by decide +kernel, by decide +kernel⟩, List.mem_of_getElem? (i := 1252) (by decide +kernel), List.mem_of_getElem? (i := 1863) (by decide +kernel), List.mem_of_getElem? (i := 1864) (by decide +kernel)⟩
theorem lw_p82 : lw_okq (⟨"KiteLoggerModel", "readRepeat", "(II)V"⟩, 28) := ⟨⟨by decide +kernel, by decide +kernel⟩, List.mem_of_getElem? (i := 1252) (by decide +kernel), List.mem_of_getElem? (i := 1867) (by decide +kernel), List.mem_of_getElem? (i := 1868) (by decide +kernel)⟩
theorem lw_p83 : lw_okq (⟨"KiteLoggerModel", "readFirst", "(I)I"⟩, 28) := ⟨⟨by decide +kernel, by decide +kernel⟩, List.mem_of_getElem? (i := 1252) (by decide +kernel), List.mem_of_getElem? (i := 1871) (by decide +kernel), List.mem_of_getElem? (i := 1872) (by decide +kernel)⟩
theorem lw_p84 : lw_okq (⟨"KiteLoggerModel", "areDone", "(II)Z"⟩, 28) := ⟨⟨by decide +kernel, by decide +kernel⟩, List.mem_of_getElem? (i := 1252) (by decide +kernel), List.mem_of_getElem? (i := 1875) (by decide +kernel), List.mem_of_getElem? (i := 1876) (by decide +kernel)⟩
theorem lw_p85 : lw_okq (⟨"KiteLoggerModel", "isRepeated", "(I)Z"⟩, 28) := ⟨⟨by decide +kernel, by decide +kernel⟩, List.mem_of_getElem? (i := 1252) (by decide +kernel), List.mem_of_getElem? (i := 1879) (by decide +kernel), List.mem_of_getElem? (i := 1880) (by decide +kernel)⟩
theorem lw_p86 : lw_okq (⟨"KiteLoggerModel", "does", "(I)I"⟩, 28) := ⟨⟨by decide +kernel, by decide +kernel⟩, List.mem_of_getElem? (i := 1252) (by decide +kernel), List.mem_of_getElem? (i := 1883) (by decide +kernel), List.mem_of_getElem? (i := 1884) (by decide +kernel)⟩
def lw_privs_6 : List (MethodName × Nat) := [(⟨"KiteLoggerModel", "readOrder", "(I)V"⟩, 28), (⟨"KiteLoggerModel", "orderHere", "()I"⟩, 28), (⟨"KiteLoggerModel", "readRepeat", "(II)V"⟩, 28), (⟨"KiteLoggerModel", "readFirst", "(I)I"⟩, 28), (⟨"KiteLoggerModel", "areDone", "(II)Z"⟩, 28), (⟨"KiteLoggerModel", "isRepeated", "(I)Z"⟩, 28), (⟨"KiteLoggerModel", "does", "(I)I"⟩, 28)]
theorem lw_r6 : ∀ q ∈ lw_privs_6, lw_okq q := List.forall_mem_cons.mpr ⟨lw_p80, List.forall_mem_cons.mpr ⟨lw_p81, List.forall_mem_cons.mpr ⟨lw_p82, List.forall_mem_cons.mpr ⟨lw_p83, List.forall_mem_cons.mpr ⟨lw_p84, List.forall_mem_cons.mpr ⟨lw_p85, List.forall_mem_cons.mpr ⟨lw_p86, fun _ h => absurd h List.not_mem_nil⟩⟩⟩⟩⟩⟩⟩
def lw_privs : List (MethodName × Nat) := lw_privs_1 ++ (lw_privs_2 ++ (lw_privs_3 ++ (lw_privs_4 ++ (lw_privs_5 ++ (lw_privs_6)))))
def lw_tbl : List Cond := k2_sels lw_privs ++ tables_1
theorem lw_privs_ok : ∀ q ∈ lw_privs, lw_okq q := by
  show ∀ q ∈ lw_privs_1 ++ (lw_privs_2 ++ (lw_privs_3 ++ (lw_privs_4 ++ (lw_privs_5 ++ (lw_privs_6))))), lw_okq q
  exact List.forall_mem_append.mpr ⟨lw_r1, List.forall_mem_append.mpr ⟨lw_r2, List.forall_mem_append.mpr ⟨lw_r3, List.forall_mem_append.mpr ⟨lw_r4, List.forall_mem_append.mpr ⟨lw_r5, lw_r6⟩⟩⟩⟩⟩
/-- the streams that the claim lets the run draw from -/
abbrev lw_cs : List Choice := [Jvm.Choice.named "NaN.bits"]
theorem lw_bits : nanBits ∈ lw_cs := by first | decide | exact List.mem_cons_self | simp [lw_cs, nanBits]
-- ===== end of PART A; then your names; then what follows =====
/-- the tables' words that stay true in every heap: all methods share them -/
def TT : List Cond := lw_tbl.filter goodWord
theorem TT_in {w : Cond} {i : Nat} (h : lw_tbl[i]? = some w) (g : goodWord w = true) : w ∈ TT := List.mem_filter.mpr ⟨List.mem_of_getElem? h, g⟩
theorem TT_good {w : Cond} (h : w ∈ TT) : w ∈ lw_tbl ∧ goodWord w = true := List.mem_filter.mp h
theorem TT_goodIn {x y : Cond} (hy : y ∈ TT) : GoodIn (x :: TT) (y :: TT) := by
  intro w hw
  have hm : w ∈ TT := by
    rcases List.mem_cons.mp hw with rfl | h
    · exact hy
    · exact h
  exact ⟨List.mem_cons_of_mem _ hm, good_of_word (TT_good hm).2⟩
/-- the words of private members of nest mates -/
def isNest : Cond → Bool
  | .fieldLinkNest _ _ _ _ _ _ => true
  | .methodLinkNest _ _ _ _ => true
  | .castable _ _ => true
  | .declares _ => true
  | _ => false
def NW : List Cond := lw_tbl.filter isNest
theorem NW_in {w : Cond} {i : Nat} (h : lw_tbl[i]? = some w) (g : isNest w = true) : w ∈ NW := List.mem_filter.mpr ⟨List.mem_of_getElem? h, g⟩
theorem NW_warm {s U : State} (hW : s.WarmedH U.vm) (h : ∀ w ∈ NW, va_Nw w s) : ∀ w ∈ NW, va_Nw w U := by
  intro w hw
  have hn := (List.mem_filter.mp hw).2
  have hs := h w hw
  unfold isNest at hn
  split at hn
  · exact va_Nw.warmF hW hs
  · exact va_Nw.warmM hW hs
  · exact va_Nw.warmC hW hs
  · exact va_Nw.warmD hW hs
  · cases hn
theorem NW_same {u U : State} (hv : u.vm = U.vm) (h : ∀ w ∈ NW, va_Nw w u) : ∀ w ∈ NW, va_Nw w U := by
  intro w hw
  have hn := (List.mem_filter.mp hw).2
  have hs := h w hw
  unfold isNest at hn
  split at hn
  · exact va_Nw.same rfl hv hs
  · exact va_Nw.same rfl hv hs
  · exact va_Nw.same rfl hv hs
  · exact va_Nw.same rfl hv hs
  · cases hn
end
section
/-! names: classes and their fields, methods and their code -/
def T0 : u_T := fun k => match k with
  | 0 => ("KiteLogger$History", "stations", "[LKiteLogger$Station;", true)
  | 1 => ("KiteLogger$History", "next", "I", false)
  | _ => ("KiteLogger$History", "count", "I", false)
def ty0 : Nat → FieldType := fun k => match k with
  | 0 => .array (.object "KiteLogger$Station")
  | 1 => .int
  | _ => .int
theorem nm0 : ∀ a, a < 3 → ∀ b, b < 3 → a ≠ b → (T0 a).2.1 ≠ (T0 b).2.1 := by decide +kernel
theorem tyk0 : ∀ k, k < 3 → parseFieldDescriptor (T0 k).2.2.1 = some (ty0 k) := by decide +kernel
def T1 : u_T := fun k => match k with
  | 0 => ("KiteLogger$Kite", "mode", "I", false)
  | 1 => ("KiteLogger$Kite", "height", "I", false)
  | 2 => ("KiteLogger$Kite", "tether", "I", false)
  | 3 => ("KiteLogger$Kite", "area", "I", false)
  | 4 => ("KiteLogger$Kite", "limit", "I", false)
  | 5 => ("KiteLogger$Kite", "endurance", "I", false)
  | 6 => ("KiteLogger$Kite", "wear", "I", false)
  | 7 => ("KiteLogger$Kite", "distance", "I", false)
  | 8 => ("KiteLogger$Kite", "beacon", "I", false)
  | 9 => ("KiteLogger$Kite", "flightTime", "I", false)
  | 10 => ("KiteLogger$Kite", "launches", "I", false)
  | 11 => ("KiteLogger$Kite", "snaps", "I", false)
  | _ => ("KiteLogger$Kite", "searches", "I", false)
def ty1 : Nat → FieldType := fun k => match k with
  | 0 => .int
  | 1 => .int
  | 2 => .int
  | 3 => .int
  | 4 => .int
  | 5 => .int
  | 6 => .int
  | 7 => .int
  | 8 => .int
  | 9 => .int
  | 10 => .int
  | 11 => .int
  | _ => .int
theorem nm1 : ∀ a, a < 13 → ∀ b, b < 13 → a ≠ b → (T1 a).2.1 ≠ (T1 b).2.1 := by decide +kernel
theorem tyk1 : ∀ k, k < 13 → parseFieldDescriptor (T1 k).2.2.1 = some (ty1 k) := by decide +kernel
def T2 : u_T := fun k => match k with
  | 0 => ("KiteLogger$Output", "bytes", "[B", true)
  | _ => ("KiteLogger$Output", "length", "I", false)
def ty2 : Nat → FieldType := fun k => match k with
  | 0 => .array (.byte)
  | _ => .int
theorem nm2 : ∀ a, a < 2 → ∀ b, b < 2 → a ≠ b → (T2 a).2.1 ≠ (T2 b).2.1 := by decide +kernel
theorem tyk2 : ∀ k, k < 2 → parseFieldDescriptor (T2 k).2.2.1 = some (ty2 k) := by decide +kernel
def T3 : u_T := fun k => match k with
  | 0 => ("KiteLogger$Samples", "size", "I", true)
  | 1 => ("KiteLogger$Samples", "ticks", "[I", true)
  | 2 => ("KiteLogger$Samples", "heights", "[I", true)
  | 3 => ("KiteLogger$Samples", "gusts", "[I", true)
  | 4 => ("KiteLogger$Samples", "oldest", "I", false)
  | 5 => ("KiteLogger$Samples", "count", "I", false)
  | _ => ("KiteLogger$Samples", "dropped", "I", false)
def ty3 : Nat → FieldType := fun k => match k with
  | 0 => .int
  | 1 => .array (.int)
  | 2 => .array (.int)
  | 3 => .array (.int)
  | 4 => .int
  | 5 => .int
  | _ => .int
theorem nm3 : ∀ a, a < 7 → ∀ b, b < 7 → a ≠ b → (T3 a).2.1 ≠ (T3 b).2.1 := by decide +kernel
theorem tyk3 : ∀ k, k < 7 → parseFieldDescriptor (T3 k).2.2.1 = some (ty3 k) := by decide +kernel
def T4 : u_T := fun k => match k with
  | 0 => ("KiteLogger$Script", "commands", "[I", true)
  | 1 => ("KiteLogger$Script", "firsts", "[I", true)
  | 2 => ("KiteLogger$Script", "seconds", "[I", true)
  | 3 => ("KiteLogger$Script", "ends", "[I", true)
  | 4 => ("KiteLogger$Script", "count", "I", false)
  | _ => ("KiteLogger$Script", "executed", "I", false)
def ty4 : Nat → FieldType := fun k => match k with
  | 0 => .array (.int)
  | 1 => .array (.int)
  | 2 => .array (.int)
  | 3 => .array (.int)
  | 4 => .int
  | _ => .int
theorem nm4 : ∀ a, a < 6 → ∀ b, b < 6 → a ≠ b → (T4 a).2.1 ≠ (T4 b).2.1 := by decide +kernel
theorem tyk4 : ∀ k, k < 6 → parseFieldDescriptor (T4 k).2.2.1 = some (ty4 k) := by decide +kernel
def T5 : u_T := fun k => match k with
  | 0 => ("KiteLogger$Station", "kite", "LKiteLogger$Kite;", true)
  | 1 => ("KiteLogger$Station", "gusts", "[I", true)
  | 2 => ("KiteLogger$Station", "gustCount", "I", false)
  | 3 => ("KiteLogger$Station", "winds", "LKiteLogger$WindBuffer;", true)
  | 4 => ("KiteLogger$Station", "logger", "LKiteLogger$Samples;", true)
  | 5 => ("KiteLogger$Station", "archive", "LKiteLogger$Samples;", true)
  | 6 => ("KiteLogger$Station", "interval", "I", false)
  | 7 => ("KiteLogger$Station", "tick", "I", false)
  | _ => ("KiteLogger$Station", "made", "I", false)
def ty5 : Nat → FieldType := fun k => match k with
  | 0 => .object "KiteLogger$Kite"
  | 1 => .array (.int)
  | 2 => .int
  | 3 => .object "KiteLogger$WindBuffer"
  | 4 => .object "KiteLogger$Samples"
  | 5 => .object "KiteLogger$Samples"
  | 6 => .int
  | 7 => .int
  | _ => .int
theorem nm5 : ∀ a, a < 9 → ∀ b, b < 9 → a ≠ b → (T5 a).2.1 ≠ (T5 b).2.1 := by decide +kernel
theorem tyk5 : ∀ k, k < 9 → parseFieldDescriptor (T5 k).2.2.1 = some (ty5 k) := by decide +kernel
def T6 : u_T := fun k => match k with
  | 0 => ("KiteLogger$StationPlan", "area", "I", false)
  | 1 => ("KiteLogger$StationPlan", "limit", "I", false)
  | 2 => ("KiteLogger$StationPlan", "endurance", "I", false)
  | 3 => ("KiteLogger$StationPlan", "interval", "I", false)
  | 4 => ("KiteLogger$StationPlan", "gusts", "[I", true)
  | _ => ("KiteLogger$StationPlan", "gustCount", "I", false)
def ty6 : Nat → FieldType := fun k => match k with
  | 0 => .int
  | 1 => .int
  | 2 => .int
  | 3 => .int
  | 4 => .array (.int)
  | _ => .int
theorem nm6 : ∀ a, a < 6 → ∀ b, b < 6 → a ≠ b → (T6 a).2.1 ≠ (T6 b).2.1 := by decide +kernel
theorem tyk6 : ∀ k, k < 6 → parseFieldDescriptor (T6 k).2.2.1 = some (ty6 k) := by decide +kernel
def T7 : u_T := fun k => match k with
  | 0 => ("KiteLogger$TextReader", "bytes", "[B", true)
  | 1 => ("KiteLogger$TextReader", "filled", "I", false)
  | 2 => ("KiteLogger$TextReader", "end", "I", false)
  | 3 => ("KiteLogger$TextReader", "kind", "I", false)
  | 4 => ("KiteLogger$TextReader", "start", "I", false)
  | 5 => ("KiteLogger$TextReader", "next", "I", false)
  | 6 => ("KiteLogger$TextReader", "number", "I", false)
  | 7 => ("KiteLogger$TextReader", "taken", "I", false)
  | 8 => ("KiteLogger$TextReader", "errorCode", "I", false)
  | _ => ("KiteLogger$TextReader", "errorOffset", "I", false)
def ty7 : Nat → FieldType := fun k => match k with
  | 0 => .array (.byte)
  | 1 => .int
  | 2 => .int
  | 3 => .int
  | 4 => .int
  | 5 => .int
  | 6 => .int
  | 7 => .int
  | 8 => .int
  | _ => .int
theorem nm7 : ∀ a, a < 10 → ∀ b, b < 10 → a ≠ b → (T7 a).2.1 ≠ (T7 b).2.1 := by decide +kernel
theorem tyk7 : ∀ k, k < 10 → parseFieldDescriptor (T7 k).2.2.1 = some (ty7 k) := by decide +kernel
def T8 : u_T := fun k => match k with
  | 0 => ("KiteLogger$WindBuffer", "winds", "[I", true)
  | 1 => ("KiteLogger$WindBuffer", "oldest", "I", false)
  | _ => ("KiteLogger$WindBuffer", "count", "I", false)
def ty8 : Nat → FieldType := fun k => match k with
  | 0 => .array (.int)
  | 1 => .int
  | _ => .int
theorem nm8 : ∀ a, a < 3 → ∀ b, b < 3 → a ≠ b → (T8 a).2.1 ≠ (T8 b).2.1 := by decide +kernel
theorem tyk8 : ∀ k, k < 3 → parseFieldDescriptor (T8 k).2.2.1 = some (ty8 k) := by decide +kernel
def T9 : u_T := fun k => match k with
  | 0 => ("KiteLogger", "text", "LKiteLogger$TextReader;", true)
  | 1 => ("KiteLogger", "plan", "LKiteLogger$StationPlan;", true)
  | 2 => ("KiteLogger", "script", "LKiteLogger$Script;", true)
  | 3 => ("KiteLogger", "station", "LKiteLogger$Station;", true)
  | 4 => ("KiteLogger", "forecast", "LKiteLogger$Kite;", true)
  | 5 => ("KiteLogger", "history", "LKiteLogger$History;", true)
  | 6 => ("KiteLogger", "snapshot", "LKiteLogger$Station;", true)
  | 7 => ("KiteLogger", "snapshotSaved", "Z", false)
  | _ => ("KiteLogger", "output", "LKiteLogger$Output;", true)
def ty9 : Nat → FieldType := fun k => match k with
  | 0 => .object "KiteLogger$TextReader"
  | 1 => .object "KiteLogger$StationPlan"
  | 2 => .object "KiteLogger$Script"
  | 3 => .object "KiteLogger$Station"
  | 4 => .object "KiteLogger$Kite"
  | 5 => .object "KiteLogger$History"
  | 6 => .object "KiteLogger$Station"
  | 7 => .boolean
  | _ => .object "KiteLogger$Output"
theorem nm9 : ∀ a, a < 9 → ∀ b, b < 9 → a ≠ b → (T9 a).2.1 ≠ (T9 b).2.1 := by decide +kernel
theorem tyk9 : ∀ k, k < 9 → parseFieldDescriptor (T9 k).2.2.1 = some (ty9 k) := by decide +kernel
def T10 : u_T := fun k => match k with
  | 0 => ("KiteLoggerModel", "now", "[I", true)
  | 1 => ("KiteLoggerModel", "draft", "[I", true)
  | 2 => ("KiteLoggerModel", "aside", "[I", true)
  | 3 => ("KiteLoggerModel", "kept", "[I", true)
  | 4 => ("KiteLoggerModel", "snapshot", "[I", true)
  | 5 => ("KiteLoggerModel", "history", "[I", true)
  | 6 => ("KiteLoggerModel", "row", "[I", false)
  | 7 => ("KiteLoggerModel", "undoCount", "I", false)
  | 8 => ("KiteLoggerModel", "thrown", "I", false)
  | 9 => ("KiteLoggerModel", "latestCode", "I", false)
  | 10 => ("KiteLoggerModel", "result", "I", false)
  | 11 => ("KiteLoggerModel", "hasSnapshot", "Z", false)
  | 12 => ("KiteLoggerModel", "output", "[I", true)
  | 13 => ("KiteLoggerModel", "outputLength", "I", false)
  | 14 => ("KiteLoggerModel", "buffer", "[I", true)
  | 15 => ("KiteLoggerModel", "bufferLength", "I", false)
  | 16 => ("KiteLoggerModel", "limit", "I", false)
  | 17 => ("KiteLoggerModel", "next", "I", false)
  | 18 => ("KiteLoggerModel", "beginsAt", "I", false)
  | 19 => ("KiteLoggerModel", "token", "I", false)
  | 20 => ("KiteLoggerModel", "error", "I", false)
  | 21 => ("KiteLoggerModel", "errorAt", "I", false)
  | 22 => ("KiteLoggerModel", "errorPosition", "I", false)
  | 23 => ("KiteLoggerModel", "nested", "I", false)
  | 24 => ("KiteLoggerModel", "orders", "[I", true)
  | 25 => ("KiteLoggerModel", "orderWords", "[Ljava/lang/String;", true)
  | 26 => ("KiteLoggerModel", "orderCount", "I", false)
  | _ => ("KiteLoggerModel", "done", "I", false)
def ty10 : Nat → FieldType := fun k => match k with
  | 0 => .array (.int)
  | 1 => .array (.int)
  | 2 => .array (.int)
  | 3 => .array (.int)
  | 4 => .array (.int)
  | 5 => .array (.int)
  | 6 => .array (.int)
  | 7 => .int
  | 8 => .int
  | 9 => .int
  | 10 => .int
  | 11 => .boolean
  | 12 => .array (.int)
  | 13 => .int
  | 14 => .array (.int)
  | 15 => .int
  | 16 => .int
  | 17 => .int
  | 18 => .int
  | 19 => .int
  | 20 => .int
  | 21 => .int
  | 22 => .int
  | 23 => .int
  | 24 => .array (.int)
  | 25 => .array (.object "java/lang/String")
  | 26 => .int
  | _ => .int
theorem nm10 : ∀ a, a < 28 → ∀ b, b < 28 → a ≠ b → (T10 a).2.1 ≠ (T10 b).2.1 := by decide +kernel
theorem tyk10 : ∀ k, k < 28 → parseFieldDescriptor (T10 k).2.2.1 = some (ty10 k) := by decide +kernel
abbrev vwCl : List vw_C := [("KiteLogger$History", T0, 3), ("KiteLogger$Kite", T1, 13), ("KiteLogger$Output", T2, 2), ("KiteLogger$Samples", T3, 7), ("KiteLogger$Script", T4, 6), ("KiteLogger$Station", T5, 9), ("KiteLogger$StationPlan", T6, 6), ("KiteLogger$TextReader", T7, 10), ("KiteLogger$WindBuffer", T8, 3), ("KiteLogger", T9, 9), ("KiteLoggerModel", T10, 28)]
abbrev b_H_init : ByteArray := prog_2_method_1_code
abbrev y_H_init : MethodName := ⟨"KiteLogger$History", "<init>", "()V"⟩
abbrev b_H_forget : ByteArray := prog_2_method_2_code
abbrev y_H_forget : MethodName := ⟨"KiteLogger$History", "forget", "()V"⟩
abbrev b_H_remember : ByteArray := prog_2_method_3_code
abbrev y_H_remember : MethodName := ⟨"KiteLogger$History", "remember", "(LKiteLogger$Station;)V"⟩
abbrev b_H_takeBack : ByteArray := prog_2_method_4_code
abbrev y_H_takeBack : MethodName := ⟨"KiteLogger$History", "takeBack", "(LKiteLogger$Station;)V"⟩
abbrev b_H_placeAt : ByteArray := prog_2_method_5_code
abbrev y_H_placeAt : MethodName := ⟨"KiteLogger$History", "placeAt", "(I)LKiteLogger$Station;"⟩
abbrev b_K_init : ByteArray := prog_3_method_1_code
abbrev y_K_init : MethodName := ⟨"KiteLogger$Kite", "<init>", "()V"⟩
abbrev b_K_setUp : ByteArray := prog_3_method_2_code
abbrev y_K_setUp : MethodName := ⟨"KiteLogger$Kite", "setUp", "(III)V"⟩
abbrev b_K_copyFrom : ByteArray := prog_3_method_3_code
abbrev y_K_copyFrom : MethodName := ⟨"KiteLogger$Kite", "copyFrom", "(LKiteLogger$Kite;)V"⟩
abbrev b_K_windOver : ByteArray := prog_3_method_4_code
abbrev y_K_windOver : MethodName := ⟨"KiteLogger$Kite", "windOver", "(I)I"⟩
abbrev b_K_loadUnder : ByteArray := prog_3_method_5_code
abbrev y_K_loadUnder : MethodName := ⟨"KiteLogger$Kite", "loadUnder", "(I)I"⟩
abbrev b_K_passTick : ByteArray := prog_3_method_6_code
abbrev y_K_passTick : MethodName := ⟨"KiteLogger$Kite", "passTick", "(I)V"⟩
abbrev b_K_fly : ByteArray := prog_3_method_7_code
abbrev y_K_fly : MethodName := ⟨"KiteLogger$Kite", "fly", "(I)V"⟩
abbrev b_K_fall : ByteArray := prog_3_method_8_code
abbrev y_K_fall : MethodName := ⟨"KiteLogger$Kite", "fall", "(I)V"⟩
abbrev b_K_landOnGround : ByteArray := prog_3_method_9_code
abbrev y_K_landOnGround : MethodName := ⟨"KiteLogger$Kite", "landOnGround", "()V"⟩
abbrev b_K_rise : ByteArray := prog_3_method_10_code
abbrev y_K_rise : MethodName := ⟨"KiteLogger$Kite", "rise", "()I"⟩
abbrev b_K_lengthen : ByteArray := prog_3_method_11_code
abbrev y_K_lengthen : MethodName := ⟨"KiteLogger$Kite", "lengthen", "(I)I"⟩
abbrev b_K_shorten : ByteArray := prog_3_method_12_code
abbrev y_K_shorten : MethodName := ⟨"KiteLogger$Kite", "shorten", "(I)I"⟩
abbrev b_K_renewBridle : ByteArray := prog_3_method_13_code
abbrev y_K_renewBridle : MethodName := ⟨"KiteLogger$Kite", "renewBridle", "(II)I"⟩
abbrev b_K_searchAt : ByteArray := prog_3_method_14_code
abbrev y_K_searchAt : MethodName := ⟨"KiteLogger$Kite", "searchAt", "(I)I"⟩
abbrev b_O_init : ByteArray := prog_4_method_1_code
abbrev y_O_init : MethodName := ⟨"KiteLogger$Output", "<init>", "()V"⟩
abbrev b_O_at : ByteArray := prog_4_method_2_code
abbrev y_O_at : MethodName := ⟨"KiteLogger$Output", "at", "(I)I"⟩
abbrev b_O_writeSamples : ByteArray := prog_4_method_3_code
abbrev y_O_writeSamples : MethodName := ⟨"KiteLogger$Output", "writeSamples", "(LKiteLogger$Samples;)I"⟩
abbrev b_O_addNumber : ByteArray := prog_4_method_4_code
abbrev y_O_addNumber : MethodName := ⟨"KiteLogger$Output", "addNumber", "(I)V"⟩
abbrev b_O_addSign : ByteArray := prog_4_method_5_code
abbrev y_O_addSign : MethodName := ⟨"KiteLogger$Output", "addSign", "(C)V"⟩
abbrev b_S_init : ByteArray := prog_5_method_1_code
abbrev y_S_init : MethodName := ⟨"KiteLogger$Samples", "<init>", "(I)V"⟩
abbrev b_S_setUp : ByteArray := prog_5_method_2_code
abbrev y_S_setUp : MethodName := ⟨"KiteLogger$Samples", "setUp", "()V"⟩
abbrev b_S_empty : ByteArray := prog_5_method_3_code
abbrev y_S_empty : MethodName := ⟨"KiteLogger$Samples", "empty", "()V"⟩
abbrev b_S_copyFrom : ByteArray := prog_5_method_4_code
abbrev y_S_copyFrom : MethodName := ⟨"KiteLogger$Samples", "copyFrom", "(LKiteLogger$Samples;)V"⟩
abbrev b_S_add : ByteArray := prog_5_method_5_code
abbrev y_S_add : MethodName := ⟨"KiteLogger$Samples", "add", "(III)V"⟩
abbrev b_S_placeOf : ByteArray := prog_5_method_6_code
abbrev y_S_placeOf : MethodName := ⟨"KiteLogger$Samples", "placeOf", "(I)I"⟩
abbrev b_S_has : ByteArray := prog_5_method_7_code
abbrev y_S_has : MethodName := ⟨"KiteLogger$Samples", "has", "(I)Z"⟩
abbrev b_S_tickAt : ByteArray := prog_5_method_8_code
abbrev y_S_tickAt : MethodName := ⟨"KiteLogger$Samples", "tickAt", "(I)I"⟩
abbrev b_S_heightAt : ByteArray := prog_5_method_9_code
abbrev y_S_heightAt : MethodName := ⟨"KiteLogger$Samples", "heightAt", "(I)I"⟩
abbrev b_S_gustAt : ByteArray := prog_5_method_10_code
abbrev y_S_gustAt : MethodName := ⟨"KiteLogger$Samples", "gustAt", "(I)I"⟩
abbrev b_S_countBetween : ByteArray := prog_5_method_11_code
abbrev y_S_countBetween : MethodName := ⟨"KiteLogger$Samples", "countBetween", "(II)I"⟩
abbrev b_S_gustsBetween : ByteArray := prog_5_method_12_code
abbrev y_S_gustsBetween : MethodName := ⟨"KiteLogger$Samples", "gustsBetween", "(II)I"⟩
abbrev b_S_highest : ByteArray := prog_5_method_13_code
abbrev y_S_highest : MethodName := ⟨"KiteLogger$Samples", "highest", "()I"⟩
abbrev b_S_lastUntil : ByteArray := prog_5_method_14_code
abbrev y_S_lastUntil : MethodName := ⟨"KiteLogger$Samples", "lastUntil", "(I)I"⟩
abbrev b_S_misplaced : ByteArray := prog_5_method_15_code
abbrev y_S_misplaced : MethodName := ⟨"KiteLogger$Samples", "misplaced", "()I"⟩
abbrev b_C_init : ByteArray := prog_6_method_1_code
abbrev y_C_init : MethodName := ⟨"KiteLogger$Script", "<init>", "()V"⟩
abbrev b_C_read : ByteArray := prog_6_method_2_code
abbrev y_C_read : MethodName := ⟨"KiteLogger$Script", "read", "(LKiteLogger$TextReader;I)Z"⟩
abbrev b_C_readBlock : ByteArray := prog_6_method_3_code
abbrev y_C_readBlock : MethodName := ⟨"KiteLogger$Script", "readBlock", "(LKiteLogger$TextReader;I)Z"⟩
abbrev b_C_readCommand : ByteArray := prog_6_method_4_code
abbrev y_C_readCommand : MethodName := ⟨"KiteLogger$Script", "readCommand", "(LKiteLogger$TextReader;I)Z"⟩
abbrev b_C_readBody : ByteArray := prog_6_method_5_code
abbrev y_C_readBody : MethodName := ⟨"KiteLogger$Script", "readBody", "(LKiteLogger$TextReader;I)Z"⟩
abbrev b_C_readNumbers : ByteArray := prog_6_method_6_code
abbrev y_C_readNumbers : MethodName := ⟨"KiteLogger$Script", "readNumbers", "(LKiteLogger$TextReader;II)Z"⟩
abbrev b_C_commandAt : ByteArray := prog_6_method_7_code
abbrev y_C_commandAt : MethodName := ⟨"KiteLogger$Script", "commandAt", "(LKiteLogger$TextReader;)I"⟩
abbrev b_C_wordOf : ByteArray := prog_6_method_8_code
abbrev y_C_wordOf : MethodName := ⟨"KiteLogger$Script", "wordOf", "(I)Ljava/lang/String;"⟩
abbrev b_C_runBlock : ByteArray := prog_6_method_9_code
abbrev y_C_runBlock : MethodName := ⟨"KiteLogger$Script", "runBlock", "(LKiteLogger$Station;III)Z"⟩
abbrev b_T_init : ByteArray := prog_7_method_1_code
abbrev y_T_init : MethodName := ⟨"KiteLogger$Station", "<init>", "()V"⟩
abbrev b_T_setUp : ByteArray := prog_7_method_2_code
abbrev y_T_setUp : MethodName := ⟨"KiteLogger$Station", "setUp", "(LKiteLogger$StationPlan;)V"⟩
abbrev b_T_copyFrom : ByteArray := prog_7_method_3_code
abbrev y_T_copyFrom : MethodName := ⟨"KiteLogger$Station", "copyFrom", "(LKiteLogger$Station;)V"⟩
abbrev b_T_gustOf : ByteArray := prog_7_method_4_code
abbrev y_T_gustOf : MethodName := ⟨"KiteLogger$Station", "gustOf", "(I)I"⟩
abbrev b_T_greatestGust : ByteArray := prog_7_method_5_code
abbrev y_T_greatestGust : MethodName := ⟨"KiteLogger$Station", "greatestGust", "()I"⟩
abbrev b_T_obstacle : ByteArray := prog_7_method_6_code
abbrev y_T_obstacle : MethodName := ⟨"KiteLogger$Station", "obstacle", "()I"⟩
abbrev b_T_faultOf : ByteArray := prog_7_method_7_code
abbrev y_T_faultOf : MethodName := ⟨"KiteLogger$Station", "faultOf", "(III)I"⟩
abbrev b_T_hasBadNumber : ByteArray := prog_7_method_8_code
abbrev y_T_hasBadNumber : MethodName := ⟨"KiteLogger$Station", "hasBadNumber", "(III)Z"⟩
abbrev b_T_isForbidden : ByteArray := prog_7_method_9_code
abbrev y_T_isForbidden : MethodName := ⟨"KiteLogger$Station", "isForbidden", "(II)Z"⟩
abbrev b_T_perform : ByteArray := prog_7_method_10_code
abbrev y_T_perform : MethodName := ⟨"KiteLogger$Station", "perform", "(III)I"⟩
abbrev b_T_changeInterval : ByteArray := prog_7_method_11_code
abbrev y_T_changeInterval : MethodName := ⟨"KiteLogger$Station", "changeInterval", "(I)I"⟩
abbrev b_T_moveSamples : ByteArray := prog_7_method_12_code
abbrev y_T_moveSamples : MethodName := ⟨"KiteLogger$Station", "moveSamples", "()I"⟩
abbrev b_T_passMany : ByteArray := prog_7_method_13_code
abbrev y_T_passMany : MethodName := ⟨"KiteLogger$Station", "passMany", "(I)I"⟩
abbrev b_T_passOne : ByteArray := prog_7_method_14_code
abbrev y_T_passOne : MethodName := ⟨"KiteLogger$Station", "passOne", "()V"⟩
abbrev b_P_init : ByteArray := prog_8_method_1_code
abbrev y_P_init : MethodName := ⟨"KiteLogger$StationPlan", "<init>", "()V"⟩
abbrev b_P_read : ByteArray := prog_8_method_2_code
abbrev y_P_read : MethodName := ⟨"KiteLogger$StationPlan", "read", "(LKiteLogger$TextReader;I)Z"⟩
abbrev b_P_readKite : ByteArray := prog_8_method_3_code
abbrev y_P_readKite : MethodName := ⟨"KiteLogger$StationPlan", "readKite", "(LKiteLogger$TextReader;)Z"⟩
abbrev b_P_readGusts : ByteArray := prog_8_method_4_code
abbrev y_P_readGusts : MethodName := ⟨"KiteLogger$StationPlan", "readGusts", "(LKiteLogger$TextReader;)Z"⟩
abbrev b_P_readInterval : ByteArray := prog_8_method_5_code
abbrev y_P_readInterval : MethodName := ⟨"KiteLogger$StationPlan", "readInterval", "(LKiteLogger$TextReader;)Z"⟩
abbrev b_X_init : ByteArray := prog_9_method_1_code
abbrev y_X_init : MethodName := ⟨"KiteLogger$TextReader", "<init>", "()V"⟩
abbrev b_X_hasRoomFor : ByteArray := prog_9_method_2_code
abbrev y_X_hasRoomFor : MethodName := ⟨"KiteLogger$TextReader", "hasRoomFor", "(I)Z"⟩
abbrev b_X_appendFour : ByteArray := prog_9_method_3_code
abbrev y_X_appendFour : MethodName := ⟨"KiteLogger$TextReader", "appendFour", "(I)V"⟩
abbrev b_X_begin : ByteArray := prog_9_method_4_code
abbrev y_X_begin : MethodName := ⟨"KiteLogger$TextReader", "begin", "(I)V"⟩
abbrev b_X_byteAt : ByteArray := prog_9_method_5_code
abbrev y_X_byteAt : MethodName := ⟨"KiteLogger$TextReader", "byteAt", "(I)I"⟩
abbrev b_X_isBlank : ByteArray := prog_9_method_6_code
abbrev y_X_isBlank : MethodName := ⟨"KiteLogger$TextReader", "isBlank", "(I)Z"⟩
abbrev b_X_advance : ByteArray := prog_9_method_7_code
abbrev y_X_advance : MethodName := ⟨"KiteLogger$TextReader", "advance", "()V"⟩
abbrev b_X_kindOf : ByteArray := prog_9_method_8_code
abbrev y_X_kindOf : MethodName := ⟨"KiteLogger$TextReader", "kindOf", "(I)I"⟩
abbrev b_X_isAtWord : ByteArray := prog_9_method_9_code
abbrev y_X_isAtWord : MethodName := ⟨"KiteLogger$TextReader", "isAtWord", "(Ljava/lang/String;)Z"⟩
abbrev b_X_fail : ByteArray := prog_9_method_10_code
abbrev y_X_fail : MethodName := ⟨"KiteLogger$TextReader", "fail", "(I)Z"⟩
abbrev b_X_takeWord : ByteArray := prog_9_method_11_code
abbrev y_X_takeWord : MethodName := ⟨"KiteLogger$TextReader", "takeWord", "(Ljava/lang/String;)Z"⟩
abbrev b_X_takeSign : ByteArray := prog_9_method_12_code
abbrev y_X_takeSign : MethodName := ⟨"KiteLogger$TextReader", "takeSign", "(I)Z"⟩
abbrev b_X_checkNumber : ByteArray := prog_9_method_13_code
abbrev y_X_checkNumber : MethodName := ⟨"KiteLogger$TextReader", "checkNumber", "(II)Z"⟩
abbrev b_X_takeNumber : ByteArray := prog_9_method_14_code
abbrev y_X_takeNumber : MethodName := ⟨"KiteLogger$TextReader", "takeNumber", "(II)Z"⟩
abbrev b_B_init : ByteArray := prog_10_method_1_code
abbrev y_B_init : MethodName := ⟨"KiteLogger$WindBuffer", "<init>", "()V"⟩
abbrev b_B_empty : ByteArray := prog_10_method_2_code
abbrev y_B_empty : MethodName := ⟨"KiteLogger$WindBuffer", "empty", "()V"⟩
abbrev b_B_copyFrom : ByteArray := prog_10_method_3_code
abbrev y_B_copyFrom : MethodName := ⟨"KiteLogger$WindBuffer", "copyFrom", "(LKiteLogger$WindBuffer;)V"⟩
abbrev b_B_add : ByteArray := prog_10_method_4_code
abbrev y_B_add : MethodName := ⟨"KiteLogger$WindBuffer", "add", "(I)V"⟩
abbrev b_B_has : ByteArray := prog_10_method_5_code
abbrev y_B_has : MethodName := ⟨"KiteLogger$WindBuffer", "has", "(I)Z"⟩
abbrev b_B_at : ByteArray := prog_10_method_6_code
abbrev y_B_at : MethodName := ⟨"KiteLogger$WindBuffer", "at", "(I)I"⟩
abbrev b_B_greatest : ByteArray := prog_10_method_7_code
abbrev y_B_greatest : MethodName := ⟨"KiteLogger$WindBuffer", "greatest", "()I"⟩
abbrev b_B_sum : ByteArray := prog_10_method_8_code
abbrev y_B_sum : MethodName := ⟨"KiteLogger$WindBuffer", "sum", "()I"⟩
abbrev b_G_init : ByteArray := prog_1_method_1_code
abbrev y_G_init : MethodName := ⟨"KiteLogger", "<init>", "()V"⟩
abbrev b_G_appendText : ByteArray := prog_1_method_2_code
abbrev y_G_appendText : MethodName := ⟨"KiteLogger", "appendText", "(IIIII)I"⟩
abbrev b_G_loadStation : ByteArray := prog_1_method_3_code
abbrev y_G_loadStation : MethodName := ⟨"KiteLogger", "loadStation", "(I)I"⟩
abbrev b_G_errorCode : ByteArray := prog_1_method_4_code
abbrev y_G_errorCode : MethodName := ⟨"KiteLogger", "errorCode", "()I"⟩
abbrev b_G_errorOffset : ByteArray := prog_1_method_5_code
abbrev y_G_errorOffset : MethodName := ⟨"KiteLogger", "errorOffset", "()I"⟩
abbrev b_G_tick : ByteArray := prog_1_method_6_code
abbrev y_G_tick : MethodName := ⟨"KiteLogger", "tick", "()I"⟩
abbrev b_G_patternLength : ByteArray := prog_1_method_7_code
abbrev y_G_patternLength : MethodName := ⟨"KiteLogger", "patternLength", "()I"⟩
abbrev b_G_gust : ByteArray := prog_1_method_8_code
abbrev y_G_gust : MethodName := ⟨"KiteLogger", "gust", "(I)I"⟩
abbrev b_G_windAt : ByteArray := prog_1_method_9_code
abbrev y_G_windAt : MethodName := ⟨"KiteLogger", "windAt", "(I)I"⟩
abbrev b_G_bufferSize : ByteArray := prog_1_method_10_code
abbrev y_G_bufferSize : MethodName := ⟨"KiteLogger", "bufferSize", "()I"⟩
abbrev b_G_bufferedWind : ByteArray := prog_1_method_11_code
abbrev y_G_bufferedWind : MethodName := ⟨"KiteLogger", "bufferedWind", "(I)I"⟩
abbrev b_G_greatestWind : ByteArray := prog_1_method_12_code
abbrev y_G_greatestWind : MethodName := ⟨"KiteLogger", "greatestWind", "()I"⟩
abbrev b_G_meanWind : ByteArray := prog_1_method_13_code
abbrev y_G_meanWind : MethodName := ⟨"KiteLogger", "meanWind", "()D"⟩
abbrev b_G_isLanded : ByteArray := prog_1_method_14_code
abbrev y_G_isLanded : MethodName := ⟨"KiteLogger", "isLanded", "()Z"⟩
abbrev b_G_isFlying : ByteArray := prog_1_method_15_code
abbrev y_G_isFlying : MethodName := ⟨"KiteLogger", "isFlying", "()Z"⟩
abbrev b_G_isFallen : ByteArray := prog_1_method_16_code
abbrev y_G_isFallen : MethodName := ⟨"KiteLogger", "isFallen", "()Z"⟩
abbrev b_G_height : ByteArray := prog_1_method_17_code
abbrev y_G_height : MethodName := ⟨"KiteLogger", "height", "()I"⟩
abbrev b_G_tether : ByteArray := prog_1_method_18_code
abbrev y_G_tether : MethodName := ⟨"KiteLogger", "tether", "()I"⟩
abbrev b_G_area : ByteArray := prog_1_method_19_code
abbrev y_G_area : MethodName := ⟨"KiteLogger", "area", "()I"⟩
abbrev b_G_limit : ByteArray := prog_1_method_20_code
abbrev y_G_limit : MethodName := ⟨"KiteLogger", "limit", "()I"⟩
abbrev b_G_endurance : ByteArray := prog_1_method_21_code
abbrev y_G_endurance : MethodName := ⟨"KiteLogger", "endurance", "()I"⟩
abbrev b_G_wear : ByteArray := prog_1_method_22_code
abbrev y_G_wear : MethodName := ⟨"KiteLogger", "wear", "()I"⟩
abbrev b_G_loadOf : ByteArray := prog_1_method_23_code
abbrev y_G_loadOf : MethodName := ⟨"KiteLogger", "loadOf", "(I)I"⟩
abbrev b_G_flightTime : ByteArray := prog_1_method_24_code
abbrev y_G_flightTime : MethodName := ⟨"KiteLogger", "flightTime", "()I"⟩
abbrev b_G_beaconTime : ByteArray := prog_1_method_25_code
abbrev y_G_beaconTime : MethodName := ⟨"KiteLogger", "beaconTime", "()I"⟩
abbrev b_G_launches : ByteArray := prog_1_method_26_code
abbrev y_G_launches : MethodName := ⟨"KiteLogger", "launches", "()I"⟩
abbrev b_G_snaps : ByteArray := prog_1_method_27_code
abbrev y_G_snaps : MethodName := ⟨"KiteLogger", "snaps", "()I"⟩
abbrev b_G_searches : ByteArray := prog_1_method_28_code
abbrev y_G_searches : MethodName := ⟨"KiteLogger", "searches", "()I"⟩
abbrev b_G_interval : ByteArray := prog_1_method_29_code
abbrev y_G_interval : MethodName := ⟨"KiteLogger", "interval", "()I"⟩
abbrev b_G_loggedCount : ByteArray := prog_1_method_30_code
abbrev y_G_loggedCount : MethodName := ⟨"KiteLogger", "loggedCount", "()I"⟩
abbrev b_G_loggedTick : ByteArray := prog_1_method_31_code
abbrev y_G_loggedTick : MethodName := ⟨"KiteLogger", "loggedTick", "(I)I"⟩
abbrev b_G_loggedHeight : ByteArray := prog_1_method_32_code
abbrev y_G_loggedHeight : MethodName := ⟨"KiteLogger", "loggedHeight", "(I)I"⟩
abbrev b_G_loggedGust : ByteArray := prog_1_method_33_code
abbrev y_G_loggedGust : MethodName := ⟨"KiteLogger", "loggedGust", "(I)I"⟩
abbrev b_G_droppedCount : ByteArray := prog_1_method_34_code
abbrev y_G_droppedCount : MethodName := ⟨"KiteLogger", "droppedCount", "()I"⟩
abbrev b_G_archivedCount : ByteArray := prog_1_method_35_code
abbrev y_G_archivedCount : MethodName := ⟨"KiteLogger", "archivedCount", "()I"⟩
abbrev b_G_archivedTick : ByteArray := prog_1_method_36_code
abbrev y_G_archivedTick : MethodName := ⟨"KiteLogger", "archivedTick", "(I)I"⟩
abbrev b_G_archivedHeight : ByteArray := prog_1_method_37_code
abbrev y_G_archivedHeight : MethodName := ⟨"KiteLogger", "archivedHeight", "(I)I"⟩
abbrev b_G_archivedGust : ByteArray := prog_1_method_38_code
abbrev y_G_archivedGust : MethodName := ⟨"KiteLogger", "archivedGust", "(I)I"⟩
abbrev b_G_archivedBetween : ByteArray := prog_1_method_39_code
abbrev y_G_archivedBetween : MethodName := ⟨"KiteLogger", "archivedBetween", "(II)I"⟩
abbrev b_G_highestArchived : ByteArray := prog_1_method_40_code
abbrev y_G_highestArchived : MethodName := ⟨"KiteLogger", "highestArchived", "()I"⟩
abbrev b_G_archivedBefore : ByteArray := prog_1_method_41_code
abbrev y_G_archivedBefore : MethodName := ⟨"KiteLogger", "archivedBefore", "(I)I"⟩
abbrev b_G_meanGust : ByteArray := prog_1_method_42_code
abbrev y_G_meanGust : MethodName := ⟨"KiteLogger", "meanGust", "(I)D"⟩
abbrev b_G_archivedShare : ByteArray := prog_1_method_43_code
abbrev y_G_archivedShare : MethodName := ⟨"KiteLogger", "archivedShare", "()F"⟩
abbrev b_G_gap : ByteArray := prog_1_method_44_code
abbrev y_G_gap : MethodName := ⟨"KiteLogger", "gap", "()I"⟩
abbrev b_G_launchObstacle : ByteArray := prog_1_method_45_code
abbrev y_G_launchObstacle : MethodName := ⟨"KiteLogger", "launchObstacle", "()I"⟩
abbrev b_G_heightAfter : ByteArray := prog_1_method_46_code
abbrev y_G_heightAfter : MethodName := ⟨"KiteLogger", "heightAfter", "(I)I"⟩
abbrev b_G_ticksToSnap : ByteArray := prog_1_method_47_code
abbrev y_G_ticksToSnap : MethodName := ⟨"KiteLogger", "ticksToSnap", "()I"⟩
abbrev b_G_safeHeight : ByteArray := prog_1_method_48_code
abbrev y_G_safeHeight : MethodName := ⟨"KiteLogger", "safeHeight", "()I"⟩
abbrev b_G_launch : ByteArray := prog_1_method_49_code
abbrev y_G_launch : MethodName := ⟨"KiteLogger", "launch", "()I"⟩
abbrev b_G_payOut : ByteArray := prog_1_method_50_code
abbrev y_G_payOut : MethodName := ⟨"KiteLogger", "payOut", "(I)I"⟩
abbrev b_G_reelIn : ByteArray := prog_1_method_51_code
abbrev y_G_reelIn : MethodName := ⟨"KiteLogger", "reelIn", "(I)I"⟩
abbrev b_G_replaceBridle : ByteArray := prog_1_method_52_code
abbrev y_G_replaceBridle : MethodName := ⟨"KiteLogger", "replaceBridle", "(II)I"⟩
abbrev b_G_setInterval : ByteArray := prog_1_method_53_code
abbrev y_G_setInterval : MethodName := ⟨"KiteLogger", "setInterval", "(I)I"⟩
abbrev b_G_search : ByteArray := prog_1_method_54_code
abbrev y_G_search : MethodName := ⟨"KiteLogger", "search", "(I)I"⟩
abbrev b_G_archive : ByteArray := prog_1_method_55_code
abbrev y_G_archive : MethodName := ⟨"KiteLogger", "archive", "()I"⟩
abbrev b_G_passTicks : ByteArray := prog_1_method_56_code
abbrev y_G_passTicks : MethodName := ⟨"KiteLogger", "passTicks", "(I)I"⟩
abbrev b_G_runScript : ByteArray := prog_1_method_57_code
abbrev y_G_runScript : MethodName := ⟨"KiteLogger", "runScript", "(I)I"⟩
abbrev b_G_writeLogger : ByteArray := prog_1_method_58_code
abbrev y_G_writeLogger : MethodName := ⟨"KiteLogger", "writeLogger", "()I"⟩
abbrev b_G_outputByte : ByteArray := prog_1_method_59_code
abbrev y_G_outputByte : MethodName := ⟨"KiteLogger", "outputByte", "(I)I"⟩
abbrev b_G_undoableCount : ByteArray := prog_1_method_60_code
abbrev y_G_undoableCount : MethodName := ⟨"KiteLogger", "undoableCount", "()I"⟩
abbrev b_G_undo : ByteArray := prog_1_method_61_code
abbrev y_G_undo : MethodName := ⟨"KiteLogger", "undo", "()I"⟩
abbrev b_G_saveSnapshot : ByteArray := prog_1_method_62_code
abbrev y_G_saveSnapshot : MethodName := ⟨"KiteLogger", "saveSnapshot", "()V"⟩
abbrev b_G_restoreSnapshot : ByteArray := prog_1_method_63_code
abbrev y_G_restoreSnapshot : MethodName := ⟨"KiteLogger", "restoreSnapshot", "()I"⟩
abbrev b_G_change : ByteArray := prog_1_method_64_code
abbrev y_G_change : MethodName := ⟨"KiteLogger", "change", "(III)I"⟩
abbrev b_G_refuseLength : ByteArray := prog_1_method_65_code
abbrev y_G_refuseLength : MethodName := ⟨"KiteLogger", "refuseLength", "(I)V"⟩
abbrev b_G_refuseOutside : ByteArray := prog_1_method_66_code
abbrev y_G_refuseOutside : MethodName := ⟨"KiteLogger", "refuseOutside", "(III)V"⟩
abbrev b_G_refuseMissing : ByteArray := prog_1_method_67_code
abbrev y_G_refuseMissing : MethodName := ⟨"KiteLogger", "refuseMissing", "(LKiteLogger$Samples;I)V"⟩
abbrev b_G_isOutside : ByteArray := prog_1_method_68_code
abbrev y_G_isOutside : MethodName := ⟨"KiteLogger", "isOutside", "(III)Z"⟩
abbrev b_G_meanOf : ByteArray := prog_1_method_69_code
abbrev y_G_meanOf : MethodName := ⟨"KiteLogger", "meanOf", "(II)D"⟩
abbrev b_G_valueAt : ByteArray := prog_1_method_70_code
abbrev y_G_valueAt : MethodName := ⟨"KiteLogger", "valueAt", "([II)I"⟩
abbrev b_G_putAt : ByteArray := prog_1_method_71_code
abbrev y_G_putAt : MethodName := ⟨"KiteLogger", "putAt", "([III)V"⟩
abbrev b_G_copyRow : ByteArray := prog_1_method_72_code
abbrev y_G_copyRow : MethodName := ⟨"KiteLogger", "copyRow", "([I[I)V"⟩
abbrev b_M_init : ByteArray := prog_12_method_1_code
abbrev y_M_init : MethodName := ⟨"KiteLoggerModel", "<init>", "()V"⟩
abbrev b_M_thrown : ByteArray := prog_12_method_2_code
abbrev y_M_thrown : MethodName := ⟨"KiteLoggerModel", "thrown", "()I"⟩
abbrev b_M_inRange : ByteArray := prog_12_method_3_code
abbrev y_M_inRange : MethodName := ⟨"KiteLoggerModel", "inRange", "(III)Z"⟩
abbrev b_M_lacks : ByteArray := prog_12_method_4_code
abbrev y_M_lacks : MethodName := ⟨"KiteLoggerModel", "lacks", "(Z)Z"⟩
abbrev b_M_sizeOf : ByteArray := prog_12_method_5_code
abbrev y_M_sizeOf : MethodName := ⟨"KiteLoggerModel", "sizeOf", "(I)I"⟩
abbrev b_M_least : ByteArray := prog_12_method_6_code
abbrev y_M_least : MethodName := ⟨"KiteLoggerModel", "least", "(II)I"⟩
abbrev b_M_most : ByteArray := prog_12_method_7_code
abbrev y_M_most : MethodName := ⟨"KiteLoggerModel", "most", "(II)I"⟩
abbrev b_M_begin : ByteArray := prog_12_method_8_code
abbrev y_M_begin : MethodName := ⟨"KiteLoggerModel", "begin", "(III)V"⟩
abbrev b_M_addGust : ByteArray := prog_12_method_9_code
abbrev y_M_addGust : MethodName := ⟨"KiteLoggerModel", "addGust", "(I)V"⟩
abbrev b_M_gustOf : ByteArray := prog_12_method_10_code
abbrev y_M_gustOf : MethodName := ⟨"KiteLoggerModel", "gustOf", "(I)I"⟩
abbrev b_M_windNow : ByteArray := prog_12_method_11_code
abbrev y_M_windNow : MethodName := ⟨"KiteLoggerModel", "windNow", "(I)I"⟩
abbrev b_M_load : ByteArray := prog_12_method_12_code
abbrev y_M_load : MethodName := ⟨"KiteLoggerModel", "load", "(I)I"⟩
abbrev b_M_is : ByteArray := prog_12_method_13_code
abbrev y_M_is : MethodName := ⟨"KiteLoggerModel", "is", "(I)Z"⟩
abbrev b_M_tick : ByteArray := prog_12_method_14_code
abbrev y_M_tick : MethodName := ⟨"KiteLoggerModel", "tick", "()I"⟩
abbrev b_M_patternLength : ByteArray := prog_12_method_15_code
abbrev y_M_patternLength : MethodName := ⟨"KiteLoggerModel", "patternLength", "()I"⟩
abbrev b_M_gust : ByteArray := prog_12_method_16_code
abbrev y_M_gust : MethodName := ⟨"KiteLoggerModel", "gust", "(I)I"⟩
abbrev b_M_windAt : ByteArray := prog_12_method_17_code
abbrev y_M_windAt : MethodName := ⟨"KiteLoggerModel", "windAt", "(I)I"⟩
abbrev b_M_bufferSize : ByteArray := prog_12_method_18_code
abbrev y_M_bufferSize : MethodName := ⟨"KiteLoggerModel", "bufferSize", "()I"⟩
abbrev b_M_bufferedWind : ByteArray := prog_12_method_19_code
abbrev y_M_bufferedWind : MethodName := ⟨"KiteLoggerModel", "bufferedWind", "(I)I"⟩
abbrev b_M_greatest : ByteArray := prog_12_method_20_code
abbrev y_M_greatest : MethodName := ⟨"KiteLoggerModel", "greatest", "()I"⟩
abbrev b_M_greatestWind : ByteArray := prog_12_method_21_code
abbrev y_M_greatestWind : MethodName := ⟨"KiteLoggerModel", "greatestWind", "()I"⟩
abbrev b_M_mean : ByteArray := prog_12_method_22_code
abbrev y_M_mean : MethodName := ⟨"KiteLoggerModel", "mean", "(II)D"⟩
abbrev b_M_meanWind : ByteArray := prog_12_method_23_code
abbrev y_M_meanWind : MethodName := ⟨"KiteLoggerModel", "meanWind", "()D"⟩
abbrev b_M_isLanded : ByteArray := prog_12_method_24_code
abbrev y_M_isLanded : MethodName := ⟨"KiteLoggerModel", "isLanded", "()Z"⟩
abbrev b_M_isFlying : ByteArray := prog_12_method_25_code
abbrev y_M_isFlying : MethodName := ⟨"KiteLoggerModel", "isFlying", "()Z"⟩
abbrev b_M_isFallen : ByteArray := prog_12_method_26_code
abbrev y_M_isFallen : MethodName := ⟨"KiteLoggerModel", "isFallen", "()Z"⟩
abbrev b_M_height : ByteArray := prog_12_method_27_code
abbrev y_M_height : MethodName := ⟨"KiteLoggerModel", "height", "()I"⟩
abbrev b_M_tether : ByteArray := prog_12_method_28_code
abbrev y_M_tether : MethodName := ⟨"KiteLoggerModel", "tether", "()I"⟩
abbrev b_M_area : ByteArray := prog_12_method_29_code
abbrev y_M_area : MethodName := ⟨"KiteLoggerModel", "area", "()I"⟩
abbrev b_M_limit : ByteArray := prog_12_method_30_code
abbrev y_M_limit : MethodName := ⟨"KiteLoggerModel", "limit", "()I"⟩
abbrev b_M_endurance : ByteArray := prog_12_method_31_code
abbrev y_M_endurance : MethodName := ⟨"KiteLoggerModel", "endurance", "()I"⟩
abbrev b_M_wear : ByteArray := prog_12_method_32_code
abbrev y_M_wear : MethodName := ⟨"KiteLoggerModel", "wear", "()I"⟩
abbrev b_M_loadOf : ByteArray := prog_12_method_33_code
abbrev y_M_loadOf : MethodName := ⟨"KiteLoggerModel", "loadOf", "(I)I"⟩
abbrev b_M_flightTime : ByteArray := prog_12_method_34_code
abbrev y_M_flightTime : MethodName := ⟨"KiteLoggerModel", "flightTime", "()I"⟩
abbrev b_M_beaconTime : ByteArray := prog_12_method_35_code
abbrev y_M_beaconTime : MethodName := ⟨"KiteLoggerModel", "beaconTime", "()I"⟩
abbrev b_M_launches : ByteArray := prog_12_method_36_code
abbrev y_M_launches : MethodName := ⟨"KiteLoggerModel", "launches", "()I"⟩
abbrev b_M_snaps : ByteArray := prog_12_method_37_code
abbrev y_M_snaps : MethodName := ⟨"KiteLoggerModel", "snaps", "()I"⟩
abbrev b_M_searches : ByteArray := prog_12_method_38_code
abbrev y_M_searches : MethodName := ⟨"KiteLoggerModel", "searches", "()I"⟩
abbrev b_M_interval : ByteArray := prog_12_method_39_code
abbrev y_M_interval : MethodName := ⟨"KiteLoggerModel", "interval", "()I"⟩
abbrev b_M_loggedCount : ByteArray := prog_12_method_40_code
abbrev y_M_loggedCount : MethodName := ⟨"KiteLoggerModel", "loggedCount", "()I"⟩
abbrev b_M_logged : ByteArray := prog_12_method_41_code
abbrev y_M_logged : MethodName := ⟨"KiteLoggerModel", "logged", "(II)I"⟩
abbrev b_M_loggedTick : ByteArray := prog_12_method_42_code
abbrev y_M_loggedTick : MethodName := ⟨"KiteLoggerModel", "loggedTick", "(I)I"⟩
abbrev b_M_loggedHeight : ByteArray := prog_12_method_43_code
abbrev y_M_loggedHeight : MethodName := ⟨"KiteLoggerModel", "loggedHeight", "(I)I"⟩
abbrev b_M_loggedGust : ByteArray := prog_12_method_44_code
abbrev y_M_loggedGust : MethodName := ⟨"KiteLoggerModel", "loggedGust", "(I)I"⟩
abbrev b_M_droppedCount : ByteArray := prog_12_method_45_code
abbrev y_M_droppedCount : MethodName := ⟨"KiteLoggerModel", "droppedCount", "()I"⟩
abbrev b_M_archivedCount : ByteArray := prog_12_method_46_code
abbrev y_M_archivedCount : MethodName := ⟨"KiteLoggerModel", "archivedCount", "()I"⟩
abbrev b_M_ofArchive : ByteArray := prog_12_method_47_code
abbrev y_M_ofArchive : MethodName := ⟨"KiteLoggerModel", "ofArchive", "(II)I"⟩
abbrev b_M_archived : ByteArray := prog_12_method_48_code
abbrev y_M_archived : MethodName := ⟨"KiteLoggerModel", "archived", "(II)I"⟩
abbrev b_M_archivedTick : ByteArray := prog_12_method_49_code
abbrev y_M_archivedTick : MethodName := ⟨"KiteLoggerModel", "archivedTick", "(I)I"⟩
abbrev b_M_archivedHeight : ByteArray := prog_12_method_50_code
abbrev y_M_archivedHeight : MethodName := ⟨"KiteLoggerModel", "archivedHeight", "(I)I"⟩
abbrev b_M_archivedGust : ByteArray := prog_12_method_51_code
abbrev y_M_archivedGust : MethodName := ⟨"KiteLoggerModel", "archivedGust", "(I)I"⟩
abbrev b_M_countBetween : ByteArray := prog_12_method_52_code
abbrev y_M_countBetween : MethodName := ⟨"KiteLoggerModel", "countBetween", "(II)I"⟩
abbrev b_M_archivedBetween : ByteArray := prog_12_method_53_code
abbrev y_M_archivedBetween : MethodName := ⟨"KiteLoggerModel", "archivedBetween", "(II)I"⟩
abbrev b_M_highestArchived : ByteArray := prog_12_method_54_code
abbrev y_M_highestArchived : MethodName := ⟨"KiteLoggerModel", "highestArchived", "()I"⟩
abbrev b_M_archivedBefore : ByteArray := prog_12_method_55_code
abbrev y_M_archivedBefore : MethodName := ⟨"KiteLoggerModel", "archivedBefore", "(I)I"⟩
abbrev b_M_meanGust : ByteArray := prog_12_method_56_code
abbrev y_M_meanGust : MethodName := ⟨"KiteLoggerModel", "meanGust", "(I)D"⟩
abbrev b_M_archivedShare : ByteArray := prog_12_method_57_code
abbrev y_M_archivedShare : MethodName := ⟨"KiteLoggerModel", "archivedShare", "()F"⟩
abbrev b_M_disorder : ByteArray := prog_12_method_58_code
abbrev y_M_disorder : MethodName := ⟨"KiteLoggerModel", "disorder", "(II)I"⟩
abbrev b_M_gap : ByteArray := prog_12_method_59_code
abbrev y_M_gap : MethodName := ⟨"KiteLoggerModel", "gap", "()I"⟩
abbrev b_M_bufferWind : ByteArray := prog_12_method_60_code
abbrev y_M_bufferWind : MethodName := ⟨"KiteLoggerModel", "bufferWind", "(I)V"⟩
abbrev b_M_snap : ByteArray := prog_12_method_61_code
abbrev y_M_snap : MethodName := ⟨"KiteLoggerModel", "snap", "(I)V"⟩
abbrev b_M_strain : ByteArray := prog_12_method_62_code
abbrev y_M_strain : MethodName := ⟨"KiteLoggerModel", "strain", "(I)V"⟩
abbrev b_M_climb : ByteArray := prog_12_method_63_code
abbrev y_M_climb : MethodName := ⟨"KiteLoggerModel", "climb", "(I)V"⟩
abbrev b_M_makeSample : ByteArray := prog_12_method_64_code
abbrev y_M_makeSample : MethodName := ⟨"KiteLoggerModel", "makeSample", "()V"⟩
abbrev b_M_fly : ByteArray := prog_12_method_65_code
abbrev y_M_fly : MethodName := ⟨"KiteLoggerModel", "fly", "()V"⟩
abbrev b_M_passTick : ByteArray := prog_12_method_66_code
abbrev y_M_passTick : MethodName := ⟨"KiteLoggerModel", "passTick", "()V"⟩
abbrev b_M_pass : ByteArray := prog_12_method_67_code
abbrev y_M_pass : MethodName := ⟨"KiteLoggerModel", "pass", "(I)V"⟩
abbrev b_M_whyNotLaunch : ByteArray := prog_12_method_68_code
abbrev y_M_whyNotLaunch : MethodName := ⟨"KiteLoggerModel", "whyNotLaunch", "()I"⟩
abbrev b_M_launchObstacle : ByteArray := prog_12_method_69_code
abbrev y_M_launchObstacle : MethodName := ⟨"KiteLoggerModel", "launchObstacle", "()I"⟩
abbrev b_M_copy : ByteArray := prog_12_method_70_code
abbrev y_M_copy : MethodName := ⟨"KiteLoggerModel", "copy", "([II[II)V"⟩
abbrev b_M_putAside : ByteArray := prog_12_method_71_code
abbrev y_M_putAside : MethodName := ⟨"KiteLoggerModel", "putAside", "()V"⟩
abbrev b_M_laidBack : ByteArray := prog_12_method_72_code
abbrev y_M_laidBack : MethodName := ⟨"KiteLoggerModel", "laidBack", "(I)I"⟩
abbrev b_M_heightAfter : ByteArray := prog_12_method_73_code
abbrev y_M_heightAfter : MethodName := ⟨"KiteLoggerModel", "heightAfter", "(I)I"⟩
abbrev b_M_untilSnap : ByteArray := prog_12_method_74_code
abbrev y_M_untilSnap : MethodName := ⟨"KiteLoggerModel", "untilSnap", "()I"⟩
abbrev b_M_ticksToSnap : ByteArray := prog_12_method_75_code
abbrev y_M_ticksToSnap : MethodName := ⟨"KiteLoggerModel", "ticksToSnap", "()I"⟩
abbrev b_M_greatestGust : ByteArray := prog_12_method_76_code
abbrev y_M_greatestGust : MethodName := ⟨"KiteLoggerModel", "greatestGust", "()I"⟩
abbrev b_M_safeHeight : ByteArray := prog_12_method_77_code
abbrev y_M_safeHeight : MethodName := ⟨"KiteLoggerModel", "safeHeight", "()I"⟩
abbrev b_M_doLaunch : ByteArray := prog_12_method_78_code
abbrev y_M_doLaunch : MethodName := ⟨"KiteLoggerModel", "doLaunch", "()I"⟩
abbrev b_M_doOut : ByteArray := prog_12_method_79_code
abbrev y_M_doOut : MethodName := ⟨"KiteLoggerModel", "doOut", "(I)I"⟩
abbrev b_M_doIn : ByteArray := prog_12_method_80_code
abbrev y_M_doIn : MethodName := ⟨"KiteLoggerModel", "doIn", "(I)I"⟩
abbrev b_M_doBridle : ByteArray := prog_12_method_81_code
abbrev y_M_doBridle : MethodName := ⟨"KiteLoggerModel", "doBridle", "(II)I"⟩
abbrev b_M_doEvery : ByteArray := prog_12_method_82_code
abbrev y_M_doEvery : MethodName := ⟨"KiteLoggerModel", "doEvery", "(I)I"⟩
abbrev b_M_doSearch : ByteArray := prog_12_method_83_code
abbrev y_M_doSearch : MethodName := ⟨"KiteLoggerModel", "doSearch", "(I)I"⟩
abbrev b_M_doArchive : ByteArray := prog_12_method_84_code
abbrev y_M_doArchive : MethodName := ⟨"KiteLoggerModel", "doArchive", "()I"⟩
abbrev b_M_doWait : ByteArray := prog_12_method_85_code
abbrev y_M_doWait : MethodName := ⟨"KiteLoggerModel", "doWait", "(I)I"⟩
abbrev b_M_keep : ByteArray := prog_12_method_86_code
abbrev y_M_keep : MethodName := ⟨"KiteLoggerModel", "keep", "()V"⟩
abbrev b_M_record : ByteArray := prog_12_method_87_code
abbrev y_M_record : MethodName := ⟨"KiteLoggerModel", "record", "()V"⟩
abbrev b_M_ends : ByteArray := prog_12_method_88_code
abbrev y_M_ends : MethodName := ⟨"KiteLoggerModel", "ends", "(I)I"⟩
abbrev b_M_launch : ByteArray := prog_12_method_89_code
abbrev y_M_launch : MethodName := ⟨"KiteLoggerModel", "launch", "()I"⟩
abbrev b_M_payOut : ByteArray := prog_12_method_90_code
abbrev y_M_payOut : MethodName := ⟨"KiteLoggerModel", "payOut", "(I)I"⟩
abbrev b_M_reelIn : ByteArray := prog_12_method_91_code
abbrev y_M_reelIn : MethodName := ⟨"KiteLoggerModel", "reelIn", "(I)I"⟩
abbrev b_M_replaceBridle : ByteArray := prog_12_method_92_code
abbrev y_M_replaceBridle : MethodName := ⟨"KiteLoggerModel", "replaceBridle", "(II)I"⟩
abbrev b_M_setInterval : ByteArray := prog_12_method_93_code
abbrev y_M_setInterval : MethodName := ⟨"KiteLoggerModel", "setInterval", "(I)I"⟩
abbrev b_M_search : ByteArray := prog_12_method_94_code
abbrev y_M_search : MethodName := ⟨"KiteLoggerModel", "search", "(I)I"⟩
abbrev b_M_archive : ByteArray := prog_12_method_95_code
abbrev y_M_archive : MethodName := ⟨"KiteLoggerModel", "archive", "()I"⟩
abbrev b_M_passTicks : ByteArray := prog_12_method_96_code
abbrev y_M_passTicks : MethodName := ⟨"KiteLoggerModel", "passTicks", "(I)I"⟩
abbrev b_M_write : ByteArray := prog_12_method_97_code
abbrev y_M_write : MethodName := ⟨"KiteLoggerModel", "write", "(I)V"⟩
abbrev b_M_writeNumber : ByteArray := prog_12_method_98_code
abbrev y_M_writeNumber : MethodName := ⟨"KiteLoggerModel", "writeNumber", "(I)V"⟩
abbrev b_M_writeLogger : ByteArray := prog_12_method_99_code
abbrev y_M_writeLogger : MethodName := ⟨"KiteLoggerModel", "writeLogger", "()I"⟩
abbrev b_M_outputByte : ByteArray := prog_12_method_100_code
abbrev y_M_outputByte : MethodName := ⟨"KiteLoggerModel", "outputByte", "(I)I"⟩
abbrev b_M_undoableCount : ByteArray := prog_12_method_101_code
abbrev y_M_undoableCount : MethodName := ⟨"KiteLoggerModel", "undoableCount", "()I"⟩
abbrev b_M_undo : ByteArray := prog_12_method_102_code
abbrev y_M_undo : MethodName := ⟨"KiteLoggerModel", "undo", "()I"⟩
abbrev b_M_saveSnapshot : ByteArray := prog_12_method_103_code
abbrev y_M_saveSnapshot : MethodName := ⟨"KiteLoggerModel", "saveSnapshot", "()V"⟩
abbrev b_M_restoreSnapshot : ByteArray := prog_12_method_104_code
abbrev y_M_restoreSnapshot : MethodName := ⟨"KiteLoggerModel", "restoreSnapshot", "()I"⟩
abbrev b_M_appendText : ByteArray := prog_12_method_105_code
abbrev y_M_appendText : MethodName := ⟨"KiteLoggerModel", "appendText", "(IIIII)I"⟩
abbrev b_M_errorOffset : ByteArray := prog_12_method_106_code
abbrev y_M_errorOffset : MethodName := ⟨"KiteLoggerModel", "errorOffset", "()I"⟩
abbrev b_M_byteAt : ByteArray := prog_12_method_107_code
abbrev y_M_byteAt : MethodName := ⟨"KiteLoggerModel", "byteAt", "(I)I"⟩
abbrev b_M_isLetter : ByteArray := prog_12_method_108_code
abbrev y_M_isLetter : MethodName := ⟨"KiteLoggerModel", "isLetter", "(I)Z"⟩
abbrev b_M_isDigit : ByteArray := prog_12_method_109_code
abbrev y_M_isDigit : MethodName := ⟨"KiteLoggerModel", "isDigit", "(I)Z"⟩
abbrev b_M_scan : ByteArray := prog_12_method_110_code
abbrev y_M_scan : MethodName := ⟨"KiteLoggerModel", "scan", "()V"⟩
abbrev b_M_startText : ByteArray := prog_12_method_111_code
abbrev y_M_startText : MethodName := ⟨"KiteLoggerModel", "startText", "(I)V"⟩
abbrev b_M_finish : ByteArray := prog_12_method_112_code
abbrev y_M_finish : MethodName := ⟨"KiteLoggerModel", "finish", "()I"⟩
abbrev b_M_check : ByteArray := prog_12_method_113_code
abbrev y_M_check : MethodName := ⟨"KiteLoggerModel", "check", "(ZI)V"⟩
abbrev b_M_advance : ByteArray := prog_12_method_114_code
abbrev y_M_advance : MethodName := ⟨"KiteLoggerModel", "advance", "()V"⟩
abbrev b_M_isSymbol : ByteArray := prog_12_method_115_code
abbrev y_M_isSymbol : MethodName := ⟨"KiteLoggerModel", "isSymbol", "(I)Z"⟩
abbrev b_M_isWord : ByteArray := prog_12_method_116_code
abbrev y_M_isWord : MethodName := ⟨"KiteLoggerModel", "isWord", "(Ljava/lang/String;)Z"⟩
abbrev b_M_expect : ByteArray := prog_12_method_118_code
abbrev y_M_expect : MethodName := ⟨"KiteLoggerModel", "expect", "(I)V"⟩
abbrev b_M_value : ByteArray := prog_12_method_119_code
abbrev y_M_value : MethodName := ⟨"KiteLoggerModel", "value", "()I"⟩
abbrev b_M_look : ByteArray := prog_12_method_120_code
abbrev y_M_look : MethodName := ⟨"KiteLoggerModel", "look", "(II)I"⟩
abbrev b_M_readNumber : ByteArray := prog_12_method_121_code
abbrev y_M_readNumber : MethodName := ⟨"KiteLoggerModel", "readNumber", "(II)I"⟩
abbrev b_M_errorCode : ByteArray := prog_12_method_122_code
abbrev y_M_errorCode : MethodName := ⟨"KiteLoggerModel", "errorCode", "()I"⟩
abbrev b_M_isFaulty : ByteArray := prog_12_method_123_code
abbrev y_M_isFaulty : MethodName := ⟨"KiteLoggerModel", "isFaulty", "()Z"⟩
abbrev b_M_isLength : ByteArray := prog_12_method_124_code
abbrev y_M_isLength : MethodName := ⟨"KiteLoggerModel", "isLength", "(I)Z"⟩
abbrev b_M_readGust : ByteArray := prog_12_method_125_code
abbrev y_M_readGust : MethodName := ⟨"KiteLoggerModel", "readGust", "()V"⟩
abbrev b_M_readStation : ByteArray := prog_12_method_126_code
abbrev y_M_readStation : MethodName := ⟨"KiteLoggerModel", "readStation", "()V"⟩
abbrev b_M_loadStation : ByteArray := prog_12_method_127_code
abbrev y_M_loadStation : MethodName := ⟨"KiteLoggerModel", "loadStation", "(I)I"⟩
abbrev b_M_orderHere : ByteArray := prog_12_method_128_code
abbrev y_M_orderHere : MethodName := ⟨"KiteLoggerModel", "orderHere", "()I"⟩
abbrev b_M_readFirst : ByteArray := prog_12_method_129_code
abbrev y_M_readFirst : MethodName := ⟨"KiteLoggerModel", "readFirst", "(I)I"⟩
abbrev b_M_readRepeat : ByteArray := prog_12_method_130_code
abbrev y_M_readRepeat : MethodName := ⟨"KiteLoggerModel", "readRepeat", "(II)V"⟩
abbrev b_M_readOrder : ByteArray := prog_12_method_131_code
abbrev y_M_readOrder : MethodName := ⟨"KiteLoggerModel", "readOrder", "(I)V"⟩
abbrev b_M_does : ByteArray := prog_12_method_132_code
abbrev y_M_does : MethodName := ⟨"KiteLoggerModel", "does", "(I)I"⟩
abbrev b_M_isRepeated : ByteArray := prog_12_method_133_code
abbrev y_M_isRepeated : MethodName := ⟨"KiteLoggerModel", "isRepeated", "(I)Z"⟩
abbrev b_M_areDone : ByteArray := prog_12_method_134_code
abbrev y_M_areDone : MethodName := ⟨"KiteLoggerModel", "areDone", "(II)Z"⟩
abbrev b_M_runScript : ByteArray := prog_12_method_135_code
abbrev y_M_runScript : MethodName := ⟨"KiteLoggerModel", "runScript", "(I)I"⟩
abbrev b_L_loadStation : ByteArray := method_3_code
abbrev y_L_loadStation : MethodName := ⟨"KiteLoggerLaw", "loadStation", "(LKiteLogger;I[J)I"⟩
abbrev b_L_gust : ByteArray := method_4_code
abbrev y_L_gust : MethodName := ⟨"KiteLoggerLaw", "gust", "(LKiteLogger;I[J)I"⟩
abbrev b_L_windAt : ByteArray := method_5_code
abbrev y_L_windAt : MethodName := ⟨"KiteLoggerLaw", "windAt", "(LKiteLogger;I[J)I"⟩
abbrev b_L_loadOf : ByteArray := method_6_code
abbrev y_L_loadOf : MethodName := ⟨"KiteLoggerLaw", "loadOf", "(LKiteLogger;I[J)I"⟩
abbrev b_L_loggedTick : ByteArray := method_7_code
abbrev y_L_loggedTick : MethodName := ⟨"KiteLoggerLaw", "loggedTick", "(LKiteLogger;I[J)I"⟩
abbrev b_L_loggedHeight : ByteArray := method_8_code
abbrev y_L_loggedHeight : MethodName := ⟨"KiteLoggerLaw", "loggedHeight", "(LKiteLogger;I[J)I"⟩
abbrev b_L_loggedGust : ByteArray := method_9_code
abbrev y_L_loggedGust : MethodName := ⟨"KiteLoggerLaw", "loggedGust", "(LKiteLogger;I[J)I"⟩
abbrev b_L_archivedTick : ByteArray := method_10_code
abbrev y_L_archivedTick : MethodName := ⟨"KiteLoggerLaw", "archivedTick", "(LKiteLogger;I[J)I"⟩
abbrev b_L_archivedHeight : ByteArray := method_11_code
abbrev y_L_archivedHeight : MethodName := ⟨"KiteLoggerLaw", "archivedHeight", "(LKiteLogger;I[J)I"⟩
abbrev b_L_archivedGust : ByteArray := method_12_code
abbrev y_L_archivedGust : MethodName := ⟨"KiteLoggerLaw", "archivedGust", "(LKiteLogger;I[J)I"⟩
abbrev b_L_meanGust : ByteArray := method_13_code
abbrev y_L_meanGust : MethodName := ⟨"KiteLoggerLaw", "meanGust", "(LKiteLogger;I[D)I"⟩
abbrev b_L_heightAfter : ByteArray := method_14_code
abbrev y_L_heightAfter : MethodName := ⟨"KiteLoggerLaw", "heightAfter", "(LKiteLogger;I[J)I"⟩
abbrev b_L_launch : ByteArray := method_15_code
abbrev y_L_launch : MethodName := ⟨"KiteLoggerLaw", "launch", "(LKiteLogger;[J)I"⟩
abbrev b_L_payOut : ByteArray := method_16_code
abbrev y_L_payOut : MethodName := ⟨"KiteLoggerLaw", "payOut", "(LKiteLogger;I[J)I"⟩
abbrev b_L_reelIn : ByteArray := method_17_code
abbrev y_L_reelIn : MethodName := ⟨"KiteLoggerLaw", "reelIn", "(LKiteLogger;I[J)I"⟩
abbrev b_L_replaceBridle : ByteArray := method_18_code
abbrev y_L_replaceBridle : MethodName := ⟨"KiteLoggerLaw", "replaceBridle", "(LKiteLogger;II[J)I"⟩
abbrev b_L_setInterval : ByteArray := method_19_code
abbrev y_L_setInterval : MethodName := ⟨"KiteLoggerLaw", "setInterval", "(LKiteLogger;I[J)I"⟩
abbrev b_L_search : ByteArray := method_20_code
abbrev y_L_search : MethodName := ⟨"KiteLoggerLaw", "search", "(LKiteLogger;I[J)I"⟩
abbrev b_L_archive : ByteArray := method_21_code
abbrev y_L_archive : MethodName := ⟨"KiteLoggerLaw", "archive", "(LKiteLogger;[J)I"⟩
abbrev b_L_passTicks : ByteArray := method_22_code
abbrev y_L_passTicks : MethodName := ⟨"KiteLoggerLaw", "passTicks", "(LKiteLogger;I[J)I"⟩
abbrev b_L_runScript : ByteArray := method_23_code
abbrev y_L_runScript : MethodName := ⟨"KiteLoggerLaw", "runScript", "(LKiteLogger;I[J)I"⟩
abbrev b_L_outputByte : ByteArray := method_24_code
abbrev y_L_outputByte : MethodName := ⟨"KiteLoggerLaw", "outputByte", "(LKiteLogger;I[J)I"⟩
abbrev b_L_undo : ByteArray := method_25_code
abbrev y_L_undo : MethodName := ⟨"KiteLoggerLaw", "undo", "(LKiteLogger;[J)I"⟩
abbrev b_L_restoreSnapshot : ByteArray := method_26_code
abbrev y_L_restoreSnapshot : MethodName := ⟨"KiteLoggerLaw", "restoreSnapshot", "(LKiteLogger;[J)I"⟩
end
section
/-! ===== BEGIN exceptions that leave a method, and their catching by the caller (launches without stack traces) ===== -/
section VXA
/-! The laws vx_back, vx_callV, vx_callS, vx_callSW, vx_throw0, vx_throwS follow proofs of the library, with one case more: JvmDerived/Free/Laws.lean (Back.of_free), Shelf42/LK1.lean (callV, callS), Shelf/KitTraced.lean (throwNew0V, throwNewS). -/
/-- where a method has thrown q: the class by its name, the cell, what was written, the world -/
def vx_T (XC : String → State → State → Prop) (st : State) (q : Addr) (t : State) (mc ms : Nat) (free : Addr → Prop) : Prop :=
  ∃ (E : String) (ce : Cell) (L : List Loc), XC E st t ∧ t.heap[q]? = some ce ∧ ce.vm = .none ∧ st.vm.findClass E = some ce.cls ∧ st.WarmedH t.vm ∧ st.sameButNew ({ t with vm := st.vm } : State) L mc ms ∧ ∀ z ∈ L, free z.base
def vx_Q (Qc : Array Value → State → Outcome → State → Prop) (XC : String → State → State → Prop) (mc ms : Nat) (free : Addr → Prop) : Array Value → State → Outcome → State → Prop := fun a st o t =>
  (Qc a st o t ∧ ∃ L, FrameEnd st o t L mc ms ∧ ∀ q ∈ L, free q.base) ∨ ∃ q, o = .threw q ∧ vx_T XC st q t mc ms free
/-- a callee that returns or throws -/
def vx_Met (l : Launch) (y : MethodName) (ws : List Cond) (rm : Room) (Pc : Array Value → State → Prop) (Qc : Array Value → State → Outcome → State → Prop) (XC : String → State → State → Prop) (mc ms : Nat) (free : Addr → Prop) : Prop :=
  MetFree l y (headSpec ws rm) Pc (fun _ _ _ _ _ => True) (vx_Q Qc XC mc ms free)
def vx_Post (XC : String → State → State → Prop) (mc ms : Nat) (free : Addr → Prop) : Pt → Array Value → Addr → Pt → Prop := fun A a q B =>
  ∃ (g : JFrame) (mk : MethodId) (t : State) (L : List Loc) (E : String) (ce : Cell), B.U.heap = t.heap ∧ B.U.vm = t.vm ∧ XC E (A.U.calling g mk a) t ∧ t.heap[q]? = some ce ∧ ce.vm = .none ∧ A.U.vm.findClass E = some ce.cls ∧ B.locs = A.locs ++ L ∧ (∀ z ∈ L, free z.base) ∧ B.cells = A.cells + mc ∧ B.slots = A.slots + ms
def vx_Back (l : Launch) (R : Room) (p : Program) (e : Env) (below : List Frame) (s : State) (sargs : Array Value) (y : MethodName) (len W9 : Nat)
    (Pre : Pt → Array Value → Prop) (Post : Pt → Array Value → Option Value → Pt → Prop) (PostX : Pt → Array Value → Addr → Pt → Prop) : Prop :=
  ∀ (m : MethodId) (meth : Method) (c : Code) (A : Pt) (g : JFrame) (ig : Instr) (mk : MethodId) (a : Array Value),
    Stand p l e R s m sargs below meth c A.U A.locs A.cells A.slots → g.method = m → g.locals.size = c.maxLocals → decode c.code g.pc = .ok (ig, len) →
    2 * g.monitorRoom + (g.stack.map fun v => v.category).sum ≤ W9 → A.U.methodNamed? y = some mk → Pre A a →
    (∃ (v : Option Value) (B : Pt), Stand p l e R s m sargs below meth c B.U B.locs B.cells B.slots ∧ Post A a v B ∧
      Steps p.tables e below (doInvoke e (A.U.setTop g) [] mk a).1 (B.U.setTop { g with pc := g.pc + len, stack := v.toList ++ g.stack })) ∨
    (∃ (q : Addr) (B : Pt), Stand p l e R s m sargs below meth c B.U B.locs B.cells B.slots ∧ PostX A a q B ∧
      Steps p.tables e below (doInvoke e (A.U.setTop g) [] mk a).1 ((B.U.setTop g).pushFrame (.throwing q)))
section Payer
variable {l : Launch} {R : Room} {p : Program} {e : Env} {below : List Frame} {s : State} {sargs : Array Value} {y : MethodName} {len W9 : Nat}
theorem vx_back {ws : List Cond} {rm : Room} {Pc : Array Value → State → Prop} {Qc : Array Value → State → Outcome → State → Prop} {XC : String → State → State → Prop} {mc ms : Nat} {free : Addr → Prop} {bytes : ByteArray} {maxL : Nat} {ret : Option FieldType}
    (hM : vx_Met l y ws rm Pc Qc XC mc ms free) (hblind : FrameBlind Pc) (hrc : rm.cells = mc) (hrs : rm.slots = ms)
    (hframes : rm.frames + 1 ≤ R.frames) (hlocals : W9 + (maxL + 11) + rm.locals ≤ R.locals)
    (hws : ∀ w ∈ ws, ∀ a' U, s.WarmedH U.vm → w.before a' U = true) (hcode : Cond.code y bytes maxL ret ∈ ws) (hinit : ∀ a' U, s.WarmedH U.vm → (Cond.initialized y.cls).before a' U = true) :
    vx_Back l R p e below s sargs y len W9 (PreOf R mc ms Pc) (PostOf Qc mc ms free) (vx_Post XC mc ms free) := by
  intro m meth c A g ig mk a X hg hsize hdg hW hn hp
  have h1 : (headSpec ws rm).pre.before a A.U = true := atoms_intro fun w hw => hws w hw _ _ X.warmed
  have h2 : (Cond.code y bytes maxL ret).before a A.U = true := hws _ hcode _ _ X.warmed
  have h3 : (Cond.initialized y.cls).before a A.U = true := hinit _ _ X.warmed
  have h4 : A.cells + (headSpec ws rm).room.cells ≤ R.cells := by rw [show (headSpec ws rm).room.cells = mc from hrc]; exact hp.1
  have h5 : A.slots + (headSpec ws rm).room.slots ≤ R.slots := by rw [show (headSpec ws rm).room.slots = ms from hrs]; exact hp.2.1
  have hPc : Pc a (A.U.calling g mk a) := hblind _ _ _ _ hp.2.2
  obtain ⟨U, Ls, c0, s0⟩ := A
  dsimp only [Pt.U, Pt.locs, Pt.cells, Pt.slots] at h1 h2 h3 h4 h5 X hn hPc ⊢
  obtain ⟨methY, cY, hmY, hcY, -, hlY, -, -, -, -⟩ := Cond.code_spec hn h2
  obtain ⟨kY, hkY, -⟩ := className_of_methodNamed hn
  have hinitY : kY.init = .initialized := Cond.initialized_spec (findClass_of_methodNamed hn) hkY h3
  have h : At U g.method c below := by rw [hg]; exact X.here
  have hlocals9 : W9 + (maxL + 11) + (headSpec ws rm).room.locals ≤ R.locals := hlocals
  have happ : (headSpec ws rm).appliesLoose y e.platform (U.calling g mk a) = true :=
    Spec.appliesLoose_calling (g := g) h hdg hn hkY hinitY
      (X.room_calling (g := g) (R' := (headSpec ws rm).room) hsize hmY hcY hframes (by rw [hlY]; omega) h4 h5) h1
  obtain ⟨mid, hmid⟩ := h.above
  have hfr : (U.setTop g).frames = (.java g :: mid) ++ below := by rw [State.frames_setTop' g h.top, hmid]; rfl
  obtain ⟨o, s₂, hsteps, -, hend, hq⟩ := Steps.callFree hM p X.admits X.cas X.clock (acts := []) hfr happ hPc trivial
  have hq' : vx_Q Qc XC mc ms free a (U.calling g mk a) o s₂ := hq
  rw [State.frames_setTop' g h.top] at hend
  obtain ⟨g₀, hg0⟩ := Option.isSome_iff_exists.mp h.top
  obtain ⟨r, hr⟩ := State.topJava?_eq_some.mp hg0
  have hr' : (({ U with heap := s₂.heap, slotsUsed := s₂.slotsUsed } : State).setVm s₂.vm).frames = .java g₀ :: r := hr
  rcases hq' with ⟨hqc, L, hfe, hL⟩ | ⟨q, rfl, E, ce, L, hx, hce, hcv, hcl, hW₂, hsm, hL⟩
  · obtain ⟨⟨v, rfl⟩, hW₂, e2, q2, q3, q4, q5, q6⟩ := id hfe
    have e3 : s₂ = ({ (U.calling g mk a).setFrames s₂.frames with heap := s₂.heap, slotsUsed := s₂.slotsUsed } : State).setVm s₂.vm := by
      have : s₂ = ({ s₂ with vm := (U.calling g mk a).vm } : State).setVm s₂.vm := rfl
      rw [e2] at this
      exact this
    obtain ⟨c₂, i₂, len₂, hc₂, hd₂, hf₂⟩ := hend
    have hW' : U.WarmedH s₂.vm := hW₂
    have hcc : c₂ = c := by
      have h1 : s₂.code? g.method = U.code? g.method := by
        rw [State.code?_eq, State.code?_eq, hW'.alike.method?]
      exact Option.some.inj (hc₂.symm.trans (h1.trans h.code))
    subst hcc
    have hlen : len₂ = len := by rw [hdg] at hd₂; cases hd₂; rfl
    subst hlen
    have hs₂ : s₂ = (({ U with heap := s₂.heap, slotsUsed := s₂.slotsUsed } : State).setVm s₂.vm).setTop { g with pc := g.pc + len₂, stack := v.toList ++ g.stack } := by
      refine e3.trans ?_
      rw [hf₂, State.calling_eq h.top, State.setFrames_setFrames, State.setTop_of_frames _ hr', hr]
      rfl
    have hsame : U.sameButNew ({ U with heap := s₂.heap, slotsUsed := s₂.slotsUsed } : State) L mc ms := by
      refine ⟨?_, q2, q3, q4, q5, q6⟩
      obtain ⟨t, ht, -⟩ := State.frames_cons hr
      show ({ U with heap := s₂.heap, slotsUsed := s₂.slotsUsed } : State) = { U.setFrames U.frames with heap := s₂.heap, slotsUsed := s₂.slotsUsed }
      rw [State.setFrames_self ht]
    subst hg
    refine Or.inl ⟨v, ⟨(({ U with heap := s₂.heap, slotsUsed := s₂.slotsUsed } : State).setVm s₂.vm), Ls ++ L, c0 + mc, s0 + ms⟩,
      ⟨X.admits, X.cas, X.clock, X.frames, X.room, X.hears, X.method, X.code, (X.here.setHeapUsed s₂.heap s₂.slotsUsed).setVm hW'.alike, X.tail, State.WarmedH.trans X.warmed hW', X.limits, X.bytes, X.same.trans (hsame.setVm s.vm)⟩,
      ⟨g, mk, s₂, L, rfl, rfl, hqc, rfl, hL, rfl, rfl⟩, ?_⟩
    show Steps p.tables e below _ ((({ U with heap := s₂.heap, slotsUsed := s₂.slotsUsed } : State).setVm s₂.vm).setTop { g with pc := g.pc + len₂, stack := v.toList ++ g.stack })
    rw [← hs₂]
    exact hsteps
  · obtain ⟨e2, q2, q3, q4, q5, q6⟩ := id hsm
    have e3 : s₂ = ({ (U.calling g mk a).setFrames s₂.frames with heap := s₂.heap, slotsUsed := s₂.slotsUsed } : State).setVm s₂.vm := by
      have : s₂ = ({ s₂ with vm := (U.calling g mk a).vm } : State).setVm s₂.vm := rfl
      rw [e2] at this
      exact this
    have hf₂ : s₂.frames = .throwing q :: .java g :: U.frames.tail := hend
    have hW' : U.WarmedH s₂.vm := hW₂
    have hs₂ : s₂ = ((({ U with heap := s₂.heap, slotsUsed := s₂.slotsUsed } : State).setVm s₂.vm).setTop g).pushFrame (.throwing q) := by
      refine e3.trans ?_
      rw [hf₂, State.calling_eq h.top, State.setFrames_setFrames, State.pushFrame, State.frames_setTop _ hr', State.setTop_of_frames _ hr', State.setFrames_setFrames, hr]
      rfl
    have hsame : U.sameButNew ({ U with heap := s₂.heap, slotsUsed := s₂.slotsUsed } : State) L mc ms := by
      refine ⟨?_, q2, q3, q4, q5, q6⟩
      obtain ⟨t, ht, -⟩ := State.frames_cons hr
      show ({ U with heap := s₂.heap, slotsUsed := s₂.slotsUsed } : State) = { U.setFrames U.frames with heap := s₂.heap, slotsUsed := s₂.slotsUsed }
      rw [State.setFrames_self ht]
    subst hg
    refine Or.inr ⟨q, ⟨(({ U with heap := s₂.heap, slotsUsed := s₂.slotsUsed } : State).setVm s₂.vm), Ls ++ L, c0 + mc, s0 + ms⟩,
      ⟨X.admits, X.cas, X.clock, X.frames, X.room, X.hears, X.method, X.code, (X.here.setHeapUsed s₂.heap s₂.slotsUsed).setVm hW'.alike, X.tail, State.WarmedH.trans X.warmed hW', X.limits, X.bytes, X.same.trans (hsame.setVm s.vm)⟩,
      ⟨g, mk, s₂, L, E, ce, rfl, rfl, hx, hce, hcv, hcl, rfl, hL, rfl, rfl⟩, ?_⟩
    show Steps p.tables e below _ (((({ U with heap := s₂.heap, slotsUsed := s₂.slotsUsed } : State).setVm s₂.vm).setTop g).pushFrame (.throwing q))
    rw [← hs₂]
    exact hsteps
end Payer
section Calls
variable {p : Program} {l : Launch} {e : Env} {R : Room} {s : State} {m : MethodId} {args : Array Value} {below : List Frame} {meth : Method} {c : Code} {T : State} {locs : List Loc} {cells slots : Nat}
theorem vx_callV (X : Stand p l e R s m args below meth c T locs cells slots) (hexec : p.tables.exec = Jvm.exec) {own C : String} {index : Nat} {y : MethodName} {bytes : ByteArray} {maxL : Nat} {ret : Option FieldType}
    (hown : s.vm.findClass own = some m.cls) (hlink : (Cond.methodLink own index y).before args s = true) (hinst : (Cond.instanceMethod y).before args s = true) (hsel : (Cond.selects C y y).before args s = true)
    (hcode : (Cond.code y bytes maxL ret).before args s = true) (hy : y.cls ≠ "java/lang/invoke/MethodHandle" ∧ y.cls ≠ "java/lang/invoke/VarHandle")
    {W9 : Nat} {Pre : Pt → Array Value → Prop} {Post : Pt → Array Value → Option Value → Pt → Prop} {PostX : Pt → Array Value → Addr → Pt → Prop} (hK : vx_Back l R p e below s args y 3 W9 Pre Post PostX)
    {b : Addr} {cellB : Cell} (hcell : T.heap[b]? = some cellB) (hobj : cellB.vm.isStatics = false) (hcls : s.vm.findClass C = some cellB.cls)
    {g : JFrame} (hg : g.method = m) (hsize : g.locals.size = c.maxLocals) {argsL rest : List Value} (hlen : ∀ sig, parseMethodDescriptor y.desc = some sig → argsL.length = sig.parameters.length)
    (hstack : g.stack = argsL.reverse ++ .ref b :: rest) (hW : 2 * g.monitorRoom + (rest.map fun v => v.category).sum ≤ W9) (hdg : decode c.code g.pc = .ok (.invokevirtual index, 3))
    (hpre : ∀ vm₁, s.WarmedH vm₁ → Pre ⟨T.setVm vm₁, locs, cells, slots⟩ (Value.ref b :: argsL).toArray) :
    (∃ (v : Option Value) (vm₁ : Vm) (B : Pt), s.WarmedH vm₁ ∧ Stand p l e R s m args below meth c B.U B.locs B.cells B.slots ∧ Post ⟨T.setVm vm₁, locs, cells, slots⟩ (Value.ref b :: argsL).toArray v B ∧
      ∀ target, Steps p.tables e below (B.U.setTop { g with pc := g.pc + 3, stack := v.toList ++ rest }) target → Steps p.tables e below (T.setTop g) target) ∨
    (∃ (q : Addr) (vm₁ : Vm) (B : Pt), s.WarmedH vm₁ ∧ Stand p l e R s m args below meth c B.U B.locs B.cells B.slots ∧ PostX ⟨T.setVm vm₁, locs, cells, slots⟩ (Value.ref b :: argsL).toArray q B ∧
      Steps p.tables e below (T.setTop g) ((B.U.setTop { g with stack := rest }).pushFrame (.throwing q))) := by
  obtain ⟨mk, methM, hnamed, hmethM, hstM, habM⟩ := Cond.instanceMethod_spec hinst
  obtain ⟨methM', cM, hmethM', -, -, -, -, -, -, hsigM⟩ := Cond.code_spec hnamed hcode
  cases hmethM.symm.trans hmethM'
  obtain ⟨c2, r2, m2, q1, q2, q3, q4, kP, hkP, hkPi⟩ := Cond.selects_spec hsel
  cases hcls.symm.trans q1
  cases (State.methodFound?_of_named hnamed hy).symm.trans q2
  cases hnamed.symm.trans q3
  have hselP : selectMethod e.platform s.vm cellB.cls mk = .method mk := by rw [Launch.admits_selectMethod X.admits]; exact q4
  obtain ⟨vm₁, X₁, hstep₁⟩ := X.invokevirtual hexec hown hlink hnamed hmethM hstM hkP hkPi hy (a := b) (cell := cellB) hcell
    (fun z h => by rw [h] at hobj; cases hobj) hselP hmethM habM hkP hkPi (g := g) hg (argsL := argsL) (rest := rest) (hlen _ hsigM) hstack hdg
  rcases hK m meth c ⟨T.setVm vm₁, locs, cells, slots⟩ { g with stack := rest } (.invokevirtual index) mk (Value.ref b :: argsL).toArray X₁ hg hsize hdg hW (X₁.named hnamed) (hpre vm₁ X₁.warmed) with ⟨v, B, X', hpost, hsteps⟩ | ⟨q, B, X', hpost, hsteps⟩
  · exact Or.inl ⟨v, vm₁, B, X₁.warmed, X', hpost, fun target h => hstep₁ _ fun acts => by rw [doInvoke_state]; exact hsteps.trans h⟩
  · exact Or.inr ⟨q, vm₁, B, X₁.warmed, X', hpost, hstep₁ _ fun acts => by rw [doInvoke_state]; exact hsteps⟩
theorem vx_callS (X : Stand p l e R s m args below meth c T locs cells slots) (hexec : p.tables.exec = Jvm.exec) {own : String} {index : Nat} {y : MethodName} {bytes : ByteArray} {maxL : Nat} {ret : Option FieldType}
    (hown : s.vm.findClass own = some m.cls) (hlink : (Cond.methodLink own index y).before args s = true) (hstat : (Cond.static y).before args s = true) (hinit : (Cond.initialized y.cls).before args s = true)
    (hcode : (Cond.code y bytes maxL ret).before args s = true) (hy : y.cls ≠ "java/lang/invoke/MethodHandle" ∧ y.cls ≠ "java/lang/invoke/VarHandle")
    {W9 : Nat} {Pre : Pt → Array Value → Prop} {Post : Pt → Array Value → Option Value → Pt → Prop} {PostX : Pt → Array Value → Addr → Pt → Prop} (hK : vx_Back l R p e below s args y 3 W9 Pre Post PostX)
    {g : JFrame} (hg : g.method = m) (hsize : g.locals.size = c.maxLocals) {argsL rest : List Value} (hlen : ∀ sig, parseMethodDescriptor y.desc = some sig → argsL.length = sig.parameters.length)
    (hstack : g.stack = argsL.reverse ++ rest) (hW : 2 * g.monitorRoom + (rest.map fun v => v.category).sum ≤ W9) (hdg : decode c.code g.pc = .ok (.invokestatic index, 3))
    (hpre : ∀ vm₁, s.WarmedH vm₁ → Pre ⟨T.setVm vm₁, locs, cells, slots⟩ argsL.toArray) :
    (∃ (v : Option Value) (vm₁ : Vm) (B : Pt), s.WarmedH vm₁ ∧ Stand p l e R s m args below meth c B.U B.locs B.cells B.slots ∧ Post ⟨T.setVm vm₁, locs, cells, slots⟩ argsL.toArray v B ∧
      ∀ target, Steps p.tables e below (B.U.setTop { g with pc := g.pc + 3, stack := v.toList ++ rest }) target → Steps p.tables e below (T.setTop g) target) ∨
    (∃ (q : Addr) (vm₁ : Vm) (B : Pt), s.WarmedH vm₁ ∧ Stand p l e R s m args below meth c B.U B.locs B.cells B.slots ∧ PostX ⟨T.setVm vm₁, locs, cells, slots⟩ argsL.toArray q B ∧
      Steps p.tables e below (T.setTop g) ((B.U.setTop { g with stack := rest }).pushFrame (.throwing q))) := by
  obtain ⟨mk, hnamed⟩ := Cond.code_named hcode
  obtain ⟨methM, cM, hmethM, -, -, -, -, -, -, hsigM⟩ := Cond.code_spec hnamed hcode
  have hstatic : methM.isStatic = true := Cond.static_spec hnamed hmethM hstat
  obtain ⟨kP, hkP, -⟩ := className_of_methodNamed hnamed
  have hinitP : kP.init = .initialized := Cond.initialized_spec (findClass_of_methodNamed hnamed) hkP hinit
  obtain ⟨vm₁, X₁, hstep₁⟩ := X.invokestatic hexec hown hlink hnamed hmethM hstatic hkP hinitP hy (g := g) hg (argsL := argsL) (rest := rest) (hlen _ hsigM) hstack hdg
  rcases hK m meth c ⟨T.setVm vm₁, locs, cells, slots⟩ { g with stack := rest } (.invokestatic index) mk argsL.toArray X₁ hg hsize hdg hW (X₁.named hnamed) (hpre vm₁ X₁.warmed) with ⟨v, B, X', hpost, hsteps⟩ | ⟨q, B, X', hpost, hsteps⟩
  · exact Or.inl ⟨v, vm₁, B, X₁.warmed, X', hpost, fun target h => hstep₁ _ fun acts => by rw [doInvoke_state]; exact hsteps.trans h⟩
  · exact Or.inr ⟨q, vm₁, B, X₁.warmed, X', hpost, hstep₁ _ fun acts => by rw [doInvoke_state]; exact hsteps⟩
end Calls
theorem vx_cls {s : State} {T : State} {vm₁ : Vm} {E : String} {k : ClassId} (hW : s.WarmedH vm₁) (h : (T.setVm vm₁).vm.findClass E = some k) : s.vm.findClass E = some k := by
  have h1 : vm₁.findClass E = some k := h
  rw [hW.alike.findClass] at h1
  exact h1
/-- the method's frame g, with q thrown over it -/
def vx_W (p : Program) (l : Launch) (e : Env) (R : Room) (s : State) (m : MethodId) (args : Array Value) (below : List Frame) (meth : Method) (c : Code) (H : Heap) (locs : List Loc) (cells slots : Nat) (Q : State → Prop) (g : JFrame) (q : Addr) : Prop :=
  ∀ T : State, T.heap = H → Stand p l e R s m args below meth c T locs cells slots → ∃ t, Steps p.tables e below ((T.setTop g).pushFrame (.throwing q)) t ∧ Q t
def vx_Run (p : Program) (l : Launch) (e : Env) (R : Room) (s : State) (m : MethodId) (args : Array Value) (below : List Frame) (meth : Method) (c : Code) (H : Heap) (locs : List Loc) (cells slots mc ms : Nat) (g : JFrame) (rest : List Value) (Qa : State → Outcome → State → Prop) (XC : String → State → State → Prop) (free : Addr → Prop) : Prop :=
  ∀ T : State, T.heap = H → Stand p l e R s m args below meth c T locs cells slots →
    (∃ (v : Option Value) (st₀ t T' : State) (L : List Loc), st₀.heap = H ∧ Stand p l e R s m args below meth c T' (locs ++ L) (cells + mc) (slots + ms) ∧ (∀ q ∈ L, free q.base) ∧ T'.heap = t.heap ∧ T'.vm = t.vm ∧ Qa st₀ (.returned v) t ∧
      Goes p e below T g T' { g with pc := g.pc + 3, stack := v.toList ++ rest }) ∨
    (∃ (q : Addr) (st₀ t T' : State) (L : List Loc) (E : String) (ce : Cell), st₀.heap = H ∧ Stand p l e R s m args below meth c T' (locs ++ L) (cells + mc) (slots + ms) ∧ (∀ z ∈ L, free z.base) ∧ T'.heap = t.heap ∧ T'.vm = t.vm ∧ XC E st₀ t ∧ t.heap[q]? = some ce ∧ ce.vm = .none ∧ s.vm.findClass E = some ce.cls ∧
      Steps p.tables e below (T.setTop g) ((T'.setTop { g with stack := rest }).pushFrame (.throwing q)))
def vx_X {S : Type} (px : S → Prop) (B : String → S → State → Prop) (A : Nat → Prop) : String → State → State → Prop := fun E st t => ∃ u : S, px u ∧ B E u t ∧ va_F A st t
section Runs
variable {p : Program} {l : Launch} {e : Env} {R : Room} {s : State} {m : MethodId} {args : Array Value} {below : List Frame} {meth : Method} {c : Code} {H : Heap} {locs : List Loc} {cells slots : Nat}
variable {y : MethodName} {bytes cc : ByteArray} {maxL nL mc ms n index : Nat} {ret : Option FieldType} {ws : List Cond} {rm : Room} {Pc : Array Value → State → Prop} {Qc : Array Value → State → Outcome → State → Prop} {XC : String → State → State → Prop} {free : Addr → Prop} {Ts : List Cond} {own C : String} {b : Addr} {As rest : List Value} {g : JFrame}
theorem vx_callBack (cb : CallB R s args own index y bytes maxL ret ws rm mc ms n) (hM : vx_Met l y ws rm Pc Qc XC mc ms free) (hbl : FrameBlind Pc) : vx_Back l R p e below s args y 3 8 (PreOf R mc ms Pc) (PostOf Qc mc ms free) (vx_Post XC mc ms free) := by
  obtain ⟨hrc, hrs, hfr, hlo, hws, hcw, -, hini, -⟩ := cb
  exact vx_back (bytes := bytes) (maxL := maxL) (ret := ret) hM hbl hrc hrs hfr hlo hws hcw (fun a' U hW => word_at hW (Or.inl (by first | rfl | simp [Cond.onTables, Cond.keeps, Cond.steady])) hini)
theorem vx_runV (S : CallFix p m c cc nL s args Ts own) (hM : vx_Met l y ws rm Pc Qc XC mc ms free) (cw : CallW R s args own C index y bytes maxL ret ws rm mc ms n) (hp : PreV s H C b Pc As)
    (hg : g.method = m) (hn : As.length = n) (hsize : g.locals.size = nL) (hstack : g.stack = As.reverse ++ .ref b :: rest) (hW : 2 * g.monitorRoom + (rest.map fun v => v.category).sum ≤ 8) (hdg : decode cc g.pc = .ok (.invokevirtual index, 3)) (hf : cells + mc ≤ R.cells ∧ slots + ms ≤ R.slots) :
    vx_Run p l e R s m args below meth c H locs cells slots mc ms g rest (Qc (Value.ref b :: As).toArray) XC free := by
  have hK : vx_Back l R p e below s args y 3 8 (PreOf R mc ms Pc) (PostOf Qc mc ms free) (vx_Post XC mc ms free) := vx_callBack cw.1 hM hp.1
  obtain ⟨⟨-, -, -, -, -, -, hcode, -, hy, hlen, hl⟩, hin, hse⟩ := cw
  obtain ⟨hx, hb, hml, ho, -⟩ := S
  obtain ⟨-, ⟨cellB, hcB, hoB, hclB⟩, hPc⟩ := hp
  intro T hT X
  rcases vx_callV X hx (C := C) (bytes := bytes) (maxL := maxL) (ret := ret) ho hl hin hse hcode hy hK (by rw [hT]; exact hcB) hoB hclB hg (hsize.trans hml.symm) (argsL := As) (rest := rest) (fun sig h => hn.trans (hlen sig h)) hstack hW (by rw [hb]; exact hdg)
    (fun vm₁ hW₁ => ⟨hf.1, hf.2, hPc (T.setVm vm₁) hT hW₁⟩) with ⟨v, vm₁, ⟨U', l2, c2, s2⟩, hW₁, X', ⟨g', mk, t, L, e1, e2, hq, h1, hL, h2, h3⟩, st⟩ | ⟨q, vm₁, ⟨U', l2, c2, s2⟩, hW₁, X', ⟨g', mk, t, L, E, ce, e1, e2, hq, hce, hcv, hcl, h1, hL, h2, h3⟩, st⟩
  · dsimp only [Pt.U, Pt.locs, Pt.cells, Pt.slots] at X' e1 e2 h1 h2 h3 st
    subst h1; subst h2; subst h3
    exact Or.inl ⟨v, (T.setVm vm₁).calling g' mk (Value.ref b :: As).toArray, t, U', L, hT, X', hL, e1, e2, hq, st⟩
  · dsimp only [Pt.U, Pt.locs, Pt.cells, Pt.slots] at X' e1 e2 h1 h2 h3 st hcl
    subst h1; subst h2; subst h3
    exact Or.inr ⟨q, (T.setVm vm₁).calling g' mk (Value.ref b :: As).toArray, t, U', L, E, ce, hT, X', hL, e1, e2, hq, hce, hcv, vx_cls hW₁ hcl, st⟩
theorem vx_runS (S : CallFix p m c cc nL s args Ts own) (hM : vx_Met l y ws rm Pc Qc XC mc ms free) (cw : CallB R s args own index y bytes maxL ret ws rm mc ms n ∧ (Cond.static y).before args s = true) (hp : PreS s H Pc As)
    (hg : g.method = m) (hn : As.length = n) (hsize : g.locals.size = nL) (hstack : g.stack = As.reverse ++ rest) (hW : 2 * g.monitorRoom + (rest.map fun v => v.category).sum ≤ 8) (hdg : decode cc g.pc = .ok (.invokestatic index, 3)) (hf : cells + mc ≤ R.cells ∧ slots + ms ≤ R.slots) :
    vx_Run p l e R s m args below meth c H locs cells slots mc ms g rest (Qc As.toArray) XC free := by
  have hK : vx_Back l R p e below s args y 3 8 (PreOf R mc ms Pc) (PostOf Qc mc ms free) (vx_Post XC mc ms free) := vx_callBack cw.1 hM hp.1
  obtain ⟨⟨-, -, -, -, -, -, hcode, hini, hy, hlen, hl⟩, hstt⟩ := cw
  obtain ⟨hx, hb, hml, ho, -⟩ := S
  intro T hT X
  rcases vx_callS X hx (bytes := bytes) (maxL := maxL) (ret := ret) ho hl hstt hini hcode hy hK hg (hsize.trans hml.symm) (argsL := As) (rest := rest) (fun sig h => hn.trans (hlen sig h)) hstack hW (by rw [hb]; exact hdg)
    (fun vm₁ hW₁ => ⟨hf.1, hf.2, hp.2 (T.setVm vm₁) hT hW₁⟩) with ⟨v, vm₁, ⟨U', l2, c2, s2⟩, hW₁, X', ⟨g', mk, t, L, e1, e2, hq, h1, hL, h2, h3⟩, st⟩ | ⟨q, vm₁, ⟨U', l2, c2, s2⟩, hW₁, X', ⟨g', mk, t, L, E, ce, e1, e2, hq, hce, hcv, hcl, h1, hL, h2, h3⟩, st⟩
  · dsimp only [Pt.U, Pt.locs, Pt.cells, Pt.slots] at X' e1 e2 h1 h2 h3 st
    subst h1; subst h2; subst h3
    exact Or.inl ⟨v, (T.setVm vm₁).calling g' mk As.toArray, t, U', L, hT, X', hL, e1, e2, hq, st⟩
  · dsimp only [Pt.U, Pt.locs, Pt.cells, Pt.slots] at X' e1 e2 h1 h2 h3 st hcl
    subst h1; subst h2; subst h3
    exact Or.inr ⟨q, (T.setVm vm₁).calling g' mk As.toArray, t, U', L, E, ce, hT, X', hL, e1, e2, hq, hce, hcv, vx_cls hW₁ hcl, st⟩
end Runs
section Rows
variable {p : Program} {l : Launch} {e : Env} {R : Room} {s : State} {m : MethodId} {args : Array Value} {below : List Frame} {meth : Method} {c : Code} {H : Heap} {locs : List Loc} {cells slots : Nat} {Q : State → Prop}
variable {mc ms : Nat} {free : Addr → Prop} {A0 A1 : Nat → Prop} {H0 : Heap} {a : Array Value} {pc : Nat} {ls : Array Slot} {st0 rest : List Value}
theorem vx_keep {st₀ t T' : State} {L : List Loc} (h0 : st₀.heap = H) (e1 : T'.heap = t.heap) (hS : va_S A0 H0 H locs) (hA : ∀ q, q < H.size → A1 q → A0 q) (hf : ∀ q, free q → A0 q) (hL : ∀ q ∈ L, free q.base) (hF : va_F A1 st₀ t) :
    H.size ≤ T'.heap.size ∧ (∀ q : Nat, q < H.size → ¬ A1 q → T'.heap[q]? = H[q]?) ∧ va_S A0 H0 T'.heap (locs ++ L) := by
  obtain ⟨hz, hk⟩ := hF
  rw [h0] at hz hk
  exact ⟨by rw [e1]; exact hz, fun q h1 h2 => by rw [e1]; exact hk q h1 h2,
    ⟨Nat.le_trans hS.1 (by rw [e1]; exact hz), fun q h1 h2 => by rw [e1, hk q (Nat.lt_of_lt_of_le h1 hS.1) (fun z => h2 (hA q (Nat.lt_of_lt_of_le h1 hS.1) z))]; exact hS.2.1 q h1 h2, fun q hq => by
      rcases List.mem_append.mp hq with h | h
      · exact hS.2.2 q h
      · exact hf _ (hL q h)⟩⟩
theorem vx_calli {S SX : Type} {post : Int32 → S → Prop} {px : SX → Prop} {B : S → State → Prop} {BX : String → SX → State → Prop} {AX : Nat → Prop} (hr : vx_Run p l e R s m args below meth c H locs cells slots mc ms (F0 m pc ls st0) rest (va_Qi post B A1 a) (vx_X px BX AX) free) (hS : va_S A0 H0 H locs) (hA : ∀ q, q < H.size → A1 q → A0 q) (hf : ∀ q, free q → A0 q) (hAX : ∀ q, q < H.size → AX q → A0 q)
    (kx : ∀ (E : String) (ce : Cell) (q9 : Addr) (u : SX) (t : State) (H1 : Heap) (locs1 : List Loc), t.heap = H1 → s.vm.Alike t.vm → px u → BX E u t → H.size ≤ H1.size → (∀ q : Nat, q < H.size → ¬ AX q → H1[q]? = H[q]?) → va_S A0 H0 H1 locs1 → H1[q9]? = some ce → ce.vm = .none → s.vm.findClass E = some ce.cls → vx_W p l e R s m args below meth c H1 locs1 (cells + mc) (slots + ms) Q (F0 m pc ls rest) q9)
    (kk : ∀ (r : Int32) (u : S) (t : State) (H1 : Heap) (locs1 : List Loc), t.heap = H1 → s.vm.Alike t.vm → post r u → B u t → H.size ≤ H1.size → (∀ q : Nat, q < H.size → ¬ A1 q → H1[q]? = H[q]?) → va_S A0 H0 H1 locs1 → W p l e R s m args below meth c H1 locs1 (cells + mc) (slots + ms) Q (F0 m (pc + 3) ls (.int r :: rest))) : W p l e R s m args below meth c H locs cells slots Q (F0 m pc ls st0) := by
  intro T hT X
  rcases hr T hT X with ⟨v, st₀, t, T', L, h0, X', hL, e1, e2, ⟨⟨r, u, hv, hp, hb⟩, hF⟩, st⟩ | ⟨q, st₀, t, T', L, E, ce, h0, X', hL, e1, e2, ⟨u, hp, hb, hF⟩, hce, hcv, hcl, st⟩
  · cases hv
    obtain ⟨k1, k2, k3⟩ := vx_keep h0 e1 hS hA hf hL hF
    obtain ⟨t2, a1, b1⟩ := kk r u t T'.heap (locs ++ L) e1.symm (by rw [← e2]; exact X'.warmed.alike) hp hb k1 k2 k3 T' rfl X'
    exact ⟨t2, st t2 a1, b1⟩
  · obtain ⟨k1, k2, k3⟩ := vx_keep h0 e1 hS hAX hf hL hF
    obtain ⟨t2, a1, b1⟩ := kx E ce q u t T'.heap (locs ++ L) e1.symm (by rw [← e2]; exact X'.warmed.alike) hp hb k1 k2 k3 (by rw [e1]; exact hce) hcv hcl T' rfl X'
    exact ⟨t2, st.trans a1, b1⟩
theorem vx_calll {S SX : Type} {post : Int64 → S → Prop} {px : SX → Prop} {B : S → State → Prop} {BX : String → SX → State → Prop} {AX : Nat → Prop} (hr : vx_Run p l e R s m args below meth c H locs cells slots mc ms (F0 m pc ls st0) rest (va_Ql post B A1 a) (vx_X px BX AX) free) (hS : va_S A0 H0 H locs) (hA : ∀ q, q < H.size → A1 q → A0 q) (hf : ∀ q, free q → A0 q) (hAX : ∀ q, q < H.size → AX q → A0 q)
    (kx : ∀ (E : String) (ce : Cell) (q9 : Addr) (u : SX) (t : State) (H1 : Heap) (locs1 : List Loc), t.heap = H1 → s.vm.Alike t.vm → px u → BX E u t → H.size ≤ H1.size → (∀ q : Nat, q < H.size → ¬ AX q → H1[q]? = H[q]?) → va_S A0 H0 H1 locs1 → H1[q9]? = some ce → ce.vm = .none → s.vm.findClass E = some ce.cls → vx_W p l e R s m args below meth c H1 locs1 (cells + mc) (slots + ms) Q (F0 m pc ls rest) q9)
    (kk : ∀ (r : Int64) (u : S) (t : State) (H1 : Heap) (locs1 : List Loc), t.heap = H1 → s.vm.Alike t.vm → post r u → B u t → H.size ≤ H1.size → (∀ q : Nat, q < H.size → ¬ A1 q → H1[q]? = H[q]?) → va_S A0 H0 H1 locs1 → W p l e R s m args below meth c H1 locs1 (cells + mc) (slots + ms) Q (F0 m (pc + 3) ls (.long r :: rest))) : W p l e R s m args below meth c H locs cells slots Q (F0 m pc ls st0) := by
  intro T hT X
  rcases hr T hT X with ⟨v, st₀, t, T', L, h0, X', hL, e1, e2, ⟨⟨r, u, hv, hp, hb⟩, hF⟩, st⟩ | ⟨q, st₀, t, T', L, E, ce, h0, X', hL, e1, e2, ⟨u, hp, hb, hF⟩, hce, hcv, hcl, st⟩
  · cases hv
    obtain ⟨k1, k2, k3⟩ := vx_keep h0 e1 hS hA hf hL hF
    obtain ⟨t2, a1, b1⟩ := kk r u t T'.heap (locs ++ L) e1.symm (by rw [← e2]; exact X'.warmed.alike) hp hb k1 k2 k3 T' rfl X'
    exact ⟨t2, st t2 a1, b1⟩
  · obtain ⟨k1, k2, k3⟩ := vx_keep h0 e1 hS hAX hf hL hF
    obtain ⟨t2, a1, b1⟩ := kx E ce q u t T'.heap (locs ++ L) e1.symm (by rw [← e2]; exact X'.warmed.alike) hp hb k1 k2 k3 (by rw [e1]; exact hce) hcv hcl T' rfl X'
    exact ⟨t2, st.trans a1, b1⟩
theorem vx_callf {S SX : Type} {post : UInt32 → S → Prop} {px : SX → Prop} {B : S → State → Prop} {BX : String → SX → State → Prop} {AX : Nat → Prop} (hr : vx_Run p l e R s m args below meth c H locs cells slots mc ms (F0 m pc ls st0) rest (va_Qf post B A1 a) (vx_X px BX AX) free) (hS : va_S A0 H0 H locs) (hA : ∀ q, q < H.size → A1 q → A0 q) (hf : ∀ q, free q → A0 q) (hAX : ∀ q, q < H.size → AX q → A0 q)
    (kx : ∀ (E : String) (ce : Cell) (q9 : Addr) (u : SX) (t : State) (H1 : Heap) (locs1 : List Loc), t.heap = H1 → s.vm.Alike t.vm → px u → BX E u t → H.size ≤ H1.size → (∀ q : Nat, q < H.size → ¬ AX q → H1[q]? = H[q]?) → va_S A0 H0 H1 locs1 → H1[q9]? = some ce → ce.vm = .none → s.vm.findClass E = some ce.cls → vx_W p l e R s m args below meth c H1 locs1 (cells + mc) (slots + ms) Q (F0 m pc ls rest) q9)
    (kk : ∀ (r : UInt32) (u : S) (t : State) (H1 : Heap) (locs1 : List Loc), t.heap = H1 → s.vm.Alike t.vm → post r u → B u t → H.size ≤ H1.size → (∀ q : Nat, q < H.size → ¬ A1 q → H1[q]? = H[q]?) → va_S A0 H0 H1 locs1 → W p l e R s m args below meth c H1 locs1 (cells + mc) (slots + ms) Q (F0 m (pc + 3) ls (.float r :: rest))) : W p l e R s m args below meth c H locs cells slots Q (F0 m pc ls st0) := by
  intro T hT X
  rcases hr T hT X with ⟨v, st₀, t, T', L, h0, X', hL, e1, e2, ⟨⟨r, u, hv, hp, hb⟩, hF⟩, st⟩ | ⟨q, st₀, t, T', L, E, ce, h0, X', hL, e1, e2, ⟨u, hp, hb, hF⟩, hce, hcv, hcl, st⟩
  · cases hv
    obtain ⟨k1, k2, k3⟩ := vx_keep h0 e1 hS hA hf hL hF
    obtain ⟨t2, a1, b1⟩ := kk r u t T'.heap (locs ++ L) e1.symm (by rw [← e2]; exact X'.warmed.alike) hp hb k1 k2 k3 T' rfl X'
    exact ⟨t2, st t2 a1, b1⟩
  · obtain ⟨k1, k2, k3⟩ := vx_keep h0 e1 hS hAX hf hL hF
    obtain ⟨t2, a1, b1⟩ := kx E ce q u t T'.heap (locs ++ L) e1.symm (by rw [← e2]; exact X'.warmed.alike) hp hb k1 k2 k3 (by rw [e1]; exact hce) hcv hcl T' rfl X'
    exact ⟨t2, st.trans a1, b1⟩
theorem vx_calld {S SX : Type} {post : UInt64 → S → Prop} {px : SX → Prop} {B : S → State → Prop} {BX : String → SX → State → Prop} {AX : Nat → Prop} (hr : vx_Run p l e R s m args below meth c H locs cells slots mc ms (F0 m pc ls st0) rest (va_Qd post B A1 a) (vx_X px BX AX) free) (hS : va_S A0 H0 H locs) (hA : ∀ q, q < H.size → A1 q → A0 q) (hf : ∀ q, free q → A0 q) (hAX : ∀ q, q < H.size → AX q → A0 q)
    (kx : ∀ (E : String) (ce : Cell) (q9 : Addr) (u : SX) (t : State) (H1 : Heap) (locs1 : List Loc), t.heap = H1 → s.vm.Alike t.vm → px u → BX E u t → H.size ≤ H1.size → (∀ q : Nat, q < H.size → ¬ AX q → H1[q]? = H[q]?) → va_S A0 H0 H1 locs1 → H1[q9]? = some ce → ce.vm = .none → s.vm.findClass E = some ce.cls → vx_W p l e R s m args below meth c H1 locs1 (cells + mc) (slots + ms) Q (F0 m pc ls rest) q9)
    (kk : ∀ (r : UInt64) (u : S) (t : State) (H1 : Heap) (locs1 : List Loc), t.heap = H1 → s.vm.Alike t.vm → post r u → B u t → H.size ≤ H1.size → (∀ q : Nat, q < H.size → ¬ A1 q → H1[q]? = H[q]?) → va_S A0 H0 H1 locs1 → W p l e R s m args below meth c H1 locs1 (cells + mc) (slots + ms) Q (F0 m (pc + 3) ls (.double r :: rest))) : W p l e R s m args below meth c H locs cells slots Q (F0 m pc ls st0) := by
  intro T hT X
  rcases hr T hT X with ⟨v, st₀, t, T', L, h0, X', hL, e1, e2, ⟨⟨r, u, hv, hp, hb⟩, hF⟩, st⟩ | ⟨q, st₀, t, T', L, E, ce, h0, X', hL, e1, e2, ⟨u, hp, hb, hF⟩, hce, hcv, hcl, st⟩
  · cases hv
    obtain ⟨k1, k2, k3⟩ := vx_keep h0 e1 hS hA hf hL hF
    obtain ⟨t2, a1, b1⟩ := kk r u t T'.heap (locs ++ L) e1.symm (by rw [← e2]; exact X'.warmed.alike) hp hb k1 k2 k3 T' rfl X'
    exact ⟨t2, st t2 a1, b1⟩
  · obtain ⟨k1, k2, k3⟩ := vx_keep h0 e1 hS hAX hf hL hF
    obtain ⟨t2, a1, b1⟩ := kx E ce q u t T'.heap (locs ++ L) e1.symm (by rw [← e2]; exact X'.warmed.alike) hp hb k1 k2 k3 (by rw [e1]; exact hce) hcv hcl T' rfl X'
    exact ⟨t2, st.trans a1, b1⟩
theorem vx_callv {S SX : Type} {post : S → Prop} {px : SX → Prop} {B : S → State → Prop} {BX : String → SX → State → Prop} {AX : Nat → Prop} (hr : vx_Run p l e R s m args below meth c H locs cells slots mc ms (F0 m pc ls st0) rest (va_Qv post B A1 a) (vx_X px BX AX) free) (hS : va_S A0 H0 H locs) (hA : ∀ q, q < H.size → A1 q → A0 q) (hf : ∀ q, free q → A0 q) (hAX : ∀ q, q < H.size → AX q → A0 q)
    (kx : ∀ (E : String) (ce : Cell) (q9 : Addr) (u : SX) (t : State) (H1 : Heap) (locs1 : List Loc), t.heap = H1 → s.vm.Alike t.vm → px u → BX E u t → H.size ≤ H1.size → (∀ q : Nat, q < H.size → ¬ AX q → H1[q]? = H[q]?) → va_S A0 H0 H1 locs1 → H1[q9]? = some ce → ce.vm = .none → s.vm.findClass E = some ce.cls → vx_W p l e R s m args below meth c H1 locs1 (cells + mc) (slots + ms) Q (F0 m pc ls rest) q9)
    (kk : ∀ (u : S) (t : State) (H1 : Heap) (locs1 : List Loc), t.heap = H1 → s.vm.Alike t.vm → post u → B u t → H.size ≤ H1.size → (∀ q : Nat, q < H.size → ¬ A1 q → H1[q]? = H[q]?) → va_S A0 H0 H1 locs1 → W p l e R s m args below meth c H1 locs1 (cells + mc) (slots + ms) Q (F0 m (pc + 3) ls (rest))) : W p l e R s m args below meth c H locs cells slots Q (F0 m pc ls st0) := by
  intro T hT X
  rcases hr T hT X with ⟨v, st₀, t, T', L, h0, X', hL, e1, e2, ⟨⟨u, hv, hp, hb⟩, hF⟩, st⟩ | ⟨q, st₀, t, T', L, E, ce, h0, X', hL, e1, e2, ⟨u, hp, hb, hF⟩, hce, hcv, hcl, st⟩
  · cases hv
    obtain ⟨k1, k2, k3⟩ := vx_keep h0 e1 hS hA hf hL hF
    obtain ⟨t2, a1, b1⟩ := kk u t T'.heap (locs ++ L) e1.symm (by rw [← e2]; exact X'.warmed.alike) hp hb k1 k2 k3 T' rfl X'
    exact ⟨t2, st t2 a1, b1⟩
  · obtain ⟨k1, k2, k3⟩ := vx_keep h0 e1 hS hAX hf hL hF
    obtain ⟨t2, a1, b1⟩ := kx E ce q u t T'.heap (locs ++ L) e1.symm (by rw [← e2]; exact X'.warmed.alike) hp hb k1 k2 k3 (by rw [e1]; exact hce) hcv hcl T' rfl X'
    exact ⟨t2, st.trans a1, b1⟩
/-- caught by the row x of this method's table; the rows ahead don't take it -/
theorem vx_catch {own name : String} {E : String} {ce : Cell} {q : Addr} (hown : s.vm.findClass own = some m.cls) (pre : List ExceptionTableEntry) (x : ExceptionTableEntry) (suf : List ExceptionTableEntry) (hsplit : c.exceptionTable.toList = pre ++ x :: suf)
    (hpass : ∀ z ∈ pre, covers z pc = false ∨ (z.catchType ≠ 0 ∧ ∃ nm : String, (Cond.classLink own z.catchType nm).before args s = true ∧ va_Nc E nm s)) (hx : covers x pc = true) (h0 : x.catchType ≠ 0)
    (hlink : (Cond.classLink own x.catchType name).before args s = true) (hcast : (Cond.castable E name).before args s = true) (hcell : H[q]? = some ce) (hv : ce.vm = .none) (hcl : s.vm.findClass E = some ce.cls)
    (kk : W p l e R s m args below meth c H locs cells slots Q (F0 m x.handlerPc ls [.ref q])) : vx_W p l e R s m args below meth c H locs cells slots Q (F0 m pc ls rest) q := by
  intro T hT X
  have hpl : e.platform.magicAccessors = ({} : Platform).magicAccessors := by rw [X.admits.platform]
  obtain ⟨c3, c4, hc3, hc4, hasg⟩ := Cond.castable_spec hcast
  cases Option.some.inj (hc3.symm.trans hcl)
  obtain ⟨c5, hc5, hcl5⟩ := Cond.classLink_spec hown hlink e.platform hpl
  cases Option.some.inj (hc4.symm.trans hc5)
  obtain ⟨vm', X', st⟩ := X.thenCaughtThrough q (g := F0 m pc ls rest) rfl (Steps.refl _) (by rw [hT]; exact hcell) (by rw [hv]; rfl) (by obtain ⟨k9, h9, -⟩ := Vm.findClass_spec hcl; exact ⟨k9, h9⟩) pre x suf hsplit
    (fun z hz => by
      rcases hpass z hz with h | ⟨hz0, nm, hl1, hn1⟩
      · exact Or.inl h
      · obtain ⟨c6, hc6, hcl6⟩ := Cond.classLink_spec hown hl1 e.platform hpl
        obtain ⟨a8, b8, h1, h2, h3⟩ := hn1
        cases Option.some.inj (h1.symm.trans hcl)
        cases Option.some.inj (h2.symm.trans hc6)
        exact Or.inr ⟨hz0, _, hcl6, h3⟩) hx (Or.inr ⟨h0, c4, hcl5, hasg⟩)
  obtain ⟨t, a1, b1⟩ := kk (T.setVm vm') hT X'
  exact ⟨t, st.trans a1, b1⟩
end Rows
section Ends
variable {p : Program} {l : Launch} {e : Env} {R : Room} {s : State} {m : MethodId} {args : Array Value} {below : List Frame} {meth : Method} {c : Code} {H : Heap} {locs : List Loc} {cells slots : Nat} {Q : State → Prop}
variable {mc ms : Nat} {free : Addr → Prop} {A0 A1 : Nat → Prop} {H0 : Heap} {a : Array Value} {ls : Array Slot} {st0 rest : List Value}
variable {Qc : Array Value → State → Outcome → State → Prop} {XC : String → State → State → Prop}
/-- what a body that may throw owes at its end -/
def vx_MQ (below : List Frame) (Qc : Array Value → State → Outcome → State → Prop) (XC : String → State → State → Prop) (a : Array Value) (s : State) (mc ms : Nat) (free : Addr → Prop) : State → Prop := fun t =>
  ∃ o, t.status = .running ∧ Ended t below o ∧ vx_Q Qc XC mc ms free a s o t
theorem vx_ret {g : JFrame} {mc ms : Nat} (k : W p l e R s m args below meth c H locs cells slots (MQ below Qc args s mc ms free) g) : W p l e R s m args below meth c H locs cells slots (vx_MQ below Qc XC args s mc ms free) g := by
  intro T hT X
  obtain ⟨t, a1, o, b1, b2, b3, b4⟩ := k T hT X
  exact ⟨t, a1, o, b1, b2, Or.inl ⟨b3, b4⟩⟩
/-- not caught here: it goes on to the caller -/
theorem vx_widen {g : JFrame} {q : Addr} {k n : Nat} (h1 : cells ≤ k) (h2 : slots ≤ n) (kk : vx_W p l e R s m args below meth c H locs k n Q g q) : vx_W p l e R s m args below meth c H locs cells slots Q g q := fun T hT X => kk T hT (stand_widen X h1 h2)
theorem vx_out {pc : Nat} {E : String} {ce : Cell} {q : Addr} {mc ms : Nat} (hout : ∀ x ∈ c.exceptionTable.toList, covers x pc = false) (hlocks : meth.locks = false) (hcell : H[q]? = some ce) (hv : ce.vm = .none) (hcl : s.vm.findClass E = some ce.cls)
    (hx : ∀ t : State, t.heap = H → s.vm.Alike t.vm → XC E s t) (hf : ∀ z ∈ locs, free z.base) (hc : cells ≤ mc) (hs : slots ≤ ms) :
    vx_W p l e R s m args below meth c H locs cells slots (vx_MQ below Qc XC args s mc ms free) (F0 m pc ls rest) q := by
  intro T hT X
  obtain ⟨st1, hrun, hend, hW, hsm⟩ := X.leaveThrown q (g := F0 m pc ls rest) rfl rfl rfl hout hlocks
  have hcell9 : (T.setFrames (.throwing q :: below)).heap[q]? = some ce := by
    show T.heap[q]? = some ce
    rw [hT]; exact hcell
  exact ⟨_, st1, .threw q, hrun, hend, Or.inr ⟨q, rfl, E, ce, locs, hx _ hT hW.alike, hcell9, hv, hcl, hW, hsm.mono hc hs, hf⟩⟩
theorem vx_frame {U : State} {k n : Nat} (h : s.sameButNew ({ U with vm := s.vm } : State) locs k n) : s.heap.size ≤ U.heap.size ∧ ∀ q : Nat, q < s.heap.size → (∀ z ∈ locs, z.base ≠ q) → U.heap[q]? = s.heap[q]? := by
  obtain ⟨-, h2, -, -, -, h6⟩ := h
  refine ⟨h2, fun q hq hz => ?_⟩
  obtain ⟨c9, e1, e2, e3, e4⟩ := h6 q _ (Array.getElem?_eq_getElem hq)
  have hs : c9.slots = (s.heap[q]).slots := Array.ext_getElem? fun i => e4 i fun hm => hz _ hm rfl
  have h9 : c9 = s.heap[q] := by
    rw [hs] at e2
    exact e2
  have e5 : U.heap[q]? = some c9 := e1
  rw [e5, h9, Array.getElem?_eq_getElem hq]
/-- the words of a throw but the four that speak of the heap -/
def vx_no (w : Cond) : Bool := decide (w ≠ .isRef (.static Bundle.tN "UNASSIGNED_STACK" Bundle.steD)) && decide (w ≠ .isRef (.static Bundle.tN "SUPPRESSED_SENTINEL" Bundle.listD)) && decide (w ≠ .laysStatic Bundle.tN "UNASSIGNED_STACK" Bundle.steD) && decide (w ≠ .laysStatic Bundle.tN "SUPPRESSED_SENTINEL" Bundle.listD)
def vx_at0 (own : String) (ic : Nat) (X : String) (names : List String) : List Cond := (Bundle.ownAtoms0 own ic X names).filter vx_no
def vx_atS (own : String) (ic : Nat) (X : String) (names : List String) : List Cond := (Bundle.ownAtoms own ic X names).filter vx_no
/-- a word that the tables alone decide, or a good one -/
def vx_ot (w : Cond) : Bool := w.onTables || goodWord w
theorem vx_ot_at {args a' : Array Value} {s U : State} {w : Cond} (hW : s.WarmedH U.vm) (hvm : s.vm = U.vm) (hg : vx_ot w = true) (h : w.before args s = true) : w.before a' U = true := by
  simp only [vx_ot, Bool.or_eq_true] at hg
  rcases hg with hg | hg
  · exact va_tabs hg hvm h
  · exact word_at hW (good_of_word hg) h
/-- a list's words: the good ones out of the method's own list, the others by premises of their own -/
theorem vx_hat {args : Array Value} {s : State} {L B : List Cond} (h1 : ∀ w ∈ L.filter goodWord, w.before args s = true) (h2 : ∀ w ∈ L.filter (fun w => !goodWord w), w ∈ B) (h3 : ∀ w ∈ B, w.before args s = true) : ∀ w ∈ L, w.before args s = true := by
  intro w hw
  by_cases g : goodWord w = true
  · exact h1 w (List.mem_filter.mpr ⟨hw, g⟩)
  · refine h3 w (h2 w (List.mem_filter.mpr ⟨hw, ?_⟩))
    show (!goodWord w) = true
    cases hgw : goodWord w
    · rfl
    · exact absurd hgw g
theorem vx_c {args : Array Value} {s : State} {w : Cond} {B : List Cond} (h : w.before args s = true) (t : ∀ w ∈ B, w.before args s = true) : ∀ w' ∈ w :: B, w'.before args s = true := fun w' h' => (List.mem_cons.mp h').elim (fun e => by rw [e]; exact h) (t w')
theorem vx_n {args : Array Value} {s : State} : ∀ w ∈ ([] : List Cond), w.before args s = true := fun _ h => nomatch h
theorem vx_own {args : Array Value} {s : State} {L : List Cond} (h1 : ∀ w ∈ L.filter vx_no, w.before args s = true)
    (hU : (Cond.isRef (.static Bundle.tN "UNASSIGNED_STACK" Bundle.steD)).before args s = true) (hN : (Cond.isRef (.static Bundle.tN "SUPPRESSED_SENTINEL" Bundle.listD)).before args s = true)
    (lU : (Cond.laysStatic Bundle.tN "UNASSIGNED_STACK" Bundle.steD).before args s = true) (lN : (Cond.laysStatic Bundle.tN "SUPPRESSED_SENTINEL" Bundle.listD).before args s = true) : ∀ w ∈ L, w.before args s = true := by
  intro w hw
  by_cases e1 : w = .isRef (.static Bundle.tN "UNASSIGNED_STACK" Bundle.steD)
  · rw [e1]; exact hU
  · by_cases e2 : w = .isRef (.static Bundle.tN "SUPPRESSED_SENTINEL" Bundle.listD)
    · rw [e2]; exact hN
    · by_cases e3 : w = .laysStatic Bundle.tN "UNASSIGNED_STACK" Bundle.steD
      · rw [e3]; exact lU
      · by_cases e4 : w = .laysStatic Bundle.tN "SUPPRESSED_SENTINEL" Bundle.listD
        · rw [e4]; exact lN
        · exact h1 w (List.mem_filter.mpr ⟨hw, by unfold vx_no; rw [decide_eq_true e1, decide_eq_true e2, decide_eq_true e3, decide_eq_true e4]; rfl⟩)
/-- where a static field lies, its class's statics cell in H -/
def vx_L (C n d : String) (A : Nat → Prop) (U : State) (H : Heap) : Prop := ∃ (c : ClassId) (k : Class) (i : Nat) (f : Field) (a : Nat) (cell : Cell), U.vm.findClass C = some c ∧ U.fieldFound? C n d = some (c, k, i, f) ∧ f.isStatic = true ∧ k.statics = some a ∧ H[a]? = some cell ∧ cell.vm.isStatics = true ∧ cell.cls = c ∧ f.slot < cell.slots.size ∧ k.staticTypes[f.slot]? = some f.type ∧ ¬ A a
theorem vx_L.moved {C n d : String} {A : Nat → Prop} {u U : State} {H : Heap} (hvm : u.vm.Alike U.vm) (h : vx_L C n d A u H) : vx_L C n d A U H := by
  obtain ⟨c, k, i, f, a, cell, h1, h2, h3, h4, h5, h6, h7, h8, h9, h10⟩ := h
  obtain ⟨k', hi', he⟩ := State.fieldFound?_setVm hvm h2
  exact ⟨c, k', i, f, a, cell, by rw [hvm.findClass]; exact h1, hi', h3, by rw [he]; exact h4, h5, h6, h7, h8, by rw [he]; exact h9, h10⟩
theorem vx_L.kept {C n d : String} {A : Nat → Prop} {U : State} {H H1 : Heap} (h : vx_L C n d A U H) (hq : ∀ a : Nat, a < H.size → ¬ A a → H1[a]? = H[a]?) : vx_L C n d A U H1 := by
  obtain ⟨c, k, i, f, a, cell, h1, h2, h3, h4, h5, h6, h7, h8, h9, h10⟩ := h
  exact ⟨c, k, i, f, a, cell, h1, h2, h3, h4, by rw [hq a (Array.getElem?_eq_some_iff.mp h5).1 h10]; exact h5, h6, h7, h8, h9, h10⟩
theorem vx_L.narrow {C n d : String} {A B : Nat → Prop} {U : State} {H : Heap} (h : vx_L C n d A U H) (hAB : ∀ q, B q → A q) : vx_L C n d B U H := by
  obtain ⟨c, k, i, f, a, cell, h1, h2, h3, h4, h5, h6, h7, h8, h9, h10⟩ := h
  exact ⟨c, k, i, f, a, cell, h1, h2, h3, h4, h5, h6, h7, h8, h9, fun z => h10 (hAB _ z)⟩
theorem vx_L.word {C n d : String} {A : Nat → Prop} {s : State} {args : Array Value} (h : vx_L C n d A s s.heap) : (Cond.laysStatic C n d).before args s = true := by
  obtain ⟨c, k, i, f, a, cell, h1, h2, h3, h4, h5, h6, h7, h8, h9, -⟩ := h
  show (Cond.laysStatic C n d).holds args s none s [] = true
  exact Cond.laysStatic_of h1 h2 h3 h4 h5 h6 h7 h8 h9
/-- .. and what it holds: null or some reference -/
def vx_Zq (C n d : String) (A : Nat → Prop) (U : State) (H : Heap) : Prop := va_Zq C n d A U H ∧ vx_L C n d A U H
theorem vx_Zq.moved {C n d : String} {A : Nat → Prop} {u U : State} {H : Heap} (hvm : u.vm.Alike U.vm) (h : vx_Zq C n d A u H) : vx_Zq C n d A U H := ⟨va_Zq.moved hvm h.1, vx_L.moved hvm h.2⟩
theorem vx_Zq.kept {C n d : String} {A : Nat → Prop} {U : State} {H H1 : Heap} (h : vx_Zq C n d A U H) (hq : ∀ a : Nat, a < H.size → ¬ A a → H1[a]? = H[a]?) : vx_Zq C n d A U H1 := ⟨va_Zq.kept h.1 hq, vx_L.kept h.2 hq⟩
theorem vx_Zq.narrow {C n d : String} {A B : Nat → Prop} {U : State} {H : Heap} (h : vx_Zq C n d A U H) (hAB : ∀ q, B q → A q) : vx_Zq C n d B U H := ⟨va_Zq.narrow h.1 hAB, vx_L.narrow h.2 hAB⟩
theorem vx_Zqof {args : Array Value} {s : State} {C n d : String} {A : Nat → Prop} (hl : (Cond.laysStatic C n d).before args s = true) (hini : (Cond.initialized C).before args s = true) (h : (Cond.isRef (.static C n d)).before args s = true) (hA : ∀ a : Nat, a < s.heap.size → ¬ A a) : vx_Zq C n d A s s.heap := by
  refine ⟨va_Zqof hl hini h hA, ?_⟩
  obtain ⟨c, k, i, f, a, cell, h1, h2, h3, h4, h5, h6, h7, h8, h9⟩ := Cond.laysStatic_spec hl
  exact ⟨c, k, i, f, a, cell, h1, h2, h3, h4, h5, h6, h7, h8, h9, hA a (Array.getElem?_eq_some_iff.mp h5).1⟩
theorem vx_isRef {C n d : String} {v : Value} {A : Nat → Prop} {s : State} {args : Array Value} (h : va_Z C n d v A s s.heap) (hv : v.isRef = true) : (Cond.isRef (.static C n d)).before args s = true := by
  obtain ⟨cf, kf, fi, f, a, cell, h1, h2, h3, h4, h5, h6, h7, -⟩ := h
  have he : (Term.static C n d).eval args s none [] s = some v := by
    simp [Term.eval, State.fieldNamed?, h1, h2, h4, h5, h6, h7]
  simp only [Cond.before, Cond.holds, Cond.value, he]
  cases v <;> simp_all [Value.isRef]
theorem vx_isRefq {C n d : String} {A : Nat → Prop} {s : State} {args : Array Value} (h : va_Zq C n d A s s.heap) : (Cond.isRef (.static C n d)).before args s = true := by
  rcases h with h | ⟨t, h⟩
  · exact vx_isRef h rfl
  · exact vx_isRef h rfl
/-- the same frame, seen from here: as if the method were called anew in this heap -/
theorem vx_rebase {T : State} (X : Stand p l e R s m args below meth c T locs cells slots) {R' : Room} (hf : R'.frames ≤ R.frames) (hl : R'.locals ≤ R.locals) (hc : cells + R'.cells ≤ R.cells) (hs : slots + R'.slots ≤ R.slots) :
    Stand p l e R' ((T.setVm s.vm).setFrames (.invoking m args :: below)) m args below meth c T [] 0 0 := by
  have htop : (T.setVm s.vm).topJava?.isSome := X.here.top
  have hF : ((T.setVm s.vm).setFrames (.invoking m args :: below)).frames = .invoking m args :: below := State.frames_setFrames _ (State.cur_lt_of_top htop)
  obtain ⟨g₀, hg0⟩ := Option.isSome_iff_exists.mp htop
  obtain ⟨r, hr⟩ := State.topJava?_eq_some.mp hg0
  have hl9 : e.platform.stackLimits (T.setVm s.vm).me = e.platform.stackLimits s.me := X.limits
  have hb9 : (T.setVm s.vm).me.stackBytes = s.me.stackBytes := X.bytes
  refine ⟨X.admits, X.cas, X.clock, hF, ?_, X.hears, X.method, X.code, X.here, X.tail, X.warmed, ?_, ?_, ?_⟩
  · have h := X.room
    have hU : ((T.setVm s.vm).setFrames (.invoking m args :: below)).localsInUse = s.localsInUse := by
      rw [State.localsInUse_invoking hF (meth := meth) (c := c) X.method X.code, State.localsInUse_invoking X.frames X.method X.code]
    simp only [State.hasRoom, Bool.and_eq_true, decide_eq_true_eq] at h ⊢
    obtain ⟨⟨⟨⟨h1, h2, h3, h4, h5, h6⟩, h7⟩, h8⟩, h9⟩ := h
    rw [X.frames, List.length_cons] at h2 h3
    have q1 := X.heapSize
    have q2 := X.used
    simp only [hF, hU, List.length_cons, State.stackLimits_setFrames, State.stackBytes_setFrames, hl9, hb9]
    refine ⟨⟨⟨⟨by omega, by omega, by omega, by omega, by omega, h6⟩, ?_⟩, ?_⟩, X.book⟩
    · show T.heap.size + R'.cells ≤ e.platform.maxCells
      omega
    · show T.slotsUsed + R'.slots ≤ e.platform.maxSlots
      omega
  · rw [State.stackLimits_setFrames]; rfl
  · rw [State.stackBytes_setFrames]; rfl
  · refine ⟨?_, Nat.le_refl _, Nat.le_refl _, ?_, ?_, fun a c9 h9 => ⟨c9, h9, rfl, rfl, fun _ _ => rfl⟩⟩
    · obtain ⟨t, ht, -⟩ := State.frames_cons hr
      show T.setVm s.vm = { ((T.setVm s.vm).setFrames (.invoking m args :: below)).setFrames (T.setVm s.vm).frames with heap := T.heap, slotsUsed := T.slotsUsed }
      rw [State.setFrames_setFrames, State.setFrames_self ht]
      rfl
    · show T.slotsUsed = T.slotsUsed + ((T.heap.toList.drop T.heap.size).map (·.slots.size)).sum
      rw [List.drop_eq_nil_of_le (Nat.le_of_eq Array.length_toList)]
      rfl
    · show ((T.heap.toList.drop T.heap.size).map (·.slots.size)).sum ≤ 0
      rw [List.drop_eq_nil_of_le (Nat.le_of_eq Array.length_toList)]
      exact Nat.le_refl _
/-- 'throw new E()': new; dup; invokespecial; athrow -/
theorem vx_throw0 {cc : ByteArray} {pc : Nat} (hexec : p.tables.exec = Jvm.exec) (hb : c.code = cc) (hl : l.stackTraces = false) {own cls : String} {names : List String} {ik ic mc ms : Nat} {A : Nat → Prop}
    (hown : s.vm.findClass own = some m.cls) (hcls : Bundle.fit cls = true) (hnames : ∀ n ∈ names, Bundle.fit n = true)
    (hk : (Cond.classLink own ik cls).before args s = true) (hini : (Cond.initialized cls).before args s = true) (hat : ∀ w ∈ vx_at0 own ic cls names, w.before args s = true)
    (hgood : ∀ w ∈ Cond.classLink own ik cls :: Cond.initialized cls :: vx_at0 own ic cls names, vx_ot w = true)
    (hU : vx_Zq Bundle.tN "UNASSIGNED_STACK" Bundle.steD A s s.heap) (hN : vx_Zq Bundle.tN "SUPPRESSED_SENTINEL" Bundle.listD A s s.heap) (hS : va_S A s.heap H locs) (hsize : ls.size = c.maxLocals)
    (d0 : decode cc pc = .ok (.new ik, 3)) (d3 : decode cc (pc + 3) = .ok (.dup, 1)) (d4 : decode cc (pc + 4) = .ok (.invokespecial ic, 3)) (d7 : decode cc (pc + 7) = .ok (.athrow, 1))
    (hout : ∀ x ∈ c.exceptionTable.toList, covers x (pc + 7) = false)
    (hRframes : names.length + 3 < R.frames) (hRlocals : (rest.map fun v => v.category).sum + (13 * (names.length + 1) + 42) ≤ R.locals) (hRcells : cells + 1 ≤ R.cells) (hRslots : slots + 6 ≤ R.slots) (hlocks : meth.locks = false)
    (hx : ∀ t : State, s.vm.Alike t.vm → H.size ≤ t.heap.size → (∀ q : Nat, q < H.size → t.heap[q]? = H[q]?) → XC cls s t)
    (hf : ∀ z ∈ locs, free z.base) (hc : cells + 1 ≤ mc) (hs : slots + 6 ≤ ms) :
    W p l e R s m args below meth c H locs cells slots (vx_MQ below Qc XC args s mc ms free) (F0 m pc ls rest) := by
  intro T hT X
  have htr : e.platform.stackTraces = false := (show e.platform.stackTraces = l.stackTraces by rw [X.admits.platform]).trans hl
  have Y := vx_rebase X (R' := { frames := R.frames, locals := R.locals, cells := 1, slots := 6 }) (Nat.le_refl _) (Nat.le_refl _) hRcells hRslots
  obtain ⟨s', hA⟩ : ∃ z, z = (T.setVm s.vm).setFrames (.invoking m args :: below) := ⟨_, rfl⟩
  rw [← hA] at Y
  have hvm : s'.vm = s.vm := by rw [hA]; rfl
  have hhp : s'.heap = H := by rw [hA]; exact hT
  have hW0 : s.WarmedH s'.vm := by rw [hvm]; exact State.WarmedH.refl s
  have hat' : ∀ w ∈ vx_at0 own ic cls names, w.before args s' = true := fun w hw => vx_ot_at hW0 hvm.symm (hgood w (List.mem_cons_of_mem _ (List.mem_cons_of_mem _ hw))) (hat w hw)
  have hk' : (Cond.classLink own ik cls).before args s' = true := vx_ot_at hW0 hvm.symm (hgood _ List.mem_cons_self) hk
  have hini' : (Cond.initialized cls).before args s' = true := vx_ot_at hW0 hvm.symm (hgood _ (List.mem_cons_of_mem _ List.mem_cons_self)) hini
  have hU' : vx_Zq Bundle.tN "UNASSIGNED_STACK" Bundle.steD A s' s'.heap := by rw [hhp]; exact vx_Zq.moved hW0.alike (hU.kept hS.2.1)
  have hN' : vx_Zq Bundle.tN "SUPPRESSED_SENTINEL" Bundle.listD A s' s'.heap := by rw [hhp]; exact vx_Zq.moved hW0.alike (hN.kept hS.2.1)
  have h : ∀ w ∈ Bundle.ownAtoms0 own ic cls names, w.before args s' = true := vx_own hat' (vx_isRefq hU'.1) (vx_isRefq hN'.1) hU'.2.word hN'.2.word
  have hown' : s'.vm.findClass own = some m.cls := by rw [hvm]; exact hown
  have hins : (Cond.instantiable cls 6).before args s' = true := h _ (by simp [Bundle.ownAtoms0])
  obtain ⟨vm₁, cX, kX, hfX, hkX, -, -, X₁, st1⟩ := Y.newCold hexec (own := own) (C := cls) (index := ik) (n := 6) hown' hk' hins hini'
    (g := F0 m pc ls rest) rfl (by rw [hb]; exact d0) (Nat.le_refl _) (Nat.le_refl _)
  generalize hT1 : (T.setVm vm₁).pushCell { cls := cX, slots := kX.instanceTypes.map defaultValue, vm := .none } = T1 at X₁ st1
  have hcat : (Value.ref T.heap.size).category = 1 := rfl
  have hcellA : T1.heap[T.heap.size]? = some (freshCell cX kX) := by rw [← hT1]; exact State.heap_pushCell_size _ _
  have d3' : decode c.code (pc + 3) = .ok (.dup, 1) := by rw [hb]; exact d3
  obtain ⟨U, hsteps, hrun, hend, hW, hsame, ce, hce, hO⟩ := X₁.ctorThrow0 hexec htr (own := own) (cls := cls) (names := names) (ic := ic) hown' hcls hnames h (fun x hx => nomatch hx) hfX hkX hcellA (by rw [hhp, hT]; exact Nat.le_refl _)
    (g := { method := m, pc := pc + 4, locals := ls, stack := .ref T.heap.size :: .ref T.heap.size :: rest, locked := none }) rfl hsize rfl rfl (rest := rest) rfl
    (by rw [hb]; exact d4) (by rw [hb]; exact d7) hout hRframes (by simp only [List.map_cons, List.sum_cons, hcat]; omega) hlocks
  obtain ⟨f1, f2⟩ := vx_frame hsame
  rw [hhp] at f1 f2
  have hWs : s.WarmedH U.vm := State.WarmedH.trans hW0 hW
  have hcl : s.vm.findClass cls = some ce.cls := by
    have h9 := hO.cls
    rw [hvm] at h9
    exact h9
  have hall : s.sameButNew ({ U with vm := s.vm } : State) locs mc ms := by
    subst hA
    obtain ⟨e1, e2⟩ := hsame
    rw [State.setFrames_setFrames] at e1
    have h2 : (T.setVm s.vm).sameButNew ({ U with vm := s.vm } : State) [] (0 + 1) (0 + 6) := ⟨e1, e2⟩
    have h3 := X.same.trans h2
    rw [List.append_nil] at h3
    exact h3.mono hc hs
  refine ⟨U, ?_, .threw T.heap.size, hrun, hend, Or.inr ⟨T.heap.size, rfl, cls, ce, locs, hx U hWs.alike f1 (fun q hq => f2 q hq (fun z hz => nomatch hz)), hce, hO.vm, hcl, hWs, hall, hf⟩⟩
  refine st1 _ ?_
  show Steps p.tables e below (T1.setTop { method := m, pc := pc + 3, locals := ls, stack := .ref T.heap.size :: rest, locked := none }) _
  jvm_step X₁.here [X₁.here.top, hexec, d3', Value.category]
  exact hsteps
/-- 'throw new E("text")': new; dup; ldc; invokespecial; athrow -/
theorem vx_throwS {cc : ByteArray} {pc : Nat} (hexec : p.tables.exec = Jvm.exec) (hb : c.code = cc) (hl : l.stackTraces = false) {own cls text : String} {names : List String} {ik is ic mc ms sa : Nat} {A : Nat → Prop}
    (hown : s.vm.findClass own = some m.cls) (hcls : Bundle.fit cls = true) (hnames : ∀ n ∈ names, Bundle.fit n = true)
    (hk : (Cond.classLink own ik cls).before args s = true) (hini : (Cond.initialized cls).before args s = true) (hstr : vk_R own is text sa s) (hat : ∀ w ∈ vx_atS own ic cls names, w.before args s = true)
    (hgood : ∀ w ∈ Cond.classLink own ik cls :: Cond.initialized cls :: vx_atS own ic cls names, vx_ot w = true)
    (hU : vx_Zq Bundle.tN "UNASSIGNED_STACK" Bundle.steD A s s.heap) (hN : vx_Zq Bundle.tN "SUPPRESSED_SENTINEL" Bundle.listD A s s.heap) (hS : va_S A s.heap H locs) (hsize : ls.size = c.maxLocals)
    (d0 : decode cc pc = .ok (.new ik, 3)) (d3 : decode cc (pc + 3) = .ok (.dup, 1)) (d4 : decode cc (pc + 4) = .ok (.ldc is, 2)) (d6 : decode cc (pc + 6) = .ok (.invokespecial ic, 3)) (d9 : decode cc (pc + 9) = .ok (.athrow, 1))
    (hout : ∀ x ∈ c.exceptionTable.toList, covers x (pc + 9) = false)
    (hRframes : names.length + 3 < R.frames) (hRlocals : (rest.map fun v => v.category).sum + (13 * (names.length + 1) + 43) ≤ R.locals) (hRcells : cells + 1 ≤ R.cells) (hRslots : slots + 6 ≤ R.slots) (hlocks : meth.locks = false)
    (hx : ∀ t : State, s.vm.Alike t.vm → H.size ≤ t.heap.size → (∀ q : Nat, q < H.size → t.heap[q]? = H[q]?) → XC cls s t)
    (hf : ∀ z ∈ locs, free z.base) (hc : cells + 1 ≤ mc) (hs : slots + 6 ≤ ms) :
    W p l e R s m args below meth c H locs cells slots (vx_MQ below Qc XC args s mc ms free) (F0 m pc ls rest) := by
  intro T hT X
  have htr : e.platform.stackTraces = false := (show e.platform.stackTraces = l.stackTraces by rw [X.admits.platform]).trans hl
  have Y := vx_rebase X (R' := { frames := R.frames, locals := R.locals, cells := 1, slots := 6 }) (Nat.le_refl _) (Nat.le_refl _) hRcells hRslots
  obtain ⟨s', hA⟩ : ∃ z, z = (T.setVm s.vm).setFrames (.invoking m args :: below) := ⟨_, rfl⟩
  rw [← hA] at Y
  have hvm : s'.vm = s.vm := by rw [hA]; rfl
  have hhp : s'.heap = H := by rw [hA]; exact hT
  have hW0 : s.WarmedH s'.vm := by rw [hvm]; exact State.WarmedH.refl s
  have hat' : ∀ w ∈ vx_atS own ic cls names, w.before args s' = true := fun w hw => vx_ot_at hW0 hvm.symm (hgood w (List.mem_cons_of_mem _ (List.mem_cons_of_mem _ hw))) (hat w hw)
  have hk' : (Cond.classLink own ik cls).before args s' = true := vx_ot_at hW0 hvm.symm (hgood _ List.mem_cons_self) hk
  have hini' : (Cond.initialized cls).before args s' = true := vx_ot_at hW0 hvm.symm (hgood _ (List.mem_cons_of_mem _ List.mem_cons_self)) hini
  have hU' : vx_Zq Bundle.tN "UNASSIGNED_STACK" Bundle.steD A s' s'.heap := by rw [hhp]; exact vx_Zq.moved hW0.alike (hU.kept hS.2.1)
  have hN' : vx_Zq Bundle.tN "SUPPRESSED_SENTINEL" Bundle.listD A s' s'.heap := by rw [hhp]; exact vx_Zq.moved hW0.alike (hN.kept hS.2.1)
  have h : ∀ w ∈ Bundle.ownAtoms own ic cls names, w.before args s' = true := vx_own hat' (vx_isRefq hU'.1) (vx_isRefq hN'.1) hU'.2.word hN'.2.word
  have hown' : s'.vm.findClass own = some m.cls := by rw [hvm]; exact hown
  have hins : (Cond.instantiable cls 6).before args s' = true := h _ (by simp [Bundle.ownAtoms])
  obtain ⟨vm₁, cX, kX, hfX, hkX, -, -, X₁, st1⟩ := Y.newCold hexec (own := own) (C := cls) (index := ik) (n := 6) hown' hk' hins hini'
    (g := F0 m pc ls rest) rfl (by rw [hb]; exact d0) (Nat.le_refl _) (Nat.le_refl _)
  generalize hT1 : (T.setVm vm₁).pushCell { cls := cX, slots := kX.instanceTypes.map defaultValue, vm := .none } = T1 at X₁ st1
  have hcat : (Value.ref T.heap.size).category = 1 := rfl
  have hcellA : T1.heap[T.heap.size]? = some (freshCell cX kX) := by rw [← hT1]; exact State.heap_pushCell_size _ _
  have d3' : decode c.code (pc + 3) = .ok (.dup, 1) := by rw [hb]; exact d3
  have d4' : decode c.code (pc + 4) = .ok (.ldc is, 2) := by rw [hb]; exact d4
  have hstr' : vk_R own is text sa s' := vk_R.warm hW0 hstr
  obtain ⟨U, hsteps, hrun, hend, hW, hsame, ce, hce, hO⟩ := X₁.ctorThrowS hexec htr (own := own) (cls := cls) (names := names) (ic := ic) hown' hcls hnames h (fun x hx => nomatch hx) hfX hkX hcellA (by rw [hhp, hT]; exact Nat.le_refl _) (msg := .ref sa) rfl
    (g := { method := m, pc := pc + 6, locals := ls, stack := .ref sa :: .ref T.heap.size :: .ref T.heap.size :: rest, locked := none }) rfl hsize rfl rfl (rest := rest) rfl
    (by rw [hb]; exact d6) (by rw [hb]; exact d9) hout hRframes (by simp only [List.map_cons, List.sum_cons, hcat]; omega) hlocks
  obtain ⟨f1, f2⟩ := vx_frame hsame
  rw [hhp] at f1 f2
  have hWs : s.WarmedH U.vm := State.WarmedH.trans hW0 hW
  have hcl : s.vm.findClass cls = some ce.cls := by
    have h9 := hO.cls
    rw [hvm] at h9
    exact h9
  have hall : s.sameButNew ({ U with vm := s.vm } : State) locs mc ms := by
    subst hA
    obtain ⟨e1, e2⟩ := hsame
    rw [State.setFrames_setFrames] at e1
    have h2 : (T.setVm s.vm).sameButNew ({ U with vm := s.vm } : State) [] (0 + 1) (0 + 6) := ⟨e1, e2⟩
    have h3 := X.same.trans h2
    rw [List.append_nil] at h3
    exact h3.mono hc hs
  refine ⟨U, ?_, .threw T.heap.size, hrun, hend, Or.inr ⟨T.heap.size, rfl, cls, ce, locs, hx U hWs.alike f1 (fun q hq => f2 q hq (fun z hz => nomatch hz)), hce, hO.vm, hcl, hWs, hall, hf⟩⟩
  refine st1 _ ?_
  show Steps p.tables e below (T1.setTop { method := m, pc := pc + 3, locals := ls, stack := .ref T.heap.size :: rest, locked := none }) _
  jvm_step X₁.here [X₁.here.top, hexec, d3', Value.category]
  exact X₁.ldcString hexec (own := own) (text := text) (index := is) (a := sa) hown' hstr'.1 hstr'.2
    (g := { method := m, pc := pc + 4, locals := ls, stack := .ref T.heap.size :: .ref T.heap.size :: rest, locked := none }) rfl d4' _ hsteps
/-- 'throw new E("text")', the text by a wide index -/
theorem vx_throwSW {cc : ByteArray} {pc : Nat} (hexec : p.tables.exec = Jvm.exec) (hb : c.code = cc) (hl : l.stackTraces = false) {own cls text : String} {names : List String} {ik is ic mc ms sa : Nat} {A : Nat → Prop}
    (hown : s.vm.findClass own = some m.cls) (hcls : Bundle.fit cls = true) (hnames : ∀ n ∈ names, Bundle.fit n = true)
    (hk : (Cond.classLink own ik cls).before args s = true) (hini : (Cond.initialized cls).before args s = true) (hstr : vk_R own is text sa s) (hat : ∀ w ∈ vx_atS own ic cls names, w.before args s = true)
    (hgood : ∀ w ∈ Cond.classLink own ik cls :: Cond.initialized cls :: vx_atS own ic cls names, vx_ot w = true)
    (hU : vx_Zq Bundle.tN "UNASSIGNED_STACK" Bundle.steD A s s.heap) (hN : vx_Zq Bundle.tN "SUPPRESSED_SENTINEL" Bundle.listD A s s.heap) (hS : va_S A s.heap H locs) (hsize : ls.size = c.maxLocals)
    (d0 : decode cc pc = .ok (.new ik, 3)) (d3 : decode cc (pc + 3) = .ok (.dup, 1)) (d4 : decode cc (pc + 4) = .ok (.ldc_w is, 3)) (d7 : decode cc (pc + 7) = .ok (.invokespecial ic, 3)) (d10 : decode cc (pc + 10) = .ok (.athrow, 1))
    (hout : ∀ x ∈ c.exceptionTable.toList, covers x (pc + 10) = false)
    (hRframes : names.length + 3 < R.frames) (hRlocals : (rest.map fun v => v.category).sum + (13 * (names.length + 1) + 43) ≤ R.locals) (hRcells : cells + 1 ≤ R.cells) (hRslots : slots + 6 ≤ R.slots) (hlocks : meth.locks = false)
    (hx : ∀ t : State, s.vm.Alike t.vm → H.size ≤ t.heap.size → (∀ q : Nat, q < H.size → t.heap[q]? = H[q]?) → XC cls s t)
    (hf : ∀ z ∈ locs, free z.base) (hc : cells + 1 ≤ mc) (hs : slots + 6 ≤ ms) :
    W p l e R s m args below meth c H locs cells slots (vx_MQ below Qc XC args s mc ms free) (F0 m pc ls rest) := by
  intro T hT X
  have htr : e.platform.stackTraces = false := (show e.platform.stackTraces = l.stackTraces by rw [X.admits.platform]).trans hl
  have Y := vx_rebase X (R' := { frames := R.frames, locals := R.locals, cells := 1, slots := 6 }) (Nat.le_refl _) (Nat.le_refl _) hRcells hRslots
  obtain ⟨s', hA⟩ : ∃ z, z = (T.setVm s.vm).setFrames (.invoking m args :: below) := ⟨_, rfl⟩
  rw [← hA] at Y
  have hvm : s'.vm = s.vm := by rw [hA]; rfl
  have hhp : s'.heap = H := by rw [hA]; exact hT
  have hW0 : s.WarmedH s'.vm := by rw [hvm]; exact State.WarmedH.refl s
  have hat' : ∀ w ∈ vx_atS own ic cls names, w.before args s' = true := fun w hw => vx_ot_at hW0 hvm.symm (hgood w (List.mem_cons_of_mem _ (List.mem_cons_of_mem _ hw))) (hat w hw)
  have hk' : (Cond.classLink own ik cls).before args s' = true := vx_ot_at hW0 hvm.symm (hgood _ List.mem_cons_self) hk
  have hini' : (Cond.initialized cls).before args s' = true := vx_ot_at hW0 hvm.symm (hgood _ (List.mem_cons_of_mem _ List.mem_cons_self)) hini
  have hU' : vx_Zq Bundle.tN "UNASSIGNED_STACK" Bundle.steD A s' s'.heap := by rw [hhp]; exact vx_Zq.moved hW0.alike (hU.kept hS.2.1)
  have hN' : vx_Zq Bundle.tN "SUPPRESSED_SENTINEL" Bundle.listD A s' s'.heap := by rw [hhp]; exact vx_Zq.moved hW0.alike (hN.kept hS.2.1)
  have h : ∀ w ∈ Bundle.ownAtoms own ic cls names, w.before args s' = true := vx_own hat' (vx_isRefq hU'.1) (vx_isRefq hN'.1) hU'.2.word hN'.2.word
  have hown' : s'.vm.findClass own = some m.cls := by rw [hvm]; exact hown
  have hins : (Cond.instantiable cls 6).before args s' = true := h _ (by simp [Bundle.ownAtoms])
  obtain ⟨vm₁, cX, kX, hfX, hkX, -, -, X₁, st1⟩ := Y.newCold hexec (own := own) (C := cls) (index := ik) (n := 6) hown' hk' hins hini'
    (g := F0 m pc ls rest) rfl (by rw [hb]; exact d0) (Nat.le_refl _) (Nat.le_refl _)
  generalize hT1 : (T.setVm vm₁).pushCell { cls := cX, slots := kX.instanceTypes.map defaultValue, vm := .none } = T1 at X₁ st1
  have hcat : (Value.ref T.heap.size).category = 1 := rfl
  have hcellA : T1.heap[T.heap.size]? = some (freshCell cX kX) := by rw [← hT1]; exact State.heap_pushCell_size _ _
  have d3' : decode c.code (pc + 3) = .ok (.dup, 1) := by rw [hb]; exact d3
  have d4' : decode c.code (pc + 4) = .ok (.ldc_w is, 3) := by rw [hb]; exact d4
  have hstr' : vk_R own is text sa s' := vk_R.warm hW0 hstr
  obtain ⟨U, hsteps, hrun, hend, hW, hsame, ce, hce, hO⟩ := X₁.ctorThrowS hexec htr (own := own) (cls := cls) (names := names) (ic := ic) hown' hcls hnames h (fun x hx => nomatch hx) hfX hkX hcellA (by rw [hhp, hT]; exact Nat.le_refl _) (msg := .ref sa) rfl
    (g := { method := m, pc := pc + 7, locals := ls, stack := .ref sa :: .ref T.heap.size :: .ref T.heap.size :: rest, locked := none }) rfl hsize rfl rfl (rest := rest) rfl
    (by rw [hb]; exact d7) (by rw [hb]; exact d10) hout hRframes (by simp only [List.map_cons, List.sum_cons, hcat]; omega) hlocks
  obtain ⟨f1, f2⟩ := vx_frame hsame
  rw [hhp] at f1 f2
  have hWs : s.WarmedH U.vm := State.WarmedH.trans hW0 hW
  have hcl : s.vm.findClass cls = some ce.cls := by
    have h9 := hO.cls
    rw [hvm] at h9
    exact h9
  have hall : s.sameButNew ({ U with vm := s.vm } : State) locs mc ms := by
    subst hA
    obtain ⟨e1, e2⟩ := hsame
    rw [State.setFrames_setFrames] at e1
    have h2 : (T.setVm s.vm).sameButNew ({ U with vm := s.vm } : State) [] (0 + 1) (0 + 6) := ⟨e1, e2⟩
    have h3 := X.same.trans h2
    rw [List.append_nil] at h3
    exact h3.mono hc hs
  refine ⟨U, ?_, .threw T.heap.size, hrun, hend, Or.inr ⟨T.heap.size, rfl, cls, ce, locs, hx U hWs.alike f1 (fun q hq => f2 q hq (fun z hz => nomatch hz)), hce, hO.vm, hcl, hWs, hall, hf⟩⟩
  refine st1 _ ?_
  show Steps p.tables e below (T1.setTop { method := m, pc := pc + 3, locals := ls, stack := .ref T.heap.size :: rest, locked := none }) _
  jvm_step X₁.here [X₁.here.top, hexec, d3', Value.category]
  exact X₁.ldcStringW hexec (own := own) (text := text) (index := is) (a := sa) hown' hstr'.1 hstr'.2
    (g := { method := m, pc := pc + 4, locals := ls, stack := .ref T.heap.size :: .ref T.heap.size :: rest, locked := none }) rfl d4' _ hsteps
end Ends
section Bodies
variable {l : Launch}
theorem vx_ofW {y : MethodName} {ws ws' : List Cond} {rm : Room} {Pc : Array Value → State → Prop} {Qc : Array Value → State → Outcome → State → Prop} {XC : String → State → State → Prop} {mc ms : Nat} {free : Addr → Prop} {cc : ByteArray} {maxL : Nat} {ret : Option FieldType}
    (hy : plainName y.cls = true) (hw : ws = Cond.code y cc maxL ret :: ws')
    (body : ∀ p e s m args below meth c s₁, BodyLoose p l y (headSpec ws rm) cc maxL ret e s m args below meth c s₁ → c.maxLocals = maxL → (∀ x ∈ c.exceptionTable.toList, False) → Pc args s →
      W p l e (headSpec ws rm).room s m args below meth c s.heap [] 0 0 (vx_MQ below Qc XC args s mc ms free) (entryFrame m args maxL)) : vx_Met l y ws rm Pc Qc XC mc ms free := by
  refine MetFree.of_bodyS (code := cc) (maxLocals := maxL) (ret := ret) hy ?_ ?_
  · intro args s m h hn
    obtain ⟨meth, c, h1, h2, h3, h4, h5, h6, -, -⟩ := Cond.code_spec hn (atoms_spec (ws := ws) h _ (by rw [hw]; exact List.mem_cons_self))
    exact ⟨meth, c, h1, h2, h3, h4, h5, h6⟩
  · intro p e s m args below meth c s₁ B hml hP _
    have hh0 : s₁.heap = s.heap := by rw [B.state]; rfl
    have ht : ∀ x ∈ c.exceptionTable.toList, False := by
      obtain ⟨meth9, c9, h1, h2, -, -, -, -, h7, -⟩ := Cond.code_spec B.named (atoms_spec (ws := ws) B.pre _ (by rw [hw]; exact List.mem_cons_self))
      cases Option.some.inj (h1.symm.trans B.method)
      cases Option.some.inj (h2.symm.trans (Stand.of_body B).code)
      intro x hx
      rw [Array.isEmpty_iff.mp h7] at hx
      cases hx
    obtain ⟨t, a1, o, b1, b2, b3⟩ := body p e s m args below meth c s₁ B hml ht hP s₁ hh0 (Stand.of_body B)
    exact ⟨t, o, a1, b1, b2, b3⟩
/-- the table of a body with handlers -/
theorem vx_table {p : Program} {x y : MethodName} {S : Spec} {cc bytes : ByteArray} {maxL maxL' : Nat} {ret ret' : Option FieldType} {e : Env} {s s₁ : State} {m : MethodId} {args : Array Value} {below : List Frame} {meth : Method} {c : Code} {hh : List (Nat × Nat × Nat × Nat)}
    (B : BodyLoose p l y S cc maxL ret e s m args below meth c s₁) (h : (Cond.codeWith y bytes maxL' ret' hh).before args s = true) : c.exceptionTable.toList = tableOf hh := by
  obtain ⟨m9, meth9, c9, hn9, h1, h2, -, -, h6, -⟩ := Cond.codeWith_spec h
  cases Option.some.inj (hn9.symm.trans B.named)
  cases Option.some.inj (h1.symm.trans B.method)
  cases Option.some.inj (h2.symm.trans (Stand.of_body B).code)
  rw [← h6, table_eq]
end Bodies
end VXA
/-! ===== END ===== -/
/-! ===== BEGIN a static call of a method with an exception table ===== -/
section VXS
variable {p : Program} {l : Launch} {e : Env} {R : Room} {s : State} {m : MethodId} {args : Array Value} {below : List Frame} {meth : Method} {c : Code} {T : State} {H : Heap} {locs : List Loc} {cells slots : Nat}
abbrev vx_CSW (R : Room) (s : State) (args : Array Value) (own : String) (index : Nat) (y : MethodName) (bytes : ByteArray) (maxL : Nat) (ret : Option FieldType) (hh : List (Nat × Nat × Nat × Nat)) (ws : List Cond) (rm : Room) (mc ms n : Nat) : Prop :=
  (rm.cells = mc ∧ rm.slots = ms ∧ rm.frames + 1 ≤ R.frames ∧ 8 + (maxL + 11) + rm.locals ≤ R.locals ∧ (∀ w ∈ ws, ∀ (a' : Array Value) (U : State), s.WarmedH U.vm → w.before a' U = true) ∧ Cond.codeWith y bytes maxL ret hh ∈ ws) ∧
  (Cond.codeWith y bytes maxL ret hh).before args s = true ∧ (Cond.initialized y.cls).before args s = true ∧ (y.cls ≠ "java/lang/invoke/MethodHandle" ∧ y.cls ≠ "java/lang/invoke/VarHandle") ∧
  (∀ sig, parseMethodDescriptor y.desc = some sig → n = sig.parameters.length) ∧ (Cond.methodLink own index y).before args s = true ∧ (Cond.static y).before args s = true
theorem vx_cwSW {own : String} {index maxL mc ms : Nat} {y : MethodName} {bytes : ByteArray} {ret : Option FieldType} {hh : List (Nat × Nat × Nat × Nat)} {Ts ws ws' : List Cond} {rm : Room} (n : Nat) (ht : ∀ w ∈ Ts, w.before args s = true) (hT : GoodIn Ts (va_wsS own index y ws)) (hw : ws = Cond.codeWith y bytes maxL ret hh :: ws') (hrc : rm.cells = mc) (hrs : rm.slots = ms)
    (hd : y.cls ≠ "java/lang/invoke/MethodHandle" ∧ y.cls ≠ "java/lang/invoke/VarHandle" ∧ (parseMethodDescriptor y.desc).map (fun d => d.parameters.length) = some n) (hR : rm.frames + 1 ≤ R.frames ∧ 8 + (maxL + 11) + rm.locals ≤ R.locals) :
    vx_CSW R s args own index y bytes maxL ret hh ws rm mc ms n := by
  have ok : ∀ w ∈ va_wsS own index y ws, w.before args s = true := fun w h => ht w (hT w h).1
  have hG : GoodIn Ts ws := fun w h => hT w (by unfold va_wsS; exact List.mem_append_right _ h)
  have hc : Cond.codeWith y bytes maxL ret hh ∈ ws := by rw [hw]; exact List.mem_cons_self
  refine ⟨⟨hrc, hrs, hR.1, hR.2, pay_in ht hG, hc⟩, ht _ (hG _ hc).1, ok _ (by simp [va_wsS]), ⟨hd.1, hd.2.1⟩, fun sig h => ?_, ok _ (by simp [va_wsS]), ok _ (by simp [va_wsS])⟩
  have h2 := hd.2.2
  rw [h] at h2
  exact (Option.some.inj h2).symm
theorem vx_callSW (X : Stand p l e R s m args below meth c T locs cells slots) (hexec : p.tables.exec = Jvm.exec) {own : String} {index : Nat} {y : MethodName} {bytes : ByteArray} {maxL : Nat} {ret : Option FieldType} {hh : List (Nat × Nat × Nat × Nat)}
    (hown : s.vm.findClass own = some m.cls) (hlink : (Cond.methodLink own index y).before args s = true) (hstat : (Cond.static y).before args s = true) (hinit : (Cond.initialized y.cls).before args s = true)
    (hcode : (Cond.codeWith y bytes maxL ret hh).before args s = true) (hy : y.cls ≠ "java/lang/invoke/MethodHandle" ∧ y.cls ≠ "java/lang/invoke/VarHandle")
    {W9 : Nat} {Pre : Pt → Array Value → Prop} {Post : Pt → Array Value → Option Value → Pt → Prop} (hK : Back l R p e below s args y 3 W9 Pre Post)
    {g : JFrame} (hg : g.method = m) (hsize : g.locals.size = c.maxLocals) {argsL rest : List Value} (hlen : ∀ sig, parseMethodDescriptor y.desc = some sig → argsL.length = sig.parameters.length)
    (hstack : g.stack = argsL.reverse ++ rest) (hW : 2 * g.monitorRoom + (rest.map fun v => v.category).sum ≤ W9) (hdg : decode c.code g.pc = .ok (.invokestatic index, 3))
    (hpre : ∀ vm₁, s.WarmedH vm₁ → Pre ⟨T.setVm vm₁, locs, cells, slots⟩ argsL.toArray) :
    ∃ (v : Option Value) (vm₁ : Vm) (B : Pt), s.WarmedH vm₁ ∧ Stand p l e R s m args below meth c B.U B.locs B.cells B.slots ∧ Post ⟨T.setVm vm₁, locs, cells, slots⟩ argsL.toArray v B ∧
      ∀ target, Steps p.tables e below (B.U.setTop { g with pc := g.pc + 3, stack := v.toList ++ rest }) target → Steps p.tables e below (T.setTop g) target := by
  obtain ⟨mk, methM, cM, hnamed, hmethM, -, -, -, -, -, -, hsigM⟩ := Cond.codeWith_spec hcode
  have hstatic : methM.isStatic = true := Cond.static_spec hnamed hmethM hstat
  obtain ⟨kP, hkP, -⟩ := className_of_methodNamed hnamed
  have hinitP : kP.init = .initialized := Cond.initialized_spec (findClass_of_methodNamed hnamed) hkP hinit
  obtain ⟨vm₁, X₁, hstep₁⟩ := X.invokestatic hexec hown hlink hnamed hmethM hstatic hkP hinitP hy (g := g) hg (argsL := argsL) (rest := rest) (hlen _ hsigM) hstack hdg
  obtain ⟨v, B, X', hpost, hsteps⟩ := hK m meth c ⟨T.setVm vm₁, locs, cells, slots⟩ { g with stack := rest } (.invokestatic index) mk argsL.toArray X₁ hg hsize hdg hW (X₁.named hnamed) (hpre vm₁ X₁.warmed)
  exact ⟨v, vm₁, B, X₁.warmed, X', hpost, fun target h => hstep₁ _ fun acts => by rw [doInvoke_state]; exact hsteps.trans h⟩
theorem vx_runSW {y : MethodName} {bytes cc : ByteArray} {maxL nL mc ms n index : Nat} {ret : Option FieldType} {hh : List (Nat × Nat × Nat × Nat)} {ws : List Cond} {rm : Room} {Pc : Array Value → State → Prop} {Qc : Array Value → State → Outcome → State → Prop} {free : Addr → Prop} {Ts : List Cond} {own : String} {As rest : List Value} {g : JFrame}
    (S : CallFix p m c cc nL s args Ts own) (hM : Met l y ws rm Pc Qc mc ms free) (cw : vx_CSW R s args own index y bytes maxL ret hh ws rm mc ms n) (hp : PreS s H Pc As)
    (hg : g.method = m) (hn : As.length = n) (hsize : g.locals.size = nL) (hstack : g.stack = As.reverse ++ rest) (hW : 2 * g.monitorRoom + (rest.map fun v => v.category).sum ≤ 8) (hdg : decode cc g.pc = .ok (.invokestatic index, 3)) (hf : cells + mc ≤ R.cells ∧ slots + ms ≤ R.slots) :
    va_Run p l e R s m args below meth c H locs cells slots mc ms g rest (Qc As.toArray) (free) := by
  obtain ⟨⟨hrc, hrs, hfr, hlo, hws, hcw⟩, hcode, hini, hy, hlen, hl, hstt⟩ := cw
  have hK : Back l R p e below s args y 3 8 (PreOf R mc ms Pc) (PostOf Qc mc ms free) := va_backW (hh := hh) (bytes := bytes) (maxL := maxL) (ret := ret) hM hp.1 hrc hrs hfr hlo hws hcw (fun a' U hW => word_at hW (Or.inl (by first | rfl | simp [Cond.onTables, Cond.keeps, Cond.steady])) hini)
  obtain ⟨hx, hb, hml, ho, -⟩ := S
  intro T hT X
  obtain ⟨v, vm₁, ⟨U', l2, c2, s2⟩, hW₁, X', ⟨g', mk, t, L, e1, e2, hq, h1, hL, h2, h3⟩, st⟩ := vx_callSW X hx (hh := hh) (bytes := bytes) (maxL := maxL) (ret := ret) ho hl hstt hini hcode hy hK hg (hsize.trans hml.symm) (argsL := As) (rest := rest) (fun sig h => hn.trans (hlen sig h)) hstack hW (by rw [hb]; exact hdg)
    (fun vm₁ hW₁ => ⟨hf.1, hf.2, hp.2 (T.setVm vm₁) hT hW₁⟩)
  dsimp only [Pt.U, Pt.locs, Pt.cells, Pt.slots] at X' e1 e2 h1 h2 h3 st
  subst h1; subst h2; subst h3
  exact ⟨v, (T.setVm vm₁).calling g' mk As.toArray, t, U', L, hT, X', hL, e1, e2, hq, st⟩
/-- not caught here, past rows that name other classes: it goes on to the caller -/
theorem vx_outP {p : Program} {l : Launch} {e : Env} {R : Room} {s : State} {m : MethodId} {args : Array Value} {below : List Frame} {meth : Method} {c : Code} {H : Heap} {locs : List Loc} {cells slots : Nat} {free : Addr → Prop} {ls : Array Slot} {rest : List Value} {Qc : Array Value → State → Outcome → State → Prop} {XC : String → State → State → Prop}
    {pc : Nat} {own E : String} {ce : Cell} {q : Addr} {mc ms : Nat} (hown : s.vm.findClass own = some m.cls) (hlocks : meth.locks = false)
    (hpass : ∀ z ∈ c.exceptionTable.toList, covers z pc = false ∨ (z.catchType ≠ 0 ∧ ∃ nm : String, (Cond.classLink own z.catchType nm).before args s = true ∧ va_Nc E nm s)) (hcell : H[q]? = some ce) (hv : ce.vm = .none) (hcl : s.vm.findClass E = some ce.cls)
    (hx : ∀ t : State, t.heap = H → s.vm.Alike t.vm → XC E s t) (hf : ∀ z ∈ locs, free z.base) (hc : cells ≤ mc) (hs : slots ≤ ms) :
    vx_W p l e R s m args below meth c H locs cells slots (vx_MQ below Qc XC args s mc ms free) (F0 m pc ls rest) q := by
  intro T hT X
  have hpl : e.platform.magicAccessors = ({} : Platform).magicAccessors := by rw [X.admits.platform]
  obtain ⟨vm', hW', X', st⟩ := X.outThrough hlocks q (g := F0 m pc ls rest) rfl rfl rfl (cell := ce) (by rw [hT]; exact hcell) (by rw [hv]; rfl)
    (by obtain ⟨k9, h9, -⟩ := Vm.findClass_spec hcl; exact ⟨k9, h9⟩) (fun z hz => by
      rcases hpass z hz with h | ⟨hz0, nm, hl1, hn1⟩
      · exact Or.inl h
      · obtain ⟨c6, hc6, hcl6⟩ := Cond.classLink_spec hown hl1 e.platform hpl
        obtain ⟨a8, b8, h1, h2, h3⟩ := hn1
        cases Option.some.inj (h1.symm.trans hcl)
        cases Option.some.inj (h2.symm.trans hc6)
        exact Or.inr ⟨hz0, _, hcl6, h3⟩)
  obtain ⟨g₀, hfr⟩ := X'.frames_eq
  have hcell9 : ((T.setVm vm').setFrames (.throwing q :: below)).heap[q]? = some ce := by
    show T.heap[q]? = some ce
    rw [hT]; exact hcell
  have hend : Ended ((T.setVm vm').setFrames (.throwing q :: below)) below (.threw q) := State.frames_setFrames _ (State.cur_lt_of_frames hfr)
  refine ⟨(T.setVm vm').setFrames (.throwing q :: below), ?_, .threw q, X'.here.running, hend, Or.inr ⟨q, rfl, E, ce, locs, hx _ hT (X'.ends _).1.alike, hcell9, hv, hcl, (X'.ends _).1, (X'.ends _).2.mono hc hs, hf⟩⟩
  rw [X.pushThrowing_eq]
  exact st
/-- a thing of a world lies in the heap -/
theorem vx_lt {D : va_G} {cl : List vw_C} {ws : va_W} {H1 : Heap} (h : va_P D cl ws H1) {k : Nat} {q : Nat × va_E} (hk : ws[k]? = some q) : q.1 < H1.size := (h k q hk).lt
end VXS
/-! ===== END ===== -/
/-! ===== BEGIN methods with a table of their own: called by a name, returning or throwing ===== -/
section VXH
/-! vx_backW, vx_callVX, vx_callSX, vx_callVW, vx_runVW, vx_runVX, vx_runSX, vx_ofWH follow the same proofs as their sisters above (Free/Laws.lean, Shelf42/LK1.lean); vx_outP calls Shelf42/NT130.lean (outThrough). -/
section
variable {l : Launch} {R : Room} {p : Program} {e : Env} {below : List Frame} {s : State} {sargs : Array Value} {y : MethodName} {len W9 : Nat}
theorem vx_backW {ws : List Cond} {rm : Room} {Pc : Array Value → State → Prop} {Qc : Array Value → State → Outcome → State → Prop} {XC : String → State → State → Prop} {mc ms : Nat} {free : Addr → Prop} {bytes : ByteArray} {maxL : Nat} {ret : Option FieldType} {hh : List (Nat × Nat × Nat × Nat)}
    (hM : vx_Met l y ws rm Pc Qc XC mc ms free) (hblind : FrameBlind Pc) (hrc : rm.cells = mc) (hrs : rm.slots = ms)
    (hframes : rm.frames + 1 ≤ R.frames) (hlocals : W9 + (maxL + 11) + rm.locals ≤ R.locals)
    (hws : ∀ w ∈ ws, ∀ a' U, s.WarmedH U.vm → w.before a' U = true) (hcode : Cond.codeWith y bytes maxL ret hh ∈ ws) (hinit : ∀ a' U, s.WarmedH U.vm → (Cond.initialized y.cls).before a' U = true) :
    vx_Back l R p e below s sargs y len W9 (PreOf R mc ms Pc) (PostOf Qc mc ms free) (vx_Post XC mc ms free) := by
  intro m meth c A g ig mk a X hg hsize hdg hW hn hp
  have h1 : (headSpec ws rm).pre.before a A.U = true := atoms_intro fun w hw => hws w hw _ _ X.warmed
  have h2 : (Cond.codeWith y bytes maxL ret hh).before a A.U = true := hws _ hcode _ _ X.warmed
  have h3 : (Cond.initialized y.cls).before a A.U = true := hinit _ _ X.warmed
  have h4 : A.cells + (headSpec ws rm).room.cells ≤ R.cells := by rw [show (headSpec ws rm).room.cells = mc from hrc]; exact hp.1
  have h5 : A.slots + (headSpec ws rm).room.slots ≤ R.slots := by rw [show (headSpec ws rm).room.slots = ms from hrs]; exact hp.2.1
  have hPc : Pc a (A.U.calling g mk a) := hblind _ _ _ _ hp.2.2
  obtain ⟨U, Ls, c0, s0⟩ := A
  dsimp only [Pt.U, Pt.locs, Pt.cells, Pt.slots] at h1 h2 h3 h4 h5 X hn hPc ⊢
  obtain ⟨m9, methY, cY, hn9, hmY, hcY, -, hlY, -⟩ := Cond.codeWith_spec h2
  cases Option.some.inj (hn9.symm.trans hn)
  obtain ⟨kY, hkY, -⟩ := className_of_methodNamed hn
  have hinitY : kY.init = .initialized := Cond.initialized_spec (findClass_of_methodNamed hn) hkY h3
  have h : At U g.method c below := by rw [hg]; exact X.here
  have hlocals9 : W9 + (maxL + 11) + (headSpec ws rm).room.locals ≤ R.locals := hlocals
  have happ : (headSpec ws rm).appliesLoose y e.platform (U.calling g mk a) = true :=
    Spec.appliesLoose_calling (g := g) h hdg hn hkY hinitY
      (X.room_calling (g := g) (R' := (headSpec ws rm).room) hsize hmY hcY hframes (by rw [hlY]; omega) h4 h5) h1
  obtain ⟨mid, hmid⟩ := h.above
  have hfr : (U.setTop g).frames = (.java g :: mid) ++ below := by rw [State.frames_setTop' g h.top, hmid]; rfl
  obtain ⟨o, s₂, hsteps, -, hend, hq⟩ := Steps.callFree hM p X.admits X.cas X.clock (acts := []) hfr happ hPc trivial
  have hq' : vx_Q Qc XC mc ms free a (U.calling g mk a) o s₂ := hq
  rw [State.frames_setTop' g h.top] at hend
  obtain ⟨g₀, hg0⟩ := Option.isSome_iff_exists.mp h.top
  obtain ⟨r, hr⟩ := State.topJava?_eq_some.mp hg0
  have hr' : (({ U with heap := s₂.heap, slotsUsed := s₂.slotsUsed } : State).setVm s₂.vm).frames = .java g₀ :: r := hr
  rcases hq' with ⟨hqc, L, hfe, hL⟩ | ⟨q, rfl, E, ce, L, hx, hce, hcv, hcl, hW₂, hsm, hL⟩
  · obtain ⟨⟨v, rfl⟩, hW₂, e2, q2, q3, q4, q5, q6⟩ := id hfe
    have e3 : s₂ = ({ (U.calling g mk a).setFrames s₂.frames with heap := s₂.heap, slotsUsed := s₂.slotsUsed } : State).setVm s₂.vm := by
      have : s₂ = ({ s₂ with vm := (U.calling g mk a).vm } : State).setVm s₂.vm := rfl
      rw [e2] at this
      exact this
    obtain ⟨c₂, i₂, len₂, hc₂, hd₂, hf₂⟩ := hend
    have hW' : U.WarmedH s₂.vm := hW₂
    have hcc : c₂ = c := by
      have h1 : s₂.code? g.method = U.code? g.method := by
        rw [State.code?_eq, State.code?_eq, hW'.alike.method?]
      exact Option.some.inj (hc₂.symm.trans (h1.trans h.code))
    subst hcc
    have hlen : len₂ = len := by rw [hdg] at hd₂; cases hd₂; rfl
    subst hlen
    have hs₂ : s₂ = (({ U with heap := s₂.heap, slotsUsed := s₂.slotsUsed } : State).setVm s₂.vm).setTop { g with pc := g.pc + len₂, stack := v.toList ++ g.stack } := by
      refine e3.trans ?_
      rw [hf₂, State.calling_eq h.top, State.setFrames_setFrames, State.setTop_of_frames _ hr', hr]
      rfl
    have hsame : U.sameButNew ({ U with heap := s₂.heap, slotsUsed := s₂.slotsUsed } : State) L mc ms := by
      refine ⟨?_, q2, q3, q4, q5, q6⟩
      obtain ⟨t, ht, -⟩ := State.frames_cons hr
      show ({ U with heap := s₂.heap, slotsUsed := s₂.slotsUsed } : State) = { U.setFrames U.frames with heap := s₂.heap, slotsUsed := s₂.slotsUsed }
      rw [State.setFrames_self ht]
    subst hg
    refine Or.inl ⟨v, ⟨(({ U with heap := s₂.heap, slotsUsed := s₂.slotsUsed } : State).setVm s₂.vm), Ls ++ L, c0 + mc, s0 + ms⟩,
      ⟨X.admits, X.cas, X.clock, X.frames, X.room, X.hears, X.method, X.code, (X.here.setHeapUsed s₂.heap s₂.slotsUsed).setVm hW'.alike, X.tail, State.WarmedH.trans X.warmed hW', X.limits, X.bytes, X.same.trans (hsame.setVm s.vm)⟩,
      ⟨g, mk, s₂, L, rfl, rfl, hqc, rfl, hL, rfl, rfl⟩, ?_⟩
    show Steps p.tables e below _ ((({ U with heap := s₂.heap, slotsUsed := s₂.slotsUsed } : State).setVm s₂.vm).setTop { g with pc := g.pc + len₂, stack := v.toList ++ g.stack })
    rw [← hs₂]
    exact hsteps
  · obtain ⟨e2, q2, q3, q4, q5, q6⟩ := id hsm
    have e3 : s₂ = ({ (U.calling g mk a).setFrames s₂.frames with heap := s₂.heap, slotsUsed := s₂.slotsUsed } : State).setVm s₂.vm := by
      have : s₂ = ({ s₂ with vm := (U.calling g mk a).vm } : State).setVm s₂.vm := rfl
      rw [e2] at this
      exact this
    have hf₂ : s₂.frames = .throwing q :: .java g :: U.frames.tail := hend
    have hW' : U.WarmedH s₂.vm := hW₂
    have hs₂ : s₂ = ((({ U with heap := s₂.heap, slotsUsed := s₂.slotsUsed } : State).setVm s₂.vm).setTop g).pushFrame (.throwing q) := by
      refine e3.trans ?_
      rw [hf₂, State.calling_eq h.top, State.setFrames_setFrames, State.pushFrame, State.frames_setTop _ hr', State.setTop_of_frames _ hr', State.setFrames_setFrames, hr]
      rfl
    have hsame : U.sameButNew ({ U with heap := s₂.heap, slotsUsed := s₂.slotsUsed } : State) L mc ms := by
      refine ⟨?_, q2, q3, q4, q5, q6⟩
      obtain ⟨t, ht, -⟩ := State.frames_cons hr
      show ({ U with heap := s₂.heap, slotsUsed := s₂.slotsUsed } : State) = { U.setFrames U.frames with heap := s₂.heap, slotsUsed := s₂.slotsUsed }
      rw [State.setFrames_self ht]
    subst hg
    refine Or.inr ⟨q, ⟨(({ U with heap := s₂.heap, slotsUsed := s₂.slotsUsed } : State).setVm s₂.vm), Ls ++ L, c0 + mc, s0 + ms⟩,
      ⟨X.admits, X.cas, X.clock, X.frames, X.room, X.hears, X.method, X.code, (X.here.setHeapUsed s₂.heap s₂.slotsUsed).setVm hW'.alike, X.tail, State.WarmedH.trans X.warmed hW', X.limits, X.bytes, X.same.trans (hsame.setVm s.vm)⟩,
      ⟨g, mk, s₂, L, E, ce, rfl, rfl, hx, hce, hcv, hcl, rfl, hL, rfl, rfl⟩, ?_⟩
    show Steps p.tables e below _ (((({ U with heap := s₂.heap, slotsUsed := s₂.slotsUsed } : State).setVm s₂.vm).setTop g).pushFrame (.throwing q))
    rw [← hs₂]
    exact hsteps
end
variable {p : Program} {l : Launch} {e : Env} {R : Room} {s : State} {m : MethodId} {args : Array Value} {below : List Frame} {meth : Method} {c : Code} {T : State} {H : Heap} {locs : List Loc} {cells slots : Nat}
theorem vx_callVX (X : Stand p l e R s m args below meth c T locs cells slots) (hexec : p.tables.exec = Jvm.exec) {own C : String} {index : Nat} {y : MethodName} {bytes : ByteArray} {maxL : Nat} {ret : Option FieldType} {hh : List (Nat × Nat × Nat × Nat)}
    (hown : s.vm.findClass own = some m.cls) (hlink : (Cond.methodLink own index y).before args s = true) (hinst : (Cond.instanceMethod y).before args s = true) (hsel : (Cond.selects C y y).before args s = true)
    (hcode : (Cond.codeWith y bytes maxL ret hh).before args s = true) (hy : y.cls ≠ "java/lang/invoke/MethodHandle" ∧ y.cls ≠ "java/lang/invoke/VarHandle")
    {W9 : Nat} {Pre : Pt → Array Value → Prop} {Post : Pt → Array Value → Option Value → Pt → Prop} {PostX : Pt → Array Value → Addr → Pt → Prop} (hK : vx_Back l R p e below s args y 3 W9 Pre Post PostX)
    {b : Addr} {cellB : Cell} (hcell : T.heap[b]? = some cellB) (hobj : cellB.vm.isStatics = false) (hcls : s.vm.findClass C = some cellB.cls)
    {g : JFrame} (hg : g.method = m) (hsize : g.locals.size = c.maxLocals) {argsL rest : List Value} (hlen : ∀ sig, parseMethodDescriptor y.desc = some sig → argsL.length = sig.parameters.length)
    (hstack : g.stack = argsL.reverse ++ .ref b :: rest) (hW : 2 * g.monitorRoom + (rest.map fun v => v.category).sum ≤ W9) (hdg : decode c.code g.pc = .ok (.invokevirtual index, 3))
    (hpre : ∀ vm₁, s.WarmedH vm₁ → Pre ⟨T.setVm vm₁, locs, cells, slots⟩ (Value.ref b :: argsL).toArray) :
    (∃ (v : Option Value) (vm₁ : Vm) (B : Pt), s.WarmedH vm₁ ∧ Stand p l e R s m args below meth c B.U B.locs B.cells B.slots ∧ Post ⟨T.setVm vm₁, locs, cells, slots⟩ (Value.ref b :: argsL).toArray v B ∧
      ∀ target, Steps p.tables e below (B.U.setTop { g with pc := g.pc + 3, stack := v.toList ++ rest }) target → Steps p.tables e below (T.setTop g) target) ∨
    (∃ (q : Addr) (vm₁ : Vm) (B : Pt), s.WarmedH vm₁ ∧ Stand p l e R s m args below meth c B.U B.locs B.cells B.slots ∧ PostX ⟨T.setVm vm₁, locs, cells, slots⟩ (Value.ref b :: argsL).toArray q B ∧
      Steps p.tables e below (T.setTop g) ((B.U.setTop { g with stack := rest }).pushFrame (.throwing q))) := by
  obtain ⟨mk, methM, hnamed, hmethM, hstM, habM⟩ := Cond.instanceMethod_spec hinst
  obtain ⟨m8, methM', cM, hn8, hmethM', -, -, -, -, -, -, hsigM⟩ := Cond.codeWith_spec hcode
  cases Option.some.inj (hn8.symm.trans hnamed)
  cases hmethM.symm.trans hmethM'
  obtain ⟨c2, r2, m2, q1, q2, q3, q4, kP, hkP, hkPi⟩ := Cond.selects_spec hsel
  cases hcls.symm.trans q1
  cases (State.methodFound?_of_named hnamed hy).symm.trans q2
  cases hnamed.symm.trans q3
  have hselP : selectMethod e.platform s.vm cellB.cls mk = .method mk := by rw [Launch.admits_selectMethod X.admits]; exact q4
  obtain ⟨vm₁, X₁, hstep₁⟩ := X.invokevirtual hexec hown hlink hnamed hmethM hstM hkP hkPi hy (a := b) (cell := cellB) hcell
    (fun z h => by rw [h] at hobj; cases hobj) hselP hmethM habM hkP hkPi (g := g) hg (argsL := argsL) (rest := rest) (hlen _ hsigM) hstack hdg
  rcases hK m meth c ⟨T.setVm vm₁, locs, cells, slots⟩ { g with stack := rest } (.invokevirtual index) mk (Value.ref b :: argsL).toArray X₁ hg hsize hdg hW (X₁.named hnamed) (hpre vm₁ X₁.warmed) with ⟨v, B, X', hpost, hsteps⟩ | ⟨q, B, X', hpost, hsteps⟩
  · exact Or.inl ⟨v, vm₁, B, X₁.warmed, X', hpost, fun target h => hstep₁ _ fun acts => by rw [doInvoke_state]; exact hsteps.trans h⟩
  · exact Or.inr ⟨q, vm₁, B, X₁.warmed, X', hpost, hstep₁ _ fun acts => by rw [doInvoke_state]; exact hsteps⟩
theorem vx_callSX (X : Stand p l e R s m args below meth c T locs cells slots) (hexec : p.tables.exec = Jvm.exec) {own : String} {index : Nat} {y : MethodName} {bytes : ByteArray} {maxL : Nat} {ret : Option FieldType} {hh : List (Nat × Nat × Nat × Nat)}
    (hown : s.vm.findClass own = some m.cls) (hlink : (Cond.methodLink own index y).before args s = true) (hstat : (Cond.static y).before args s = true) (hinit : (Cond.initialized y.cls).before args s = true)
    (hcode : (Cond.codeWith y bytes maxL ret hh).before args s = true) (hy : y.cls ≠ "java/lang/invoke/MethodHandle" ∧ y.cls ≠ "java/lang/invoke/VarHandle")
    {W9 : Nat} {Pre : Pt → Array Value → Prop} {Post : Pt → Array Value → Option Value → Pt → Prop} {PostX : Pt → Array Value → Addr → Pt → Prop} (hK : vx_Back l R p e below s args y 3 W9 Pre Post PostX)
    {g : JFrame} (hg : g.method = m) (hsize : g.locals.size = c.maxLocals) {argsL rest : List Value} (hlen : ∀ sig, parseMethodDescriptor y.desc = some sig → argsL.length = sig.parameters.length)
    (hstack : g.stack = argsL.reverse ++ rest) (hW : 2 * g.monitorRoom + (rest.map fun v => v.category).sum ≤ W9) (hdg : decode c.code g.pc = .ok (.invokestatic index, 3))
    (hpre : ∀ vm₁, s.WarmedH vm₁ → Pre ⟨T.setVm vm₁, locs, cells, slots⟩ argsL.toArray) :
    (∃ (v : Option Value) (vm₁ : Vm) (B : Pt), s.WarmedH vm₁ ∧ Stand p l e R s m args below meth c B.U B.locs B.cells B.slots ∧ Post ⟨T.setVm vm₁, locs, cells, slots⟩ argsL.toArray v B ∧
      ∀ target, Steps p.tables e below (B.U.setTop { g with pc := g.pc + 3, stack := v.toList ++ rest }) target → Steps p.tables e below (T.setTop g) target) ∨
    (∃ (q : Addr) (vm₁ : Vm) (B : Pt), s.WarmedH vm₁ ∧ Stand p l e R s m args below meth c B.U B.locs B.cells B.slots ∧ PostX ⟨T.setVm vm₁, locs, cells, slots⟩ argsL.toArray q B ∧
      Steps p.tables e below (T.setTop g) ((B.U.setTop { g with stack := rest }).pushFrame (.throwing q))) := by
  obtain ⟨mk, methM, cM, hnamed, hmethM, -, -, -, -, -, -, hsigM⟩ := Cond.codeWith_spec hcode
  have hstatic : methM.isStatic = true := Cond.static_spec hnamed hmethM hstat
  obtain ⟨kP, hkP, -⟩ := className_of_methodNamed hnamed
  have hinitP : kP.init = .initialized := Cond.initialized_spec (findClass_of_methodNamed hnamed) hkP hinit
  obtain ⟨vm₁, X₁, hstep₁⟩ := X.invokestatic hexec hown hlink hnamed hmethM hstatic hkP hinitP hy (g := g) hg (argsL := argsL) (rest := rest) (hlen _ hsigM) hstack hdg
  rcases hK m meth c ⟨T.setVm vm₁, locs, cells, slots⟩ { g with stack := rest } (.invokestatic index) mk argsL.toArray X₁ hg hsize hdg hW (X₁.named hnamed) (hpre vm₁ X₁.warmed) with ⟨v, B, X', hpost, hsteps⟩ | ⟨q, B, X', hpost, hsteps⟩
  · exact Or.inl ⟨v, vm₁, B, X₁.warmed, X', hpost, fun target h => hstep₁ _ fun acts => by rw [doInvoke_state]; exact hsteps.trans h⟩
  · exact Or.inr ⟨q, vm₁, B, X₁.warmed, X', hpost, hstep₁ _ fun acts => by rw [doInvoke_state]; exact hsteps⟩
theorem vx_callVW (X : Stand p l e R s m args below meth c T locs cells slots) (hexec : p.tables.exec = Jvm.exec) {own C : String} {index : Nat} {y : MethodName} {bytes : ByteArray} {maxL : Nat} {ret : Option FieldType} {hh : List (Nat × Nat × Nat × Nat)}
    (hown : s.vm.findClass own = some m.cls) (hlink : (Cond.methodLink own index y).before args s = true) (hinst : (Cond.instanceMethod y).before args s = true) (hsel : (Cond.selects C y y).before args s = true)
    (hcode : (Cond.codeWith y bytes maxL ret hh).before args s = true) (hy : y.cls ≠ "java/lang/invoke/MethodHandle" ∧ y.cls ≠ "java/lang/invoke/VarHandle")
    {W9 : Nat} {Pre : Pt → Array Value → Prop} {Post : Pt → Array Value → Option Value → Pt → Prop} (hK : Back l R p e below s args y 3 W9 Pre Post)
    {b : Addr} {cellB : Cell} (hcell : T.heap[b]? = some cellB) (hobj : cellB.vm.isStatics = false) (hcls : s.vm.findClass C = some cellB.cls)
    {g : JFrame} (hg : g.method = m) (hsize : g.locals.size = c.maxLocals) {argsL rest : List Value} (hlen : ∀ sig, parseMethodDescriptor y.desc = some sig → argsL.length = sig.parameters.length)
    (hstack : g.stack = argsL.reverse ++ .ref b :: rest) (hW : 2 * g.monitorRoom + (rest.map fun v => v.category).sum ≤ W9) (hdg : decode c.code g.pc = .ok (.invokevirtual index, 3))
    (hpre : ∀ vm₁, s.WarmedH vm₁ → Pre ⟨T.setVm vm₁, locs, cells, slots⟩ (Value.ref b :: argsL).toArray) :
    ∃ (v : Option Value) (vm₁ : Vm) (B : Pt), s.WarmedH vm₁ ∧ Stand p l e R s m args below meth c B.U B.locs B.cells B.slots ∧ Post ⟨T.setVm vm₁, locs, cells, slots⟩ (Value.ref b :: argsL).toArray v B ∧
      ∀ target, Steps p.tables e below (B.U.setTop { g with pc := g.pc + 3, stack := v.toList ++ rest }) target → Steps p.tables e below (T.setTop g) target := by
  obtain ⟨mk, methM, hnamed, hmethM, hstM, habM⟩ := Cond.instanceMethod_spec hinst
  obtain ⟨m8, methM', cM, hn8, hmethM', -, -, -, -, -, -, hsigM⟩ := Cond.codeWith_spec hcode
  cases Option.some.inj (hn8.symm.trans hnamed)
  cases hmethM.symm.trans hmethM'
  obtain ⟨c2, r2, m2, q1, q2, q3, q4, kP, hkP, hkPi⟩ := Cond.selects_spec hsel
  cases hcls.symm.trans q1
  cases (State.methodFound?_of_named hnamed hy).symm.trans q2
  cases hnamed.symm.trans q3
  have hselP : selectMethod e.platform s.vm cellB.cls mk = .method mk := by rw [Launch.admits_selectMethod X.admits]; exact q4
  obtain ⟨vm₁, X₁, hstep₁⟩ := X.invokevirtual hexec hown hlink hnamed hmethM hstM hkP hkPi hy (a := b) (cell := cellB) hcell
    (fun z h => by rw [h] at hobj; cases hobj) hselP hmethM habM hkP hkPi (g := g) hg (argsL := argsL) (rest := rest) (hlen _ hsigM) hstack hdg
  obtain ⟨v, B, X', hpost, hsteps⟩ := hK m meth c ⟨T.setVm vm₁, locs, cells, slots⟩ { g with stack := rest } (.invokevirtual index) mk (Value.ref b :: argsL).toArray X₁ hg hsize hdg hW (X₁.named hnamed) (hpre vm₁ X₁.warmed)
  exact ⟨v, vm₁, B, X₁.warmed, X', hpost, fun target h => hstep₁ _ fun acts => by rw [doInvoke_state]; exact hsteps.trans h⟩
abbrev vx_CVW (R : Room) (s : State) (args : Array Value) (own C : String) (index : Nat) (y : MethodName) (bytes : ByteArray) (maxL : Nat) (ret : Option FieldType) (hh : List (Nat × Nat × Nat × Nat)) (ws : List Cond) (rm : Room) (mc ms n : Nat) : Prop :=
  (rm.cells = mc ∧ rm.slots = ms ∧ rm.frames + 1 ≤ R.frames ∧ 8 + (maxL + 11) + rm.locals ≤ R.locals ∧ (∀ w ∈ ws, ∀ (a' : Array Value) (U : State), s.WarmedH U.vm → w.before a' U = true) ∧ Cond.codeWith y bytes maxL ret hh ∈ ws) ∧
  (Cond.codeWith y bytes maxL ret hh).before args s = true ∧ (Cond.initialized y.cls).before args s = true ∧ (y.cls ≠ "java/lang/invoke/MethodHandle" ∧ y.cls ≠ "java/lang/invoke/VarHandle") ∧
  (∀ sig, parseMethodDescriptor y.desc = some sig → n = sig.parameters.length) ∧ (Cond.methodLink own index y).before args s = true ∧ (Cond.instanceMethod y).before args s = true ∧ (Cond.selects C y y).before args s = true
theorem vx_cwVW {own C : String} {index maxL mc ms : Nat} {y : MethodName} {bytes : ByteArray} {ret : Option FieldType} {hh : List (Nat × Nat × Nat × Nat)} {Ts ws ws' : List Cond} {rm : Room} (n : Nat) (ht : ∀ w ∈ Ts, w.before args s = true) (hT : GoodIn Ts (wsV own index C y ws)) (hw : ws = Cond.codeWith y bytes maxL ret hh :: ws') (hrc : rm.cells = mc) (hrs : rm.slots = ms)
    (hd : y.cls = C ∧ y.cls ≠ "java/lang/invoke/MethodHandle" ∧ y.cls ≠ "java/lang/invoke/VarHandle" ∧ (parseMethodDescriptor y.desc).map (fun d => d.parameters.length) = some n) (hR : rm.frames + 1 ≤ R.frames ∧ 8 + (maxL + 11) + rm.locals ≤ R.locals) :
    vx_CVW R s args own C index y bytes maxL ret hh ws rm mc ms n := by
  obtain ⟨hC, hd⟩ := hd
  subst hC
  have ok : ∀ w ∈ wsV own index y.cls y ws, w.before args s = true := fun w h => ht w (hT w h).1
  have hG : GoodIn Ts ws := fun w h => hT w (by unfold wsV; exact List.mem_append_right _ h)
  have hc : Cond.codeWith y bytes maxL ret hh ∈ ws := by rw [hw]; exact List.mem_cons_self
  refine ⟨⟨hrc, hrs, hR.1, hR.2, pay_in ht hG, hc⟩, ht _ (hG _ hc).1, ok _ (by simp [wsV]), ⟨hd.1, hd.2.1⟩, fun sig h => ?_, ok _ (by simp [wsV]), ok _ (by simp [wsV]), ok _ (by simp [wsV])⟩
  have h2 := hd.2.2
  rw [h] at h2
  exact (Option.some.inj h2).symm
theorem vx_runVW {y : MethodName} {bytes cc : ByteArray} {maxL nL mc ms n index : Nat} {ret : Option FieldType} {hh : List (Nat × Nat × Nat × Nat)} {ws : List Cond} {rm : Room} {Pc : Array Value → State → Prop} {Qc : Array Value → State → Outcome → State → Prop} {free : Addr → Prop} {Ts : List Cond} {own C : String} {b : Addr} {As rest : List Value} {g : JFrame}
    (S : CallFix p m c cc nL s args Ts own) (hM : Met l y ws rm Pc Qc mc ms free) (cw : vx_CVW R s args own C index y bytes maxL ret hh ws rm mc ms n) (hp : PreV s H C b Pc As)
    (hg : g.method = m) (hn : As.length = n) (hsize : g.locals.size = nL) (hstack : g.stack = As.reverse ++ .ref b :: rest) (hW : 2 * g.monitorRoom + (rest.map fun v => v.category).sum ≤ 8) (hdg : decode cc g.pc = .ok (.invokevirtual index, 3)) (hf : cells + mc ≤ R.cells ∧ slots + ms ≤ R.slots) :
    va_Run p l e R s m args below meth c H locs cells slots mc ms g rest (Qc (Value.ref b :: As).toArray) free := by
  obtain ⟨⟨hrc, hrs, hfr, hlo, hws, hcw⟩, hcode, hini, hy, hlen, hl, hin, hse⟩ := cw
  have hK : Back l R p e below s args y 3 8 (PreOf R mc ms Pc) (PostOf Qc mc ms free) := va_backW (hh := hh) (bytes := bytes) (maxL := maxL) (ret := ret) hM hp.1 hrc hrs hfr hlo hws hcw (fun a' U hW => word_at hW (Or.inl (by first | rfl | simp [Cond.onTables, Cond.keeps, Cond.steady])) hini)
  obtain ⟨hx, hb, hml, ho, -⟩ := S
  obtain ⟨-, ⟨cellB, hcB, hoB, hclB⟩, hPc⟩ := hp
  intro T hT X
  obtain ⟨v, vm₁, ⟨U', l2, c2, s2⟩, hW₁, X', ⟨g', mk, t, L, e1, e2, hq, h1, hL, h2, h3⟩, st⟩ := vx_callVW X hx (C := C) (hh := hh) (bytes := bytes) (maxL := maxL) (ret := ret) ho hl hin hse hcode hy hK (by rw [hT]; exact hcB) hoB hclB hg (hsize.trans hml.symm) (argsL := As) (rest := rest) (fun sig h => hn.trans (hlen sig h)) hstack hW (by rw [hb]; exact hdg)
    (fun vm₁ hW₁ => ⟨hf.1, hf.2, hPc (T.setVm vm₁) hT hW₁⟩)
  dsimp only [Pt.U, Pt.locs, Pt.cells, Pt.slots] at X' e1 e2 h1 h2 h3 st
  subst h1; subst h2; subst h3
  exact ⟨v, (T.setVm vm₁).calling g' mk (Value.ref b :: As).toArray, t, U', L, hT, X', hL, e1, e2, hq, st⟩
section
variable {y : MethodName} {bytes cc : ByteArray} {maxL nL mc ms n index : Nat} {ret : Option FieldType} {ws : List Cond} {rm : Room} {Pc : Array Value → State → Prop} {Qc : Array Value → State → Outcome → State → Prop} {XC : String → State → State → Prop} {free : Addr → Prop} {Ts : List Cond} {own C : String} {b : Addr} {As rest : List Value} {g : JFrame}
theorem vx_runVX {hh : List (Nat × Nat × Nat × Nat)} (S : CallFix p m c cc nL s args Ts own) (hM : vx_Met l y ws rm Pc Qc XC mc ms free) (cw : vx_CVW R s args own C index y bytes maxL ret hh ws rm mc ms n) (hp : PreV s H C b Pc As)
    (hg : g.method = m) (hn : As.length = n) (hsize : g.locals.size = nL) (hstack : g.stack = As.reverse ++ .ref b :: rest) (hW : 2 * g.monitorRoom + (rest.map fun v => v.category).sum ≤ 8) (hdg : decode cc g.pc = .ok (.invokevirtual index, 3)) (hf : cells + mc ≤ R.cells ∧ slots + ms ≤ R.slots) :
    vx_Run p l e R s m args below meth c H locs cells slots mc ms g rest (Qc (Value.ref b :: As).toArray) XC free := by
  obtain ⟨⟨hrc, hrs, hfr, hlo, hws, hcw⟩, hcode, hini, hy, hlen, hl, hin, hse⟩ := cw
  have hK : vx_Back l R p e below s args y 3 8 (PreOf R mc ms Pc) (PostOf Qc mc ms free) (vx_Post XC mc ms free) := vx_backW (hh := hh) (bytes := bytes) (maxL := maxL) (ret := ret) hM hp.1 hrc hrs hfr hlo hws hcw (fun a' U hW => word_at hW (Or.inl (by first | rfl | simp [Cond.onTables, Cond.keeps, Cond.steady])) hini)
  obtain ⟨hx, hb, hml, ho, -⟩ := S
  obtain ⟨-, ⟨cellB, hcB, hoB, hclB⟩, hPc⟩ := hp
  intro T hT X
  rcases vx_callVX X hx (C := C) (hh := hh) (bytes := bytes) (maxL := maxL) (ret := ret) ho hl hin hse hcode hy hK (by rw [hT]; exact hcB) hoB hclB hg (hsize.trans hml.symm) (argsL := As) (rest := rest) (fun sig h => hn.trans (hlen sig h)) hstack hW (by rw [hb]; exact hdg)
    (fun vm₁ hW₁ => ⟨hf.1, hf.2, hPc (T.setVm vm₁) hT hW₁⟩) with ⟨v, vm₁, ⟨U', l2, c2, s2⟩, hW₁, X', ⟨g', mk, t, L, e1, e2, hq, h1, hL, h2, h3⟩, st⟩ | ⟨q, vm₁, ⟨U', l2, c2, s2⟩, hW₁, X', ⟨g', mk, t, L, E, ce, e1, e2, hq, hce, hcv, hcl, h1, hL, h2, h3⟩, st⟩
  · dsimp only [Pt.U, Pt.locs, Pt.cells, Pt.slots] at X' e1 e2 h1 h2 h3 st
    subst h1; subst h2; subst h3
    exact Or.inl ⟨v, (T.setVm vm₁).calling g' mk (Value.ref b :: As).toArray, t, U', L, hT, X', hL, e1, e2, hq, st⟩
  · dsimp only [Pt.U, Pt.locs, Pt.cells, Pt.slots] at X' e1 e2 h1 h2 h3 st hcl
    subst h1; subst h2; subst h3
    exact Or.inr ⟨q, (T.setVm vm₁).calling g' mk (Value.ref b :: As).toArray, t, U', L, E, ce, hT, X', hL, e1, e2, hq, hce, hcv, vx_cls hW₁ hcl, st⟩
theorem vx_runSX {hh : List (Nat × Nat × Nat × Nat)} (S : CallFix p m c cc nL s args Ts own) (hM : vx_Met l y ws rm Pc Qc XC mc ms free) (cw : vx_CSW R s args own index y bytes maxL ret hh ws rm mc ms n) (hp : PreS s H Pc As)
    (hg : g.method = m) (hn : As.length = n) (hsize : g.locals.size = nL) (hstack : g.stack = As.reverse ++ rest) (hW : 2 * g.monitorRoom + (rest.map fun v => v.category).sum ≤ 8) (hdg : decode cc g.pc = .ok (.invokestatic index, 3)) (hf : cells + mc ≤ R.cells ∧ slots + ms ≤ R.slots) :
    vx_Run p l e R s m args below meth c H locs cells slots mc ms g rest (Qc As.toArray) XC free := by
  obtain ⟨⟨hrc, hrs, hfr, hlo, hws, hcw⟩, hcode, hini, hy, hlen, hl, hstt⟩ := cw
  have hK : vx_Back l R p e below s args y 3 8 (PreOf R mc ms Pc) (PostOf Qc mc ms free) (vx_Post XC mc ms free) := vx_backW (hh := hh) (bytes := bytes) (maxL := maxL) (ret := ret) hM hp.1 hrc hrs hfr hlo hws hcw (fun a' U hW => word_at hW (Or.inl (by first | rfl | simp [Cond.onTables, Cond.keeps, Cond.steady])) hini)
  obtain ⟨hx, hb, hml, ho, -⟩ := S
  intro T hT X
  rcases vx_callSX X hx (hh := hh) (bytes := bytes) (maxL := maxL) (ret := ret) ho hl hstt hini hcode hy hK hg (hsize.trans hml.symm) (argsL := As) (rest := rest) (fun sig h => hn.trans (hlen sig h)) hstack hW (by rw [hb]; exact hdg)
    (fun vm₁ hW₁ => ⟨hf.1, hf.2, hp.2 (T.setVm vm₁) hT hW₁⟩) with ⟨v, vm₁, ⟨U', l2, c2, s2⟩, hW₁, X', ⟨g', mk, t, L, e1, e2, hq, h1, hL, h2, h3⟩, st⟩ | ⟨q, vm₁, ⟨U', l2, c2, s2⟩, hW₁, X', ⟨g', mk, t, L, E, ce, e1, e2, hq, hce, hcv, hcl, h1, hL, h2, h3⟩, st⟩
  · dsimp only [Pt.U, Pt.locs, Pt.cells, Pt.slots] at X' e1 e2 h1 h2 h3 st
    subst h1; subst h2; subst h3
    exact Or.inl ⟨v, (T.setVm vm₁).calling g' mk As.toArray, t, U', L, hT, X', hL, e1, e2, hq, st⟩
  · dsimp only [Pt.U, Pt.locs, Pt.cells, Pt.slots] at X' e1 e2 h1 h2 h3 st hcl
    subst h1; subst h2; subst h3
    exact Or.inr ⟨q, (T.setVm vm₁).calling g' mk As.toArray, t, U', L, E, ce, hT, X', hL, e1, e2, hq, hce, hcv, vx_cls hW₁ hcl, st⟩
end
end VXH
theorem vx_ofWH {l : Launch} {y : MethodName} {ws ws' : List Cond} {rm : Room} {Pc : Array Value → State → Prop} {Qc : Array Value → State → Outcome → State → Prop} {XC : String → State → State → Prop} {mc ms : Nat} {free : Addr → Prop} {cc : ByteArray} {maxL : Nat} {ret : Option FieldType} {hh : List (Nat × Nat × Nat × Nat)}
    (hy : plainName y.cls = true) (hw : ws = Cond.codeWith y cc maxL ret hh :: ws')
    (body : ∀ p e s m args below meth c s₁, BodyLoose p l y (headSpec ws rm) cc maxL ret e s m args below meth c s₁ → c.maxLocals = maxL → Pc args s →
      W p l e (headSpec ws rm).room s m args below meth c s.heap [] 0 0 (vx_MQ below Qc XC args s mc ms free) (entryFrame m args maxL)) : vx_Met l y ws rm Pc Qc XC mc ms free := by
  refine MetFree.of_bodyS (code := cc) (maxLocals := maxL) (ret := ret) hy ?_ ?_
  · intro args s m h hn
    obtain ⟨m9, meth, c, hn9, h1, h2, h3, h4, -, h5, h6, -⟩ := Cond.codeWith_spec (atoms_spec (ws := ws) h _ (by rw [hw]; exact List.mem_cons_self))
    cases hn.symm.trans hn9
    exact ⟨meth, c, h1, h2, h3, h4, h5, h6⟩
  · intro p e s m args below meth c s₁ B hml hP _
    have hh0 : s₁.heap = s.heap := by rw [B.state]; rfl
    obtain ⟨t, a1, o, b1, b2, b3⟩ := body p e s m args below meth c s₁ B hml hP s₁ hh0 (Stand.of_body B)
    exact ⟨t, o, a1, b1, b2, b3⟩
/-! ===== END ===== -/
end
section
/-! the memory: places, each a row of ints; what the world's cells hold is read off it -/
abbrev Mem : Type := Nat → Nat → Int32
def setR (M : Mem) (p : Nat) (f : Nat → Int32) : Mem := fun q => if q = p then f else M q
def put (M : Mem) (p k : Nat) (v : Int32) : Mem := setR M p (upd (M p) k v)
/-- what lies at a place: kind (0..10: an object of that class; 20..25: an array), length, references -/
abbrev Shp : Type := Nat → Nat × Nat × (Nat → Option Nat)
/-- the shape of all that the law makes: place, kind, length, references; r: the row that the reference works on -/
def zl : List (Nat × Nat × List (Option Nat)) := [(9, 0, [some 1, some 3, some 5, some 10, some 23, some 24, some 130, none, some 143]), (7, 0, [some 2, none, none, none, none, none, none, none, none, none]), (21, 500, []), (6, 0, [none, none, none, none, some 4, none]), (20, 16, []), (4, 0, [some 6, some 7, some 8, some 9, none, none]), (20, 20, []), (20, 20, []), (20, 20, []), (20, 20, []), (5, 0, [some 11, some 12, none, some 13, some 15, some 19, none, none, none]), (1, 0, []), (20, 16, []), (8, 0, [some 14, none, none]), (20, 8, []), (3, 0, [none, some 16, some 17, some 18, none, none, none]), (20, 30, []), (20, 30, []), (20, 30, []), (3, 0, [none, some 20, some 21, some 22, none, none, none]), (20, 90, []), (20, 90, []), (20, 90, []), (1, 0, []), (0, 0, [some 25, none, none]), (24, 8, [some 26, some 39, some 52, some 65, some 78, some 91, some 104, some 117]), (5, 0, [some 27, some 28, none, some 29, some 31, some 35, none, none, none]), (1, 0, []), (20, 16, []), (8, 0, [some 30, none, none]), (20, 8, []), (3, 0, [none, some 32, some 33, some 34, none, none, none]), (20, 30, []), (20, 30, []), (20, 30, []), (3, 0, [none, some 36, some 37, some 38, none, none, none]), (20, 90, []), (20, 90, []), (20, 90, []), (5, 0, [some 40, some 41, none, some 42, some 44, some 48, none, none, none]), (1, 0, []), (20, 16, []), (8, 0, [some 43, none, none]), (20, 8, []), (3, 0, [none, some 45, some 46, some 47, none, none, none]), (20, 30, []), (20, 30, []), (20, 30, []), (3, 0, [none, some 49, some 50, some 51, none, none, none]), (20, 90, []), (20, 90, []), (20, 90, []), (5, 0, [some 53, some 54, none, some 55, some 57, some 61, none, none, none]), (1, 0, []), (20, 16, []), (8, 0, [some 56, none, none]), (20, 8, []), (3, 0, [none, some 58, some 59, some 60, none, none, none]), (20, 30, []), (20, 30, []), (20, 30, []), (3, 0, [none, some 62, some 63, some 64, none, none, none]), (20, 90, []), (20, 90, []), (20, 90, []), (5, 0, [some 66, some 67, none, some 68, some 70, some 74, none, none, none]), (1, 0, []), (20, 16, []), (8, 0, [some 69, none, none]), (20, 8, []), (3, 0, [none, some 71, some 72, some 73, none, none, none]), (20, 30, []), (20, 30, []), (20, 30, []), (3, 0, [none, some 75, some 76, some 77, none, none, none]), (20, 90, []), (20, 90, []), (20, 90, []), (5, 0, [some 79, some 80, none, some 81, some 83, some 87, none, none, none]), (1, 0, []), (20, 16, []), (8, 0, [some 82, none, none]), (20, 8, []), (3, 0, [none, some 84, some 85, some 86, none, none, none]), (20, 30, []), (20, 30, []), (20, 30, []), (3, 0, [none, some 88, some 89, some 90, none, none, none]), (20, 90, []), (20, 90, []), (20, 90, []), (5, 0, [some 92, some 93, none, some 94, some 96, some 100, none, none, none]), (1, 0, []), (20, 16, []), (8, 0, [some 95, none, none]), (20, 8, []), (3, 0, [none, some 97, some 98, some 99, none, none, none]), (20, 30, []), (20, 30, []), (20, 30, []), (3, 0, [none, some 101, some 102, some 103, none, none, none]), (20, 90, []), (20, 90, []), (20, 90, []), (5, 0, [some 105, some 106, none, some 107, some 109, some 113, none, none, none]), (1, 0, []), (20, 16, []), (8, 0, [some 108, none, none]), (20, 8, []), (3, 0, [none, some 110, some 111, some 112, none, none, none]), (20, 30, []), (20, 30, []), (20, 30, []), (3, 0, [none, some 114, some 115, some 116, none, none, none]), (20, 90, []), (20, 90, []), (20, 90, []), (5, 0, [some 118, some 119, none, some 120, some 122, some 126, none, none, none]), (1, 0, []), (20, 16, []), (8, 0, [some 121, none, none]), (20, 8, []), (3, 0, [none, some 123, some 124, some 125, none, none, none]), (20, 30, []), (20, 30, []), (20, 30, []), (3, 0, [none, some 127, some 128, some 129, none, none, none]), (20, 90, []), (20, 90, []), (20, 90, []), (5, 0, [some 131, some 132, none, some 133, some 135, some 139, none, none, none]), (1, 0, []), (20, 16, []), (8, 0, [some 134, none, none]), (20, 8, []), (3, 0, [none, some 136, some 137, some 138, none, none, none]), (20, 30, []), (20, 30, []), (20, 30, []), (3, 0, [none, some 140, some 141, some 142, none, none, none]), (20, 90, []), (20, 90, []), (20, 90, []), (2, 0, [some 144, none]), (21, 360, []), (10, 0, [some 146, some 147, some 148, some 149, some 150, some 151, none, none, none, none, none, none, some 152, none, some 153, none, none, none, none, none, none, none, none, none, some 154, some 155, none, none]), (20, 405, []), (20, 405, []), (20, 405, []), (20, 405, []), (20, 405, []), (20, 3240, []), (20, 400, []), (20, 500, []), (20, 60, []), (25, 9, [some 1007, some 1008, some 1009, some 1010, some 1011, some 1012, some 1013, some 1014, some 1015]), (22, 1, []), (23, 0, [])]
def Z0 (r : Nat) : Shp := fun p => ((zl.getD p (99, 0, [])).1, (zl.getD p (99, 0, [])).2.1, fun k => if p = 145 ∧ k = 6 then some r else (zl.getD p (99, 0, [])).2.2.getD k none)
/-- lengths -/
def zn (p : Nat) : Nat := (zl.getD p (99, 0, [])).2.1
def stL : List Nat := [10, 26, 39, 52, 65, 78, 91, 104, 117, 130]
def kiL : List Nat := 23 :: stL.map (· + 1)
def wbL : List Nat := stL.map (· + 3)
def saL : List Nat := stL.map (· + 5) ++ stL.map (· + 9)
/-- the configuration: class numbers, array classes, addresses, live places, shape, the start of what may be written -/
abbrev Wc : Type := va_G × (Nat → ClassId) × (Nat → Nat) × List Nat × Shp × Nat
abbrev wD (w : Wc) : va_G := w.1
abbrev wca (w : Wc) : Nat → ClassId := w.2.1
abbrev wad (w : Wc) : Nat → Nat := w.2.2.1
abbrev wL (w : Wc) : List Nat := w.2.2.2.1
abbrev wZ (w : Wc) : Shp := w.2.2.2.2.1
abbrev wlo (w : Wc) : Nat := w.2.2.2.2.2
abbrev wA (w : Wc) : Nat → Prop := fun q => wlo w ≤ q
/-- field kinds of each class: 0 an int, 1 a reference -/
def ftab : List (List Nat) := [[1,0,0], [0,0,0,0,0,0,0,0,0,0,0,0,0], [1,0], [0,1,1,1,0,0,0], [1,1,1,1,0,0], [1,1,0,1,1,1,0,0,0], [0,0,0,0,1,0], [1,0,0,0,0,0,0,0,0,0], [1,0,0], [1,1,1,1,1,1,1,0,1], [1,1,1,1,1,1,1,0,0,0,0,0,1,0,1,0,0,0,0,0,0,0,0,0,1,1,0,0]]
def ftag (ci : Nat) : List Nat := ftab.getD ci []
def fval (w : Wc) (z : Nat → Option Nat) (m : Nat → Int32) (tag k : Nat) : Value :=
  if tag = 0 then .int (m k) else va_rf ((z k).map (wad w))
def flds (w : Wc) (ci : Nat) (z : Nat → Option Nat) (m : Nat → Int32) : List Value := (List.range (ftag ci).length).map (fun k => fval w z m ((ftag ci).getD k 0) k)
def cellE (w : Wc) (M : Mem) (p : Nat) : va_E :=
  if (wZ w p).1 < 20 then .inr ((wZ w p).1, flds w (wZ w p).1 (wZ w p).2.2 (M p))
  else if (wZ w p).1 = 20 then .inl (wca w 0, (wZ w p).2.1, .inl (M p))
  else if (wZ w p).1 = 21 then .inl (wca w 1, (wZ w p).2.1, .inl (M p))
  else if (wZ w p).1 = 22 then .inl (wca w 2, 1, .inr (.inl (fun j => (M p j).toInt64)))
  else if (wZ w p).1 = 23 then .inl (wca w 3, 1, .inr (.inr (.inr (.inl (fun _ => UInt64.ofNat (wZ w p).2.1)))))
  else if (wZ w p).1 = 24 then .inl (wca w 4, (wZ w p).2.1, .inr (.inr (.inr (.inr (fun j => ((wZ w p).2.2 j).map (wad w))))))
  else .inl (wca w 5, (wZ w p).2.1, .inr (.inr (.inr (.inr (fun j => ((wZ w p).2.2 j).map (wad w))))))
def wtys (w : Wc) : List (ClassId × FieldType) := [(wca w 0, .int), (wca w 1, .byte), (wca w 2, .long), (wca w 3, .double), (wca w 4, .object "KiteLogger$Station"), (wca w 5, .object "java/lang/String")]
def wW (w : Wc) (M : Mem) : va_W := (wL w).map (fun p => (wad w p, cellE w M p))
def Rp (w : Wc) (M : Mem) (H : Heap) : Prop := va_P (wD w) vwCl (wW w M) H
/-- the live places are apart, and may be written -/
def Wok (w : Wc) : Prop := (wL w).Nodup ∧ (∀ p ∈ wL w, ∀ q ∈ wL w, wad w p = wad w q → p = q) ∧ ∀ p ∈ wL w, wA w (wad w p)
theorem wW_get {w : Wc} {M : Mem} {p : Nat} (h : p ∈ wL w) : ∃ k : Nat, (wL w)[k]? = some p ∧ (wW w M)[k]? = some (wad w p, cellE w M p) := by
  obtain ⟨k, hk⟩ := List.getElem?_of_mem h
  exact ⟨k, hk, by unfold wW; rw [List.getElem?_map, hk, Option.map_some]⟩
theorem wD_of {w : Wc} (h : Wok w) (M : Mem) : va_D (wA w) (wW w M) := by
  have key : ∀ (i : Nat) (q : Nat × va_E), (wW w M)[i]? = some q → ∃ p, (wL w)[i]? = some p ∧ wad w p = q.1 := by
    intro i q hq
    unfold wW at hq
    rw [List.getElem?_map] at hq
    cases hi : (wL w)[i]? with
    | none => rw [hi] at hq; cases hq
    | some p => rw [hi] at hq; cases hq; exact ⟨p, rfl, rfl⟩
  refine ⟨fun i j x y hi hj hxy => ?_, fun k q hk => ?_⟩
  · obtain ⟨p, h1, h2⟩ := key i x hi
    obtain ⟨q, h3, h4⟩ := key j y hj
    have hpq : p = q := h.2.1 p (List.mem_of_getElem? h1) q (List.mem_of_getElem? h3) (by rw [h2, h4]; exact hxy)
    subst hpq
    have hil : i < (wL w).length := (List.getElem?_eq_some_iff.mp h1).1
    exact (List.getElem?_inj hil h.1).mp (h1.trans h3.symm)
  · obtain ⟨p, h1, h2⟩ := key k q hk
    rw [← h2]
    exact h.2.2 p (List.mem_of_getElem? h1)
theorem setR_self {M : Mem} {p : Nat} {f : Nat → Int32} : setR M p f p = f := if_pos rfl
theorem setR_ne {M : Mem} {p q : Nat} {f : Nat → Int32} (h : q ≠ p) : setR M p f q = M q := if_neg h
theorem cellE_ne {w : Wc} {M : Mem} {p q : Nat} {f : Nat → Int32} (h : q ≠ p) : cellE w (setR M p f) q = cellE w M q := by unfold cellE; rw [setR_ne h]
/-- the world behind a store at a place -/
theorem wW_set {w : Wc} {M : Mem} (hw : Wok w) {p k : Nat} {f : Nat → Int32} {e : va_E} (hk : (wL w)[k]? = some p) (he : e = cellE w (setR M p f) p) : (wW w M).set k (wad w p, e) = wW w (setR M p f) := by
  subst he
  apply List.ext_getElem?
  intro j
  have hkl : k < (wL w).length := (List.getElem?_eq_some_iff.mp hk).1
  by_cases hj : j = k
  · subst hj
    rw [List.getElem?_set_self (by unfold wW; rw [List.length_map]; exact hkl)]
    unfold wW
    rw [List.getElem?_map, hk, Option.map_some]
  · rw [List.getElem?_set_ne (Ne.symm hj)]
    unfold wW
    rw [List.getElem?_map, List.getElem?_map]
    cases hq : (wL w)[j]? with
    | none => rw [Option.map_none, Option.map_none]
    | some q =>
      have hne : q ≠ p := by
        intro e
        subst e
        have hjl : j < (wL w).length := (List.getElem?_eq_some_iff.mp hq).1
        exact hj ((List.getElem?_inj hjl hw.1).mp (hq.trans hk.symm))
      rw [Option.map_some, Option.map_some, cellE_ne hne]
theorem cellE_obj {w : Wc} {M : Mem} {p ci : Nat} (h : (wZ w p).1 = ci) (hc : ci < 20) : cellE w M p = .inr (ci, flds w ci (wZ w p).2.2 (M p)) := by
  unfold cellE
  rw [h, if_pos hc]
theorem cellE_arr {w : Wc} {M : Mem} {p : Nat} (h : (wZ w p).1 = 20) : cellE w M p = .inl (wca w 0, (wZ w p).2.1, .inl (M p)) := by
  unfold cellE
  rw [h, if_neg (by decide), if_pos rfl]
theorem cellE_byt {w : Wc} {M : Mem} {p : Nat} (h : (wZ w p).1 = 21) : cellE w M p = .inl (wca w 1, (wZ w p).2.1, .inl (M p)) := by
  unfold cellE
  rw [h, if_neg (by decide), if_neg (by decide), if_pos rfl]
theorem cellE_lng {w : Wc} {M : Mem} {p : Nat} (h : (wZ w p).1 = 22) : cellE w M p = .inl (wca w 2, 1, .inr (.inl (fun j => (M p j).toInt64))) := by
  unfold cellE
  rw [h, if_neg (by decide), if_neg (by decide), if_neg (by decide), if_pos rfl]
theorem cellE_sta {w : Wc} {M : Mem} {p : Nat} (h : (wZ w p).1 = 24) : cellE w M p = .inl (wca w 4, (wZ w p).2.1, .inr (.inr (.inr (.inr (fun j => ((wZ w p).2.2 j).map (wad w)))))) := by
  unfold cellE
  rw [h, if_neg (by decide), if_neg (by decide), if_neg (by decide), if_neg (by decide), if_neg (by decide), if_pos rfl]
theorem cellE_str {w : Wc} {M : Mem} {p : Nat} (h : (wZ w p).1 = 25) : cellE w M p = .inl (wca w 5, (wZ w p).2.1, .inr (.inr (.inr (.inr (fun j => ((wZ w p).2.2 j).map (wad w)))))) := by
  unfold cellE
  rw [h, if_neg (by decide), if_neg (by decide), if_neg (by decide), if_neg (by decide), if_neg (by decide), if_neg (by decide)]
theorem flds_len {w : Wc} {ci : Nat} {z : Nat → Option Nat} {m : Nat → Int32} : (flds w ci z m).length = (ftag ci).length := by simp [flds]
theorem flds_get {w : Wc} {ci k : Nat} {z : Nat → Option Nat} {m : Nat → Int32} (hk : k < (ftag ci).length) : (flds w ci z m)[k]? = some (fval w z m ((ftag ci).getD k 0) k) := by
  unfold flds
  rw [List.getElem?_map, List.getElem?_range hk]
  rfl
theorem flds_int {w : Wc} {ci k : Nat} {z : Nat → Option Nat} {m : Nat → Int32} (hk : k < (ftag ci).length) (ht : (ftag ci).getD k 0 = 0) : (flds w ci z m)[k]? = some (.int (m k)) := by rw [flds_get hk, ht]; rfl
theorem flds_ref {w : Wc} {ci k q : Nat} {z : Nat → Option Nat} {m : Nat → Int32} (hk : k < (ftag ci).length) (ht : (ftag ci).getD k 0 = 1) (hz : z k = some q) : (flds w ci z m)[k]? = some (.ref (wad w q)) := by rw [flds_get hk, ht]; unfold fval; rw [if_neg (by decide), hz]; rfl
theorem flds_put {w : Wc} {ci k : Nat} {z : Nat → Option Nat} {m : Nat → Int32} {v : Int32} (hk : k < (ftag ci).length) (ht : (ftag ci).getD k 0 = 0) : (flds w ci z m).set k (.int v) = flds w ci z (upd m k v) := by
  apply List.ext_getElem?
  intro j
  by_cases hj : j = k
  · subst hj
    rw [List.getElem?_set_self (by rw [flds_len]; exact hk), flds_int hk ht]
    simp [upd]
  · rw [List.getElem?_set_ne (Ne.symm hj)]
    by_cases hl : j < (ftag ci).length
    · rw [flds_get hl, flds_get hl]
      have e : upd m k v j = m j := by simp [upd, hj]
      unfold fval
      rw [e]
    · rw [List.getElem?_eq_none (by rw [flds_len]; omega), List.getElem?_eq_none (by rw [flds_len]; omega)]
/-- a field of a class, by the entry of a class's pool -/
def FA (own : String) (idx ci k tag : Nat) : Prop := ∃ (ref : String) (C : String) (T : u_T) (N : Nat), Cond.fieldLink own idx ref (T k).2.1 (T k).2.2.1 ∈ TT ∧ ref = (T k).1 ∧ vwCl[ci]? = some (C, T, N) ∧ k < N ∧ (∀ w ∈ u_ws C T N, w ∈ TT) ∧ ci < 20 ∧ k < (ftag ci).length ∧ (ftag ci).getD k 0 = tag
def FN (own : String) (idx ci k tag : Nat) : Prop := ∃ (ref host : String) (C : String) (T : u_T) (N : Nat), Cond.fieldLinkNest own idx ref (T k).2.1 (T k).2.2.1 host ∈ NW ∧ ref = (T k).1 ∧ vwCl[ci]? = some (C, T, N) ∧ k < N ∧ (∀ w ∈ u_ws C T N, w ∈ TT) ∧ ci < 20 ∧ k < (ftag ci).length ∧ (ftag ci).getD k 0 = tag
/-- .. and that an int may be put there -/
def FW (ci k : Nat) (ty : FieldType) : Prop := ∃ (C : String) (T : u_T) (N : Nat) (ty0 : Nat → FieldType), vwCl[ci]? = some (C, T, N) ∧ (∀ k, k < N → parseFieldDescriptor (T k).2.2.1 = some (ty0 k)) ∧ (∀ a, a < N → ∀ b, b < N → a ≠ b → (T a).2.1 ≠ (T b).2.1) ∧ (T k).2.2.2 = false ∧ parseFieldDescriptor (T k).2.2.1 = some ty
end
section
/-! words: fields and calls by the pools' entries -/
theorem uw_0 : ∀ w ∈ u_ws "KiteLogger$History" T0 3, w ∈ TT := by
  intro w hw
  obtain ⟨k, hk, rfl⟩ := List.mem_map.mp hw
  have hk := List.mem_range.mp hk
  by_cases h0 : k = 0
  · subst h0; exact TT_in (i := 406) (by decide +kernel) (by decide +kernel)
  by_cases h1 : k = 1
  · subst h1; exact TT_in (i := 408) (by decide +kernel) (by decide +kernel)
  by_cases h2 : k = 2
  · subst h2; exact TT_in (i := 410) (by decide +kernel) (by decide +kernel)
  omega
theorem uw_1 : ∀ w ∈ u_ws "KiteLogger$Kite" T1 13, w ∈ TT := by
  intro w hw
  obtain ⟨k, hk, rfl⟩ := List.mem_map.mp hw
  have hk := List.mem_range.mp hk
  by_cases h0 : k = 0
  · subst h0; exact TT_in (i := 276) (by decide +kernel) (by decide +kernel)
  by_cases h1 : k = 1
  · subst h1; exact TT_in (i := 278) (by decide +kernel) (by decide +kernel)
  by_cases h2 : k = 2
  · subst h2; exact TT_in (i := 280) (by decide +kernel) (by decide +kernel)
  by_cases h3 : k = 3
  · subst h3; exact TT_in (i := 282) (by decide +kernel) (by decide +kernel)
  by_cases h4 : k = 4
  · subst h4; exact TT_in (i := 284) (by decide +kernel) (by decide +kernel)
  by_cases h5 : k = 5
  · subst h5; exact TT_in (i := 286) (by decide +kernel) (by decide +kernel)
  by_cases h6 : k = 6
  · subst h6; exact TT_in (i := 288) (by decide +kernel) (by decide +kernel)
  by_cases h7 : k = 7
  · subst h7; exact TT_in (i := 290) (by decide +kernel) (by decide +kernel)
  by_cases h8 : k = 8
  · subst h8; exact TT_in (i := 292) (by decide +kernel) (by decide +kernel)
  by_cases h9 : k = 9
  · subst h9; exact TT_in (i := 294) (by decide +kernel) (by decide +kernel)
  by_cases h10 : k = 10
  · subst h10; exact TT_in (i := 296) (by decide +kernel) (by decide +kernel)
  by_cases h11 : k = 11
  · subst h11; exact TT_in (i := 298) (by decide +kernel) (by decide +kernel)
  by_cases h12 : k = 12
  · subst h12; exact TT_in (i := 300) (by decide +kernel) (by decide +kernel)
  omega
theorem uw_2 : ∀ w ∈ u_ws "KiteLogger$Output" T2 2, w ∈ TT := by
  intro w hw
  obtain ⟨k, hk, rfl⟩ := List.mem_map.mp hw
  have hk := List.mem_range.mp hk
  by_cases h0 : k = 0
  · subst h0; exact TT_in (i := 422) (by decide +kernel) (by decide +kernel)
  by_cases h1 : k = 1
  · subst h1; exact TT_in (i := 424) (by decide +kernel) (by decide +kernel)
  omega
theorem uw_3 : ∀ w ∈ u_ws "KiteLogger$Samples" T3 7, w ∈ TT := by
  intro w hw
  obtain ⟨k, hk, rfl⟩ := List.mem_map.mp hw
  have hk := List.mem_range.mp hk
  by_cases h0 : k = 0
  · subst h0; exact TT_in (i := 340) (by decide +kernel) (by decide +kernel)
  by_cases h1 : k = 1
  · subst h1; exact TT_in (i := 342) (by decide +kernel) (by decide +kernel)
  by_cases h2 : k = 2
  · subst h2; exact TT_in (i := 344) (by decide +kernel) (by decide +kernel)
  by_cases h3 : k = 3
  · subst h3; exact TT_in (i := 346) (by decide +kernel) (by decide +kernel)
  by_cases h4 : k = 4
  · subst h4; exact TT_in (i := 348) (by decide +kernel) (by decide +kernel)
  by_cases h5 : k = 5
  · subst h5; exact TT_in (i := 350) (by decide +kernel) (by decide +kernel)
  by_cases h6 : k = 6
  · subst h6; exact TT_in (i := 352) (by decide +kernel) (by decide +kernel)
  omega
theorem uw_4 : ∀ w ∈ u_ws "KiteLogger$Script" T4 6, w ∈ TT := by
  intro w hw
  obtain ⟨k, hk, rfl⟩ := List.mem_map.mp hw
  have hk := List.mem_range.mp hk
  by_cases h0 : k = 0
  · subst h0; exact TT_in (i := 222) (by decide +kernel) (by decide +kernel)
  by_cases h1 : k = 1
  · subst h1; exact TT_in (i := 224) (by decide +kernel) (by decide +kernel)
  by_cases h2 : k = 2
  · subst h2; exact TT_in (i := 226) (by decide +kernel) (by decide +kernel)
  by_cases h3 : k = 3
  · subst h3; exact TT_in (i := 228) (by decide +kernel) (by decide +kernel)
  by_cases h4 : k = 4
  · subst h4; exact TT_in (i := 230) (by decide +kernel) (by decide +kernel)
  by_cases h5 : k = 5
  · subst h5; exact TT_in (i := 232) (by decide +kernel) (by decide +kernel)
  omega
theorem uw_5 : ∀ w ∈ u_ws "KiteLogger$Station" T5 9, w ∈ TT := by
  intro w hw
  obtain ⟨k, hk, rfl⟩ := List.mem_map.mp hw
  have hk := List.mem_range.mp hk
  by_cases h0 : k = 0
  · subst h0; exact TT_in (i := 372) (by decide +kernel) (by decide +kernel)
  by_cases h1 : k = 1
  · subst h1; exact TT_in (i := 374) (by decide +kernel) (by decide +kernel)
  by_cases h2 : k = 2
  · subst h2; exact TT_in (i := 376) (by decide +kernel) (by decide +kernel)
  by_cases h3 : k = 3
  · subst h3; exact TT_in (i := 378) (by decide +kernel) (by decide +kernel)
  by_cases h4 : k = 4
  · subst h4; exact TT_in (i := 380) (by decide +kernel) (by decide +kernel)
  by_cases h5 : k = 5
  · subst h5; exact TT_in (i := 382) (by decide +kernel) (by decide +kernel)
  by_cases h6 : k = 6
  · subst h6; exact TT_in (i := 384) (by decide +kernel) (by decide +kernel)
  by_cases h7 : k = 7
  · subst h7; exact TT_in (i := 386) (by decide +kernel) (by decide +kernel)
  by_cases h8 : k = 8
  · subst h8; exact TT_in (i := 388) (by decide +kernel) (by decide +kernel)
  omega
theorem uw_6 : ∀ w ∈ u_ws "KiteLogger$StationPlan" T6 6, w ∈ TT := by
  intro w hw
  obtain ⟨k, hk, rfl⟩ := List.mem_map.mp hw
  have hk := List.mem_range.mp hk
  by_cases h0 : k = 0
  · subst h0; exact TT_in (i := 194) (by decide +kernel) (by decide +kernel)
  by_cases h1 : k = 1
  · subst h1; exact TT_in (i := 196) (by decide +kernel) (by decide +kernel)
  by_cases h2 : k = 2
  · subst h2; exact TT_in (i := 198) (by decide +kernel) (by decide +kernel)
  by_cases h3 : k = 3
  · subst h3; exact TT_in (i := 200) (by decide +kernel) (by decide +kernel)
  by_cases h4 : k = 4
  · subst h4; exact TT_in (i := 202) (by decide +kernel) (by decide +kernel)
  by_cases h5 : k = 5
  · subst h5; exact TT_in (i := 204) (by decide +kernel) (by decide +kernel)
  omega
theorem uw_7 : ∀ w ∈ u_ws "KiteLogger$TextReader" T7 10, w ∈ TT := by
  intro w hw
  obtain ⟨k, hk, rfl⟩ := List.mem_map.mp hw
  have hk := List.mem_range.mp hk
  by_cases h0 : k = 0
  · subst h0; exact TT_in (i := 143) (by decide +kernel) (by decide +kernel)
  by_cases h1 : k = 1
  · subst h1; exact TT_in (i := 145) (by decide +kernel) (by decide +kernel)
  by_cases h2 : k = 2
  · subst h2; exact TT_in (i := 147) (by decide +kernel) (by decide +kernel)
  by_cases h3 : k = 3
  · subst h3; exact TT_in (i := 149) (by decide +kernel) (by decide +kernel)
  by_cases h4 : k = 4
  · subst h4; exact TT_in (i := 151) (by decide +kernel) (by decide +kernel)
  by_cases h5 : k = 5
  · subst h5; exact TT_in (i := 153) (by decide +kernel) (by decide +kernel)
  by_cases h6 : k = 6
  · subst h6; exact TT_in (i := 155) (by decide +kernel) (by decide +kernel)
  by_cases h7 : k = 7
  · subst h7; exact TT_in (i := 157) (by decide +kernel) (by decide +kernel)
  by_cases h8 : k = 8
  · subst h8; exact TT_in (i := 159) (by decide +kernel) (by decide +kernel)
  by_cases h9 : k = 9
  · subst h9; exact TT_in (i := 161) (by decide +kernel) (by decide +kernel)
  omega
theorem uw_8 : ∀ w ∈ u_ws "KiteLogger$WindBuffer" T8 3, w ∈ TT := by
  intro w hw
  obtain ⟨k, hk, rfl⟩ := List.mem_map.mp hw
  have hk := List.mem_range.mp hk
  by_cases h0 : k = 0
  · subst h0; exact TT_in (i := 313) (by decide +kernel) (by decide +kernel)
  by_cases h1 : k = 1
  · subst h1; exact TT_in (i := 315) (by decide +kernel) (by decide +kernel)
  by_cases h2 : k = 2
  · subst h2; exact TT_in (i := 317) (by decide +kernel) (by decide +kernel)
  omega
theorem uw_9 : ∀ w ∈ u_ws "KiteLogger" T9 9, w ∈ TT := by
  intro w hw
  obtain ⟨k, hk, rfl⟩ := List.mem_map.mp hw
  have hk := List.mem_range.mp hk
  by_cases h0 : k = 0
  · subst h0; exact TT_in (i := 457) (by decide +kernel) (by decide +kernel)
  by_cases h1 : k = 1
  · subst h1; exact TT_in (i := 459) (by decide +kernel) (by decide +kernel)
  by_cases h2 : k = 2
  · subst h2; exact TT_in (i := 461) (by decide +kernel) (by decide +kernel)
  by_cases h3 : k = 3
  · subst h3; exact TT_in (i := 463) (by decide +kernel) (by decide +kernel)
  by_cases h4 : k = 4
  · subst h4; exact TT_in (i := 465) (by decide +kernel) (by decide +kernel)
  by_cases h5 : k = 5
  · subst h5; exact TT_in (i := 467) (by decide +kernel) (by decide +kernel)
  by_cases h6 : k = 6
  · subst h6; exact TT_in (i := 469) (by decide +kernel) (by decide +kernel)
  by_cases h7 : k = 7
  · subst h7; exact TT_in (i := 471) (by decide +kernel) (by decide +kernel)
  by_cases h8 : k = 8
  · subst h8; exact TT_in (i := 473) (by decide +kernel) (by decide +kernel)
  omega
theorem uw_10 : ∀ w ∈ u_ws "KiteLoggerModel" T10 28, w ∈ TT := by
  intro w hw
  obtain ⟨k, hk, rfl⟩ := List.mem_map.mp hw
  have hk := List.mem_range.mp hk
  by_cases h0 : k = 0
  · subst h0; exact TT_in (i := 1391) (by decide +kernel) (by decide +kernel)
  by_cases h1 : k = 1
  · subst h1; exact TT_in (i := 1393) (by decide +kernel) (by decide +kernel)
  by_cases h2 : k = 2
  · subst h2; exact TT_in (i := 1395) (by decide +kernel) (by decide +kernel)
  by_cases h3 : k = 3
  · subst h3; exact TT_in (i := 1397) (by decide +kernel) (by decide +kernel)
  by_cases h4 : k = 4
  · subst h4; exact TT_in (i := 1399) (by decide +kernel) (by decide +kernel)
  by_cases h5 : k = 5
  · subst h5; exact TT_in (i := 1401) (by decide +kernel) (by decide +kernel)
  by_cases h6 : k = 6
  · subst h6; exact TT_in (i := 1403) (by decide +kernel) (by decide +kernel)
  by_cases h7 : k = 7
  · subst h7; exact TT_in (i := 1405) (by decide +kernel) (by decide +kernel)
  by_cases h8 : k = 8
  · subst h8; exact TT_in (i := 1407) (by decide +kernel) (by decide +kernel)
  by_cases h9 : k = 9
  · subst h9; exact TT_in (i := 1409) (by decide +kernel) (by decide +kernel)
  by_cases h10 : k = 10
  · subst h10; exact TT_in (i := 1411) (by decide +kernel) (by decide +kernel)
  by_cases h11 : k = 11
  · subst h11; exact TT_in (i := 1413) (by decide +kernel) (by decide +kernel)
  by_cases h12 : k = 12
  · subst h12; exact TT_in (i := 1415) (by decide +kernel) (by decide +kernel)
  by_cases h13 : k = 13
  · subst h13; exact TT_in (i := 1417) (by decide +kernel) (by decide +kernel)
  by_cases h14 : k = 14
  · subst h14; exact TT_in (i := 1419) (by decide +kernel) (by decide +kernel)
  by_cases h15 : k = 15
  · subst h15; exact TT_in (i := 1421) (by decide +kernel) (by decide +kernel)
  by_cases h16 : k = 16
  · subst h16; exact TT_in (i := 1423) (by decide +kernel) (by decide +kernel)
  by_cases h17 : k = 17
  · subst h17; exact TT_in (i := 1425) (by decide +kernel) (by decide +kernel)
  by_cases h18 : k = 18
  · subst h18; exact TT_in (i := 1427) (by decide +kernel) (by decide +kernel)
  by_cases h19 : k = 19
  · subst h19; exact TT_in (i := 1429) (by decide +kernel) (by decide +kernel)
  by_cases h20 : k = 20
  · subst h20; exact TT_in (i := 1431) (by decide +kernel) (by decide +kernel)
  by_cases h21 : k = 21
  · subst h21; exact TT_in (i := 1433) (by decide +kernel) (by decide +kernel)
  by_cases h22 : k = 22
  · subst h22; exact TT_in (i := 1435) (by decide +kernel) (by decide +kernel)
  by_cases h23 : k = 23
  · subst h23; exact TT_in (i := 1437) (by decide +kernel) (by decide +kernel)
  by_cases h24 : k = 24
  · subst h24; exact TT_in (i := 1439) (by decide +kernel) (by decide +kernel)
  by_cases h25 : k = 25
  · subst h25; exact TT_in (i := 1441) (by decide +kernel) (by decide +kernel)
  by_cases h26 : k = 26
  · subst h26; exact TT_in (i := 1443) (by decide +kernel) (by decide +kernel)
  by_cases h27 : k = 27
  · subst h27; exact TT_in (i := 1445) (by decide +kernel) (by decide +kernel)
  omega
theorem fa_G_12 : FA "KiteLogger" 12 9 0 ((ftag 9).getD 0 0) := ⟨"KiteLogger", "KiteLogger", T9, 9, TT_in (i := 448) (by decide +kernel) (by decide +kernel), rfl, rfl, by decide, uw_9, by decide, by decide +kernel, rfl⟩
theorem fa_G_19 : FA "KiteLogger" 19 9 1 ((ftag 9).getD 1 0) := ⟨"KiteLogger", "KiteLogger", T9, 9, TT_in (i := 449) (by decide +kernel) (by decide +kernel), rfl, rfl, by decide, uw_9, by decide, by decide +kernel, rfl⟩
theorem fa_G_26 : FA "KiteLogger" 26 9 2 ((ftag 9).getD 2 0) := ⟨"KiteLogger", "KiteLogger", T9, 9, TT_in (i := 450) (by decide +kernel) (by decide +kernel), rfl, rfl, by decide, uw_9, by decide, by decide +kernel, rfl⟩
theorem fa_G_33 : FA "KiteLogger" 33 9 3 ((ftag 9).getD 3 0) := ⟨"KiteLogger", "KiteLogger", T9, 9, TT_in (i := 451) (by decide +kernel) (by decide +kernel), rfl, rfl, by decide, uw_9, by decide, by decide +kernel, rfl⟩
theorem fa_G_40 : FA "KiteLogger" 40 9 4 ((ftag 9).getD 4 0) := ⟨"KiteLogger", "KiteLogger", T9, 9, TT_in (i := 452) (by decide +kernel) (by decide +kernel), rfl, rfl, by decide, uw_9, by decide, by decide +kernel, rfl⟩
theorem fa_G_47 : FA "KiteLogger" 47 9 5 ((ftag 9).getD 5 0) := ⟨"KiteLogger", "KiteLogger", T9, 9, TT_in (i := 453) (by decide +kernel) (by decide +kernel), rfl, rfl, by decide, uw_9, by decide, by decide +kernel, rfl⟩
theorem fa_G_51 : FA "KiteLogger" 51 9 6 ((ftag 9).getD 6 0) := ⟨"KiteLogger", "KiteLogger", T9, 9, TT_in (i := 454) (by decide +kernel) (by decide +kernel), rfl, rfl, by decide, uw_9, by decide, by decide +kernel, rfl⟩
theorem fa_G_54 : FA "KiteLogger" 54 9 7 ((ftag 9).getD 7 0) := ⟨"KiteLogger", "KiteLogger", T9, 9, TT_in (i := 455) (by decide +kernel) (by decide +kernel), rfl, rfl, by decide, uw_9, by decide, by decide +kernel, rfl⟩
theorem fa_G_61 : FA "KiteLogger" 61 9 8 ((ftag 9).getD 8 0) := ⟨"KiteLogger", "KiteLogger", T9, 9, TT_in (i := 456) (by decide +kernel) (by decide +kernel), rfl, rfl, by decide, uw_9, by decide, by decide +kernel, rfl⟩
theorem fa_G_77 : FN "KiteLogger" 77 7 1 ((ftag 7).getD 1 0) := ⟨"KiteLogger$TextReader", "KiteLogger", "KiteLogger$TextReader", T7, 10, NW_in (i := 127) (by decide +kernel) (by decide +kernel), rfl, rfl, by decide, uw_7, by decide, by decide +kernel, rfl⟩
theorem fa_G_91 : FN "KiteLogger" 91 5 2 ((ftag 5).getD 2 0) := ⟨"KiteLogger$Station", "KiteLogger", "KiteLogger$Station", T5, 9, NW_in (i := 359) (by decide +kernel) (by decide +kernel), rfl, rfl, by decide, uw_5, by decide, by decide +kernel, rfl⟩
theorem fa_G_94 : FN "KiteLogger" 94 7 8 ((ftag 7).getD 8 0) := ⟨"KiteLogger$TextReader", "KiteLogger", "KiteLogger$TextReader", T7, 10, NW_in (i := 140) (by decide +kernel) (by decide +kernel), rfl, rfl, by decide, uw_7, by decide, by decide +kernel, rfl⟩
theorem fa_G_97 : FN "KiteLogger" 97 7 9 ((ftag 7).getD 9 0) := ⟨"KiteLogger$TextReader", "KiteLogger", "KiteLogger$TextReader", T7, 10, NW_in (i := 142) (by decide +kernel) (by decide +kernel), rfl, rfl, by decide, uw_7, by decide, by decide +kernel, rfl⟩
theorem fa_G_100 : FN "KiteLogger" 100 5 7 ((ftag 5).getD 7 0) := ⟨"KiteLogger$Station", "KiteLogger", "KiteLogger$Station", T5, 9, NW_in (i := 369) (by decide +kernel) (by decide +kernel), rfl, rfl, by decide, uw_5, by decide, by decide +kernel, rfl⟩
theorem fa_G_111 : FN "KiteLogger" 111 5 3 ((ftag 5).getD 3 0) := ⟨"KiteLogger$Station", "KiteLogger", "KiteLogger$Station", T5, 9, NW_in (i := 361) (by decide +kernel) (by decide +kernel), rfl, rfl, by decide, uw_5, by decide, by decide +kernel, rfl⟩
theorem fa_G_115 : FN "KiteLogger" 115 8 2 ((ftag 8).getD 2 0) := ⟨"KiteLogger$WindBuffer", "KiteLogger", "KiteLogger$WindBuffer", T8, 3, NW_in (i := 312) (by decide +kernel) (by decide +kernel), rfl, rfl, by decide, uw_8, by decide, by decide +kernel, rfl⟩
theorem fa_G_137 : FN "KiteLogger" 137 5 0 ((ftag 5).getD 0 0) := ⟨"KiteLogger$Station", "KiteLogger", "KiteLogger$Station", T5, 9, NW_in (i := 356) (by decide +kernel) (by decide +kernel), rfl, rfl, by decide, uw_5, by decide, by decide +kernel, rfl⟩
theorem fa_G_140 : FN "KiteLogger" 140 1 0 ((ftag 1).getD 0 0) := ⟨"KiteLogger$Kite", "KiteLogger", "KiteLogger$Kite", T1, 13, NW_in (i := 249) (by decide +kernel) (by decide +kernel), rfl, rfl, by decide, uw_1, by decide, by decide +kernel, rfl⟩
theorem fa_G_143 : FN "KiteLogger" 143 1 1 ((ftag 1).getD 1 0) := ⟨"KiteLogger$Kite", "KiteLogger", "KiteLogger$Kite", T1, 13, NW_in (i := 252) (by decide +kernel) (by decide +kernel), rfl, rfl, by decide, uw_1, by decide, by decide +kernel, rfl⟩
theorem fa_G_146 : FN "KiteLogger" 146 1 2 ((ftag 1).getD 2 0) := ⟨"KiteLogger$Kite", "KiteLogger", "KiteLogger$Kite", T1, 13, NW_in (i := 255) (by decide +kernel) (by decide +kernel), rfl, rfl, by decide, uw_1, by decide, by decide +kernel, rfl⟩
theorem fa_G_149 : FN "KiteLogger" 149 1 3 ((ftag 1).getD 3 0) := ⟨"KiteLogger$Kite", "KiteLogger", "KiteLogger$Kite", T1, 13, NW_in (i := 257) (by decide +kernel) (by decide +kernel), rfl, rfl, by decide, uw_1, by decide, by decide +kernel, rfl⟩
theorem fa_G_152 : FN "KiteLogger" 152 1 4 ((ftag 1).getD 4 0) := ⟨"KiteLogger$Kite", "KiteLogger", "KiteLogger$Kite", T1, 13, NW_in (i := 259) (by decide +kernel) (by decide +kernel), rfl, rfl, by decide, uw_1, by decide, by decide +kernel, rfl⟩
theorem fa_G_155 : FN "KiteLogger" 155 1 5 ((ftag 1).getD 5 0) := ⟨"KiteLogger$Kite", "KiteLogger", "KiteLogger$Kite", T1, 13, NW_in (i := 261) (by decide +kernel) (by decide +kernel), rfl, rfl, by decide, uw_1, by decide, by decide +kernel, rfl⟩
theorem fa_G_158 : FN "KiteLogger" 158 1 6 ((ftag 1).getD 6 0) := ⟨"KiteLogger$Kite", "KiteLogger", "KiteLogger$Kite", T1, 13, NW_in (i := 263) (by decide +kernel) (by decide +kernel), rfl, rfl, by decide, uw_1, by decide, by decide +kernel, rfl⟩
theorem fa_G_164 : FN "KiteLogger" 164 1 9 ((ftag 1).getD 9 0) := ⟨"KiteLogger$Kite", "KiteLogger", "KiteLogger$Kite", T1, 13, NW_in (i := 269) (by decide +kernel) (by decide +kernel), rfl, rfl, by decide, uw_1, by decide, by decide +kernel, rfl⟩
theorem fa_G_167 : FN "KiteLogger" 167 1 8 ((ftag 1).getD 8 0) := ⟨"KiteLogger$Kite", "KiteLogger", "KiteLogger$Kite", T1, 13, NW_in (i := 266) (by decide +kernel) (by decide +kernel), rfl, rfl, by decide, uw_1, by decide, by decide +kernel, rfl⟩
theorem fa_G_170 : FN "KiteLogger" 170 1 10 ((ftag 1).getD 10 0) := ⟨"KiteLogger$Kite", "KiteLogger", "KiteLogger$Kite", T1, 13, NW_in (i := 271) (by decide +kernel) (by decide +kernel), rfl, rfl, by decide, uw_1, by decide, by decide +kernel, rfl⟩
theorem fa_G_173 : FN "KiteLogger" 173 1 11 ((ftag 1).getD 11 0) := ⟨"KiteLogger$Kite", "KiteLogger", "KiteLogger$Kite", T1, 13, NW_in (i := 273) (by decide +kernel) (by decide +kernel), rfl, rfl, by decide, uw_1, by decide, by decide +kernel, rfl⟩
theorem fa_G_176 : FN "KiteLogger" 176 1 12 ((ftag 1).getD 12 0) := ⟨"KiteLogger$Kite", "KiteLogger", "KiteLogger$Kite", T1, 13, NW_in (i := 275) (by decide +kernel) (by decide +kernel), rfl, rfl, by decide, uw_1, by decide, by decide +kernel, rfl⟩
theorem fa_G_179 : FN "KiteLogger" 179 5 6 ((ftag 5).getD 6 0) := ⟨"KiteLogger$Station", "KiteLogger", "KiteLogger$Station", T5, 9, NW_in (i := 367) (by decide +kernel) (by decide +kernel), rfl, rfl, by decide, uw_5, by decide, by decide +kernel, rfl⟩
theorem fa_G_182 : FN "KiteLogger" 182 5 4 ((ftag 5).getD 4 0) := ⟨"KiteLogger$Station", "KiteLogger", "KiteLogger$Station", T5, 9, NW_in (i := 363) (by decide +kernel) (by decide +kernel), rfl, rfl, by decide, uw_5, by decide, by decide +kernel, rfl⟩
theorem fa_G_186 : FN "KiteLogger" 186 3 5 ((ftag 3).getD 5 0) := ⟨"KiteLogger$Samples", "KiteLogger", "KiteLogger$Samples", T3, 7, NW_in (i := 337) (by decide +kernel) (by decide +kernel), rfl, rfl, by decide, uw_3, by decide, by decide +kernel, rfl⟩
theorem fa_G_202 : FN "KiteLogger" 202 3 6 ((ftag 3).getD 6 0) := ⟨"KiteLogger$Samples", "KiteLogger", "KiteLogger$Samples", T3, 7, NW_in (i := 339) (by decide +kernel) (by decide +kernel), rfl, rfl, by decide, uw_3, by decide, by decide +kernel, rfl⟩
theorem fa_G_205 : FN "KiteLogger" 205 5 5 ((ftag 5).getD 5 0) := ⟨"KiteLogger$Station", "KiteLogger", "KiteLogger$Station", T5, 9, NW_in (i := 365) (by decide +kernel) (by decide +kernel), rfl, rfl, by decide, uw_5, by decide, by decide +kernel, rfl⟩
theorem fa_G_221 : FN "KiteLogger" 221 5 8 ((ftag 5).getD 8 0) := ⟨"KiteLogger$Station", "KiteLogger", "KiteLogger$Station", T5, 9, NW_in (i := 371) (by decide +kernel) (by decide +kernel), rfl, rfl, by decide, uw_5, by decide, by decide +kernel, rfl⟩
theorem fa_G_257 : FN "KiteLogger" 257 4 4 ((ftag 4).getD 4 0) := ⟨"KiteLogger$Script", "KiteLogger", "KiteLogger$Script", T4, 6, NW_in (i := 219) (by decide +kernel) (by decide +kernel), rfl, rfl, by decide, uw_4, by decide, by decide +kernel, rfl⟩
theorem fa_G_262 : FN "KiteLogger" 262 4 5 ((ftag 4).getD 5 0) := ⟨"KiteLogger$Script", "KiteLogger", "KiteLogger$Script", T4, 6, NW_in (i := 221) (by decide +kernel) (by decide +kernel), rfl, rfl, by decide, uw_4, by decide, by decide +kernel, rfl⟩
theorem fa_G_269 : FN "KiteLogger" 269 2 1 ((ftag 2).getD 1 0) := ⟨"KiteLogger$Output", "KiteLogger", "KiteLogger$Output", T2, 2, NW_in (i := 421) (by decide +kernel) (by decide +kernel), rfl, rfl, by decide, uw_2, by decide, by decide +kernel, rfl⟩
theorem fa_G_280 : FN "KiteLogger" 280 0 2 ((ftag 0).getD 2 0) := ⟨"KiteLogger$History", "KiteLogger", "KiteLogger$History", T0, 3, NW_in (i := 405) (by decide +kernel) (by decide +kernel), rfl, rfl, by decide, uw_0, by decide, by decide +kernel, rfl⟩
theorem fa_H_11 : FA "KiteLogger$History" 11 0 0 ((ftag 0).getD 0 0) := ⟨"KiteLogger$History", "KiteLogger$History", T0, 3, TT_in (i := 402) (by decide +kernel) (by decide +kernel), rfl, rfl, by decide, uw_0, by decide, by decide +kernel, rfl⟩
theorem fa_H_17 : FA "KiteLogger$History" 17 0 1 ((ftag 0).getD 1 0) := ⟨"KiteLogger$History", "KiteLogger$History", T0, 3, TT_in (i := 403) (by decide +kernel) (by decide +kernel), rfl, rfl, by decide, uw_0, by decide, by decide +kernel, rfl⟩
theorem fa_H_21 : FA "KiteLogger$History" 21 0 2 ((ftag 0).getD 2 0) := ⟨"KiteLogger$History", "KiteLogger$History", T0, 3, TT_in (i := 404) (by decide +kernel) (by decide +kernel), rfl, rfl, by decide, uw_0, by decide, by decide +kernel, rfl⟩
theorem fa_K_9 : FA "KiteLogger$Kite" 9 1 0 ((ftag 1).getD 0 0) := ⟨"KiteLogger$Kite", "KiteLogger$Kite", T1, 13, TT_in (i := 247) (by decide +kernel) (by decide +kernel), rfl, rfl, by decide, uw_1, by decide, by decide +kernel, rfl⟩
theorem fa_K_15 : FA "KiteLogger$Kite" 15 1 1 ((ftag 1).getD 1 0) := ⟨"KiteLogger$Kite", "KiteLogger$Kite", T1, 13, TT_in (i := 250) (by decide +kernel) (by decide +kernel), rfl, rfl, by decide, uw_1, by decide, by decide +kernel, rfl⟩
theorem fa_K_18 : FA "KiteLogger$Kite" 18 1 2 ((ftag 1).getD 2 0) := ⟨"KiteLogger$Kite", "KiteLogger$Kite", T1, 13, TT_in (i := 253) (by decide +kernel) (by decide +kernel), rfl, rfl, by decide, uw_1, by decide, by decide +kernel, rfl⟩
theorem fa_K_21 : FA "KiteLogger$Kite" 21 1 3 ((ftag 1).getD 3 0) := ⟨"KiteLogger$Kite", "KiteLogger$Kite", T1, 13, TT_in (i := 256) (by decide +kernel) (by decide +kernel), rfl, rfl, by decide, uw_1, by decide, by decide +kernel, rfl⟩
theorem fa_K_24 : FA "KiteLogger$Kite" 24 1 4 ((ftag 1).getD 4 0) := ⟨"KiteLogger$Kite", "KiteLogger$Kite", T1, 13, TT_in (i := 258) (by decide +kernel) (by decide +kernel), rfl, rfl, by decide, uw_1, by decide, by decide +kernel, rfl⟩
theorem fa_K_27 : FA "KiteLogger$Kite" 27 1 5 ((ftag 1).getD 5 0) := ⟨"KiteLogger$Kite", "KiteLogger$Kite", T1, 13, TT_in (i := 260) (by decide +kernel) (by decide +kernel), rfl, rfl, by decide, uw_1, by decide, by decide +kernel, rfl⟩
theorem fa_K_30 : FA "KiteLogger$Kite" 30 1 6 ((ftag 1).getD 6 0) := ⟨"KiteLogger$Kite", "KiteLogger$Kite", T1, 13, TT_in (i := 262) (by decide +kernel) (by decide +kernel), rfl, rfl, by decide, uw_1, by decide, by decide +kernel, rfl⟩
theorem fa_K_33 : FA "KiteLogger$Kite" 33 1 7 ((ftag 1).getD 7 0) := ⟨"KiteLogger$Kite", "KiteLogger$Kite", T1, 13, TT_in (i := 264) (by decide +kernel) (by decide +kernel), rfl, rfl, by decide, uw_1, by decide, by decide +kernel, rfl⟩
theorem fa_K_36 : FA "KiteLogger$Kite" 36 1 8 ((ftag 1).getD 8 0) := ⟨"KiteLogger$Kite", "KiteLogger$Kite", T1, 13, TT_in (i := 265) (by decide +kernel) (by decide +kernel), rfl, rfl, by decide, uw_1, by decide, by decide +kernel, rfl⟩
theorem fa_K_39 : FA "KiteLogger$Kite" 39 1 9 ((ftag 1).getD 9 0) := ⟨"KiteLogger$Kite", "KiteLogger$Kite", T1, 13, TT_in (i := 267) (by decide +kernel) (by decide +kernel), rfl, rfl, by decide, uw_1, by decide, by decide +kernel, rfl⟩
theorem fa_K_42 : FA "KiteLogger$Kite" 42 1 10 ((ftag 1).getD 10 0) := ⟨"KiteLogger$Kite", "KiteLogger$Kite", T1, 13, TT_in (i := 270) (by decide +kernel) (by decide +kernel), rfl, rfl, by decide, uw_1, by decide, by decide +kernel, rfl⟩
theorem fa_K_45 : FA "KiteLogger$Kite" 45 1 11 ((ftag 1).getD 11 0) := ⟨"KiteLogger$Kite", "KiteLogger$Kite", T1, 13, TT_in (i := 272) (by decide +kernel) (by decide +kernel), rfl, rfl, by decide, uw_1, by decide, by decide +kernel, rfl⟩
theorem fa_K_48 : FA "KiteLogger$Kite" 48 1 12 ((ftag 1).getD 12 0) := ⟨"KiteLogger$Kite", "KiteLogger$Kite", T1, 13, TT_in (i := 274) (by decide +kernel) (by decide +kernel), rfl, rfl, by decide, uw_1, by decide, by decide +kernel, rfl⟩
theorem fa_O_9 : FA "KiteLogger$Output" 9 2 0 ((ftag 2).getD 0 0) := ⟨"KiteLogger$Output", "KiteLogger$Output", T2, 2, TT_in (i := 419) (by decide +kernel) (by decide +kernel), rfl, rfl, by decide, uw_2, by decide, by decide +kernel, rfl⟩
theorem fa_O_15 : FA "KiteLogger$Output" 15 2 1 ((ftag 2).getD 1 0) := ⟨"KiteLogger$Output", "KiteLogger$Output", T2, 2, TT_in (i := 420) (by decide +kernel) (by decide +kernel), rfl, rfl, by decide, uw_2, by decide, by decide +kernel, rfl⟩
theorem fa_O_19 : FN "KiteLogger$Output" 19 3 5 ((ftag 3).getD 5 0) := ⟨"KiteLogger$Samples", "KiteLogger", "KiteLogger$Samples", T3, 7, NW_in (i := 335) (by decide +kernel) (by decide +kernel), rfl, rfl, by decide, uw_3, by decide, by decide +kernel, rfl⟩
theorem fa_S_7 : FA "KiteLogger$Samples" 7 3 4 ((ftag 3).getD 4 0) := ⟨"KiteLogger$Samples", "KiteLogger$Samples", T3, 7, TT_in (i := 333) (by decide +kernel) (by decide +kernel), rfl, rfl, by decide, uw_3, by decide, by decide +kernel, rfl⟩
theorem fa_S_13 : FA "KiteLogger$Samples" 13 3 5 ((ftag 3).getD 5 0) := ⟨"KiteLogger$Samples", "KiteLogger$Samples", T3, 7, TT_in (i := 334) (by decide +kernel) (by decide +kernel), rfl, rfl, by decide, uw_3, by decide, by decide +kernel, rfl⟩
theorem fa_S_16 : FA "KiteLogger$Samples" 16 3 6 ((ftag 3).getD 6 0) := ⟨"KiteLogger$Samples", "KiteLogger$Samples", T3, 7, TT_in (i := 338) (by decide +kernel) (by decide +kernel), rfl, rfl, by decide, uw_3, by decide, by decide +kernel, rfl⟩
theorem fa_S_25 : FA "KiteLogger$Samples" 25 3 0 ((ftag 3).getD 0 0) := ⟨"KiteLogger$Samples", "KiteLogger$Samples", T3, 7, TT_in (i := 329) (by decide +kernel) (by decide +kernel), rfl, rfl, by decide, uw_3, by decide, by decide +kernel, rfl⟩
theorem fa_S_28 : FA "KiteLogger$Samples" 28 3 1 ((ftag 3).getD 1 0) := ⟨"KiteLogger$Samples", "KiteLogger$Samples", T3, 7, TT_in (i := 330) (by decide +kernel) (by decide +kernel), rfl, rfl, by decide, uw_3, by decide, by decide +kernel, rfl⟩
theorem fa_S_32 : FA "KiteLogger$Samples" 32 3 2 ((ftag 3).getD 2 0) := ⟨"KiteLogger$Samples", "KiteLogger$Samples", T3, 7, TT_in (i := 331) (by decide +kernel) (by decide +kernel), rfl, rfl, by decide, uw_3, by decide, by decide +kernel, rfl⟩
theorem fa_S_35 : FA "KiteLogger$Samples" 35 3 3 ((ftag 3).getD 3 0) := ⟨"KiteLogger$Samples", "KiteLogger$Samples", T3, 7, TT_in (i := 332) (by decide +kernel) (by decide +kernel), rfl, rfl, by decide, uw_3, by decide, by decide +kernel, rfl⟩
theorem fa_C_9 : FA "KiteLogger$Script" 9 4 0 ((ftag 4).getD 0 0) := ⟨"KiteLogger$Script", "KiteLogger$Script", T4, 6, TT_in (i := 214) (by decide +kernel) (by decide +kernel), rfl, rfl, by decide, uw_4, by decide, by decide +kernel, rfl⟩
theorem fa_C_15 : FA "KiteLogger$Script" 15 4 1 ((ftag 4).getD 1 0) := ⟨"KiteLogger$Script", "KiteLogger$Script", T4, 6, TT_in (i := 215) (by decide +kernel) (by decide +kernel), rfl, rfl, by decide, uw_4, by decide, by decide +kernel, rfl⟩
theorem fa_C_18 : FA "KiteLogger$Script" 18 4 2 ((ftag 4).getD 2 0) := ⟨"KiteLogger$Script", "KiteLogger$Script", T4, 6, TT_in (i := 216) (by decide +kernel) (by decide +kernel), rfl, rfl, by decide, uw_4, by decide, by decide +kernel, rfl⟩
theorem fa_C_21 : FA "KiteLogger$Script" 21 4 3 ((ftag 4).getD 3 0) := ⟨"KiteLogger$Script", "KiteLogger$Script", T4, 6, TT_in (i := 217) (by decide +kernel) (by decide +kernel), rfl, rfl, by decide, uw_4, by decide, by decide +kernel, rfl⟩
theorem fa_C_24 : FA "KiteLogger$Script" 24 4 4 ((ftag 4).getD 4 0) := ⟨"KiteLogger$Script", "KiteLogger$Script", T4, 6, TT_in (i := 218) (by decide +kernel) (by decide +kernel), rfl, rfl, by decide, uw_4, by decide, by decide +kernel, rfl⟩
theorem fa_C_28 : FA "KiteLogger$Script" 28 4 5 ((ftag 4).getD 5 0) := ⟨"KiteLogger$Script", "KiteLogger$Script", T4, 6, TT_in (i := 220) (by decide +kernel) (by decide +kernel), rfl, rfl, by decide, uw_4, by decide, by decide +kernel, rfl⟩
theorem fa_C_45 : FN "KiteLogger$Script" 45 7 3 ((ftag 7).getD 3 0) := ⟨"KiteLogger$TextReader", "KiteLogger", "KiteLogger$TextReader", T7, 10, NW_in (i := 130) (by decide +kernel) (by decide +kernel), rfl, rfl, by decide, uw_7, by decide, by decide +kernel, rfl⟩
theorem fa_C_76 : FN "KiteLogger$Script" 76 7 7 ((ftag 7).getD 7 0) := ⟨"KiteLogger$TextReader", "KiteLogger", "KiteLogger$TextReader", T7, 10, NW_in (i := 138) (by decide +kernel) (by decide +kernel), rfl, rfl, by decide, uw_7, by decide, by decide +kernel, rfl⟩
theorem fa_T_12 : FA "KiteLogger$Station" 12 5 0 ((ftag 5).getD 0 0) := ⟨"KiteLogger$Station", "KiteLogger$Station", T5, 9, TT_in (i := 355) (by decide +kernel) (by decide +kernel), rfl, rfl, by decide, uw_5, by decide, by decide +kernel, rfl⟩
theorem fa_T_18 : FA "KiteLogger$Station" 18 5 1 ((ftag 5).getD 1 0) := ⟨"KiteLogger$Station", "KiteLogger$Station", T5, 9, TT_in (i := 357) (by decide +kernel) (by decide +kernel), rfl, rfl, by decide, uw_5, by decide, by decide +kernel, rfl⟩
theorem fa_T_22 : FA "KiteLogger$Station" 22 5 2 ((ftag 5).getD 2 0) := ⟨"KiteLogger$Station", "KiteLogger$Station", T5, 9, TT_in (i := 358) (by decide +kernel) (by decide +kernel), rfl, rfl, by decide, uw_5, by decide, by decide +kernel, rfl⟩
theorem fa_T_29 : FA "KiteLogger$Station" 29 5 3 ((ftag 5).getD 3 0) := ⟨"KiteLogger$Station", "KiteLogger$Station", T5, 9, TT_in (i := 360) (by decide +kernel) (by decide +kernel), rfl, rfl, by decide, uw_5, by decide, by decide +kernel, rfl⟩
theorem fa_T_38 : FA "KiteLogger$Station" 38 5 4 ((ftag 5).getD 4 0) := ⟨"KiteLogger$Station", "KiteLogger$Station", T5, 9, TT_in (i := 362) (by decide +kernel) (by decide +kernel), rfl, rfl, by decide, uw_5, by decide, by decide +kernel, rfl⟩
theorem fa_T_42 : FA "KiteLogger$Station" 42 5 5 ((ftag 5).getD 5 0) := ⟨"KiteLogger$Station", "KiteLogger$Station", T5, 9, TT_in (i := 364) (by decide +kernel) (by decide +kernel), rfl, rfl, by decide, uw_5, by decide, by decide +kernel, rfl⟩
theorem fa_T_45 : FA "KiteLogger$Station" 45 5 6 ((ftag 5).getD 6 0) := ⟨"KiteLogger$Station", "KiteLogger$Station", T5, 9, TT_in (i := 366) (by decide +kernel) (by decide +kernel), rfl, rfl, by decide, uw_5, by decide, by decide +kernel, rfl⟩
theorem fa_T_48 : FA "KiteLogger$Station" 48 5 7 ((ftag 5).getD 7 0) := ⟨"KiteLogger$Station", "KiteLogger$Station", T5, 9, TT_in (i := 368) (by decide +kernel) (by decide +kernel), rfl, rfl, by decide, uw_5, by decide, by decide +kernel, rfl⟩
theorem fa_T_51 : FA "KiteLogger$Station" 51 5 8 ((ftag 5).getD 8 0) := ⟨"KiteLogger$Station", "KiteLogger$Station", T5, 9, TT_in (i := 370) (by decide +kernel) (by decide +kernel), rfl, rfl, by decide, uw_5, by decide, by decide +kernel, rfl⟩
theorem fa_T_54 : FN "KiteLogger$Station" 54 6 0 ((ftag 6).getD 0 0) := ⟨"KiteLogger$StationPlan", "KiteLogger", "KiteLogger$StationPlan", T6, 6, NW_in (i := 183) (by decide +kernel) (by decide +kernel), rfl, rfl, by decide, uw_6, by decide, by decide +kernel, rfl⟩
theorem fa_T_59 : FN "KiteLogger$Station" 59 6 1 ((ftag 6).getD 1 0) := ⟨"KiteLogger$StationPlan", "KiteLogger", "KiteLogger$StationPlan", T6, 6, NW_in (i := 185) (by decide +kernel) (by decide +kernel), rfl, rfl, by decide, uw_6, by decide, by decide +kernel, rfl⟩
theorem fa_T_62 : FN "KiteLogger$Station" 62 6 2 ((ftag 6).getD 2 0) := ⟨"KiteLogger$StationPlan", "KiteLogger", "KiteLogger$StationPlan", T6, 6, NW_in (i := 187) (by decide +kernel) (by decide +kernel), rfl, rfl, by decide, uw_6, by decide, by decide +kernel, rfl⟩
theorem fa_T_69 : FN "KiteLogger$Station" 69 6 4 ((ftag 6).getD 4 0) := ⟨"KiteLogger$StationPlan", "KiteLogger", "KiteLogger$StationPlan", T6, 6, NW_in (i := 191) (by decide +kernel) (by decide +kernel), rfl, rfl, by decide, uw_6, by decide, by decide +kernel, rfl⟩
theorem fa_T_74 : FN "KiteLogger$Station" 74 6 5 ((ftag 6).getD 5 0) := ⟨"KiteLogger$StationPlan", "KiteLogger", "KiteLogger$StationPlan", T6, 6, NW_in (i := 193) (by decide +kernel) (by decide +kernel), rfl, rfl, by decide, uw_6, by decide, by decide +kernel, rfl⟩
theorem fa_T_80 : FN "KiteLogger$Station" 80 6 3 ((ftag 6).getD 3 0) := ⟨"KiteLogger$StationPlan", "KiteLogger", "KiteLogger$StationPlan", T6, 6, NW_in (i := 189) (by decide +kernel) (by decide +kernel), rfl, rfl, by decide, uw_6, by decide, by decide +kernel, rfl⟩
theorem fa_T_101 : FN "KiteLogger$Station" 101 1 0 ((ftag 1).getD 0 0) := ⟨"KiteLogger$Kite", "KiteLogger", "KiteLogger$Kite", T1, 13, NW_in (i := 248) (by decide +kernel) (by decide +kernel), rfl, rfl, by decide, uw_1, by decide, by decide +kernel, rfl⟩
theorem fa_T_104 : FN "KiteLogger$Station" 104 1 2 ((ftag 1).getD 2 0) := ⟨"KiteLogger$Kite", "KiteLogger", "KiteLogger$Kite", T1, 13, NW_in (i := 254) (by decide +kernel) (by decide +kernel), rfl, rfl, by decide, uw_1, by decide, by decide +kernel, rfl⟩
theorem fa_T_126 : FN "KiteLogger$Station" 126 3 5 ((ftag 3).getD 5 0) := ⟨"KiteLogger$Samples", "KiteLogger", "KiteLogger$Samples", T3, 7, NW_in (i := 336) (by decide +kernel) (by decide +kernel), rfl, rfl, by decide, uw_3, by decide, by decide +kernel, rfl⟩
theorem fa_T_177 : FN "KiteLogger$Station" 177 1 9 ((ftag 1).getD 9 0) := ⟨"KiteLogger$Kite", "KiteLogger", "KiteLogger$Kite", T1, 13, NW_in (i := 268) (by decide +kernel) (by decide +kernel), rfl, rfl, by decide, uw_1, by decide, by decide +kernel, rfl⟩
theorem fa_T_180 : FN "KiteLogger$Station" 180 1 1 ((ftag 1).getD 1 0) := ⟨"KiteLogger$Kite", "KiteLogger", "KiteLogger$Kite", T1, 13, NW_in (i := 251) (by decide +kernel) (by decide +kernel), rfl, rfl, by decide, uw_1, by decide, by decide +kernel, rfl⟩
theorem fa_P_9 : FA "KiteLogger$StationPlan" 9 6 0 ((ftag 6).getD 0 0) := ⟨"KiteLogger$StationPlan", "KiteLogger$StationPlan", T6, 6, TT_in (i := 182) (by decide +kernel) (by decide +kernel), rfl, rfl, by decide, uw_6, by decide, by decide +kernel, rfl⟩
theorem fa_P_15 : FA "KiteLogger$StationPlan" 15 6 1 ((ftag 6).getD 1 0) := ⟨"KiteLogger$StationPlan", "KiteLogger$StationPlan", T6, 6, TT_in (i := 184) (by decide +kernel) (by decide +kernel), rfl, rfl, by decide, uw_6, by decide, by decide +kernel, rfl⟩
theorem fa_P_18 : FA "KiteLogger$StationPlan" 18 6 2 ((ftag 6).getD 2 0) := ⟨"KiteLogger$StationPlan", "KiteLogger$StationPlan", T6, 6, TT_in (i := 186) (by decide +kernel) (by decide +kernel), rfl, rfl, by decide, uw_6, by decide, by decide +kernel, rfl⟩
theorem fa_P_21 : FA "KiteLogger$StationPlan" 21 6 3 ((ftag 6).getD 3 0) := ⟨"KiteLogger$StationPlan", "KiteLogger$StationPlan", T6, 6, TT_in (i := 188) (by decide +kernel) (by decide +kernel), rfl, rfl, by decide, uw_6, by decide, by decide +kernel, rfl⟩
theorem fa_P_24 : FA "KiteLogger$StationPlan" 24 6 4 ((ftag 6).getD 4 0) := ⟨"KiteLogger$StationPlan", "KiteLogger$StationPlan", T6, 6, TT_in (i := 190) (by decide +kernel) (by decide +kernel), rfl, rfl, by decide, uw_6, by decide, by decide +kernel, rfl⟩
theorem fa_P_31 : FA "KiteLogger$StationPlan" 31 6 5 ((ftag 6).getD 5 0) := ⟨"KiteLogger$StationPlan", "KiteLogger$StationPlan", T6, 6, TT_in (i := 192) (by decide +kernel) (by decide +kernel), rfl, rfl, by decide, uw_6, by decide, by decide +kernel, rfl⟩
theorem fa_P_68 : FN "KiteLogger$StationPlan" 68 7 7 ((ftag 7).getD 7 0) := ⟨"KiteLogger$TextReader", "KiteLogger", "KiteLogger$TextReader", T7, 10, NW_in (i := 137) (by decide +kernel) (by decide +kernel), rfl, rfl, by decide, uw_7, by decide, by decide +kernel, rfl⟩
theorem fa_P_72 : FN "KiteLogger$StationPlan" 72 7 3 ((ftag 7).getD 3 0) := ⟨"KiteLogger$TextReader", "KiteLogger", "KiteLogger$TextReader", T7, 10, NW_in (i := 131) (by decide +kernel) (by decide +kernel), rfl, rfl, by decide, uw_7, by decide, by decide +kernel, rfl⟩
theorem fa_P_81 : FN "KiteLogger$StationPlan" 81 7 6 ((ftag 7).getD 6 0) := ⟨"KiteLogger$TextReader", "KiteLogger", "KiteLogger$TextReader", T7, 10, NW_in (i := 135) (by decide +kernel) (by decide +kernel), rfl, rfl, by decide, uw_7, by decide, by decide +kernel, rfl⟩
theorem fa_X_9 : FA "KiteLogger$TextReader" 9 7 0 ((ftag 7).getD 0 0) := ⟨"KiteLogger$TextReader", "KiteLogger$TextReader", T7, 10, TT_in (i := 125) (by decide +kernel) (by decide +kernel), rfl, rfl, by decide, uw_7, by decide, by decide +kernel, rfl⟩
theorem fa_X_15 : FA "KiteLogger$TextReader" 15 7 1 ((ftag 7).getD 1 0) := ⟨"KiteLogger$TextReader", "KiteLogger$TextReader", T7, 10, TT_in (i := 126) (by decide +kernel) (by decide +kernel), rfl, rfl, by decide, uw_7, by decide, by decide +kernel, rfl⟩
theorem fa_X_19 : FA "KiteLogger$TextReader" 19 7 2 ((ftag 7).getD 2 0) := ⟨"KiteLogger$TextReader", "KiteLogger$TextReader", T7, 10, TT_in (i := 128) (by decide +kernel) (by decide +kernel), rfl, rfl, by decide, uw_7, by decide, by decide +kernel, rfl⟩
theorem fa_X_22 : FA "KiteLogger$TextReader" 22 7 3 ((ftag 7).getD 3 0) := ⟨"KiteLogger$TextReader", "KiteLogger$TextReader", T7, 10, TT_in (i := 129) (by decide +kernel) (by decide +kernel), rfl, rfl, by decide, uw_7, by decide, by decide +kernel, rfl⟩
theorem fa_X_25 : FA "KiteLogger$TextReader" 25 7 4 ((ftag 7).getD 4 0) := ⟨"KiteLogger$TextReader", "KiteLogger$TextReader", T7, 10, TT_in (i := 132) (by decide +kernel) (by decide +kernel), rfl, rfl, by decide, uw_7, by decide, by decide +kernel, rfl⟩
theorem fa_X_28 : FA "KiteLogger$TextReader" 28 7 5 ((ftag 7).getD 5 0) := ⟨"KiteLogger$TextReader", "KiteLogger$TextReader", T7, 10, TT_in (i := 133) (by decide +kernel) (by decide +kernel), rfl, rfl, by decide, uw_7, by decide, by decide +kernel, rfl⟩
theorem fa_X_31 : FA "KiteLogger$TextReader" 31 7 6 ((ftag 7).getD 6 0) := ⟨"KiteLogger$TextReader", "KiteLogger$TextReader", T7, 10, TT_in (i := 134) (by decide +kernel) (by decide +kernel), rfl, rfl, by decide, uw_7, by decide, by decide +kernel, rfl⟩
theorem fa_X_34 : FA "KiteLogger$TextReader" 34 7 7 ((ftag 7).getD 7 0) := ⟨"KiteLogger$TextReader", "KiteLogger$TextReader", T7, 10, TT_in (i := 136) (by decide +kernel) (by decide +kernel), rfl, rfl, by decide, uw_7, by decide, by decide +kernel, rfl⟩
theorem fa_X_37 : FA "KiteLogger$TextReader" 37 7 8 ((ftag 7).getD 8 0) := ⟨"KiteLogger$TextReader", "KiteLogger$TextReader", T7, 10, TT_in (i := 139) (by decide +kernel) (by decide +kernel), rfl, rfl, by decide, uw_7, by decide, by decide +kernel, rfl⟩
theorem fa_X_40 : FA "KiteLogger$TextReader" 40 7 9 ((ftag 7).getD 9 0) := ⟨"KiteLogger$TextReader", "KiteLogger$TextReader", T7, 10, TT_in (i := 141) (by decide +kernel) (by decide +kernel), rfl, rfl, by decide, uw_7, by decide, by decide +kernel, rfl⟩
theorem fa_B_9 : FA "KiteLogger$WindBuffer" 9 8 0 ((ftag 8).getD 0 0) := ⟨"KiteLogger$WindBuffer", "KiteLogger$WindBuffer", T8, 3, TT_in (i := 309) (by decide +kernel) (by decide +kernel), rfl, rfl, by decide, uw_8, by decide, by decide +kernel, rfl⟩
theorem fa_B_15 : FA "KiteLogger$WindBuffer" 15 8 1 ((ftag 8).getD 1 0) := ⟨"KiteLogger$WindBuffer", "KiteLogger$WindBuffer", T8, 3, TT_in (i := 310) (by decide +kernel) (by decide +kernel), rfl, rfl, by decide, uw_8, by decide, by decide +kernel, rfl⟩
theorem fa_B_19 : FA "KiteLogger$WindBuffer" 19 8 2 ((ftag 8).getD 2 0) := ⟨"KiteLogger$WindBuffer", "KiteLogger$WindBuffer", T8, 3, TT_in (i := 311) (by decide +kernel) (by decide +kernel), rfl, rfl, by decide, uw_8, by decide, by decide +kernel, rfl⟩
theorem fa_M_9 : FA "KiteLoggerModel" 9 10 0 ((ftag 10).getD 0 0) := ⟨"KiteLoggerModel", "KiteLoggerModel", T10, 28, TT_in (i := 1363) (by decide +kernel) (by decide +kernel), rfl, rfl, by decide, uw_10, by decide, by decide +kernel, rfl⟩
theorem fa_M_13 : FA "KiteLoggerModel" 13 10 1 ((ftag 10).getD 1 0) := ⟨"KiteLoggerModel", "KiteLoggerModel", T10, 28, TT_in (i := 1364) (by decide +kernel) (by decide +kernel), rfl, rfl, by decide, uw_10, by decide, by decide +kernel, rfl⟩
theorem fa_M_16 : FA "KiteLoggerModel" 16 10 2 ((ftag 10).getD 2 0) := ⟨"KiteLoggerModel", "KiteLoggerModel", T10, 28, TT_in (i := 1365) (by decide +kernel) (by decide +kernel), rfl, rfl, by decide, uw_10, by decide, by decide +kernel, rfl⟩
theorem fa_M_19 : FA "KiteLoggerModel" 19 10 3 ((ftag 10).getD 3 0) := ⟨"KiteLoggerModel", "KiteLoggerModel", T10, 28, TT_in (i := 1366) (by decide +kernel) (by decide +kernel), rfl, rfl, by decide, uw_10, by decide, by decide +kernel, rfl⟩
theorem fa_M_22 : FA "KiteLoggerModel" 22 10 4 ((ftag 10).getD 4 0) := ⟨"KiteLoggerModel", "KiteLoggerModel", T10, 28, TT_in (i := 1367) (by decide +kernel) (by decide +kernel), rfl, rfl, by decide, uw_10, by decide, by decide +kernel, rfl⟩
theorem fa_M_25 : FA "KiteLoggerModel" 25 10 5 ((ftag 10).getD 5 0) := ⟨"KiteLoggerModel", "KiteLoggerModel", T10, 28, TT_in (i := 1368) (by decide +kernel) (by decide +kernel), rfl, rfl, by decide, uw_10, by decide, by decide +kernel, rfl⟩
theorem fa_M_28 : FA "KiteLoggerModel" 28 10 6 ((ftag 10).getD 6 0) := ⟨"KiteLoggerModel", "KiteLoggerModel", T10, 28, TT_in (i := 1369) (by decide +kernel) (by decide +kernel), rfl, rfl, by decide, uw_10, by decide, by decide +kernel, rfl⟩
theorem fa_M_31 : FA "KiteLoggerModel" 31 10 12 ((ftag 10).getD 12 0) := ⟨"KiteLoggerModel", "KiteLoggerModel", T10, 28, TT_in (i := 1375) (by decide +kernel) (by decide +kernel), rfl, rfl, by decide, uw_10, by decide, by decide +kernel, rfl⟩
theorem fa_M_34 : FA "KiteLoggerModel" 34 10 14 ((ftag 10).getD 14 0) := ⟨"KiteLoggerModel", "KiteLoggerModel", T10, 28, TT_in (i := 1377) (by decide +kernel) (by decide +kernel), rfl, rfl, by decide, uw_10, by decide, by decide +kernel, rfl⟩
theorem fa_M_37 : FA "KiteLoggerModel" 37 10 22 ((ftag 10).getD 22 0) := ⟨"KiteLoggerModel", "KiteLoggerModel", T10, 28, TT_in (i := 1385) (by decide +kernel) (by decide +kernel), rfl, rfl, by decide, uw_10, by decide, by decide +kernel, rfl⟩
theorem fa_M_41 : FA "KiteLoggerModel" 41 10 24 ((ftag 10).getD 24 0) := ⟨"KiteLoggerModel", "KiteLoggerModel", T10, 28, TT_in (i := 1387) (by decide +kernel) (by decide +kernel), rfl, rfl, by decide, uw_10, by decide, by decide +kernel, rfl⟩
theorem fa_M_64 : FA "KiteLoggerModel" 64 10 25 ((ftag 10).getD 25 0) := ⟨"KiteLoggerModel", "KiteLoggerModel", T10, 28, TT_in (i := 1388) (by decide +kernel) (by decide +kernel), rfl, rfl, by decide, uw_10, by decide, by decide +kernel, rfl⟩
theorem fa_M_76 : FA "KiteLoggerModel" 76 10 8 ((ftag 10).getD 8 0) := ⟨"KiteLoggerModel", "KiteLoggerModel", T10, 28, TT_in (i := 1371) (by decide +kernel) (by decide +kernel), rfl, rfl, by decide, uw_10, by decide, by decide +kernel, rfl⟩
theorem fa_M_183 : FA "KiteLoggerModel" 183 10 10 ((ftag 10).getD 10 0) := ⟨"KiteLoggerModel", "KiteLoggerModel", T10, 28, TT_in (i := 1373) (by decide +kernel) (by decide +kernel), rfl, rfl, by decide, uw_10, by decide, by decide +kernel, rfl⟩
theorem fa_M_186 : FA "KiteLoggerModel" 186 10 7 ((ftag 10).getD 7 0) := ⟨"KiteLoggerModel", "KiteLoggerModel", T10, 28, TT_in (i := 1370) (by decide +kernel) (by decide +kernel), rfl, rfl, by decide, uw_10, by decide, by decide +kernel, rfl⟩
theorem fa_M_222 : FA "KiteLoggerModel" 222 10 13 ((ftag 10).getD 13 0) := ⟨"KiteLoggerModel", "KiteLoggerModel", T10, 28, TT_in (i := 1376) (by decide +kernel) (by decide +kernel), rfl, rfl, by decide, uw_10, by decide, by decide +kernel, rfl⟩
theorem fa_M_231 : FA "KiteLoggerModel" 231 10 11 ((ftag 10).getD 11 0) := ⟨"KiteLoggerModel", "KiteLoggerModel", T10, 28, TT_in (i := 1374) (by decide +kernel) (by decide +kernel), rfl, rfl, by decide, uw_10, by decide, by decide +kernel, rfl⟩
theorem fa_M_235 : FA "KiteLoggerModel" 235 10 15 ((ftag 10).getD 15 0) := ⟨"KiteLoggerModel", "KiteLoggerModel", T10, 28, TT_in (i := 1378) (by decide +kernel) (by decide +kernel), rfl, rfl, by decide, uw_10, by decide, by decide +kernel, rfl⟩
theorem fa_M_238 : FA "KiteLoggerModel" 238 10 16 ((ftag 10).getD 16 0) := ⟨"KiteLoggerModel", "KiteLoggerModel", T10, 28, TT_in (i := 1379) (by decide +kernel) (by decide +kernel), rfl, rfl, by decide, uw_10, by decide, by decide +kernel, rfl⟩
theorem fa_M_244 : FA "KiteLoggerModel" 244 10 17 ((ftag 10).getD 17 0) := ⟨"KiteLoggerModel", "KiteLoggerModel", T10, 28, TT_in (i := 1380) (by decide +kernel) (by decide +kernel), rfl, rfl, by decide, uw_10, by decide, by decide +kernel, rfl⟩
theorem fa_M_247 : FA "KiteLoggerModel" 247 10 18 ((ftag 10).getD 18 0) := ⟨"KiteLoggerModel", "KiteLoggerModel", T10, 28, TT_in (i := 1381) (by decide +kernel) (by decide +kernel), rfl, rfl, by decide, uw_10, by decide, by decide +kernel, rfl⟩
theorem fa_M_250 : FA "KiteLoggerModel" 250 10 19 ((ftag 10).getD 19 0) := ⟨"KiteLoggerModel", "KiteLoggerModel", T10, 28, TT_in (i := 1382) (by decide +kernel) (by decide +kernel), rfl, rfl, by decide, uw_10, by decide, by decide +kernel, rfl⟩
theorem fa_M_259 : FA "KiteLoggerModel" 259 10 20 ((ftag 10).getD 20 0) := ⟨"KiteLoggerModel", "KiteLoggerModel", T10, 28, TT_in (i := 1383) (by decide +kernel) (by decide +kernel), rfl, rfl, by decide, uw_10, by decide, by decide +kernel, rfl⟩
theorem fa_M_262 : FA "KiteLoggerModel" 262 10 23 ((ftag 10).getD 23 0) := ⟨"KiteLoggerModel", "KiteLoggerModel", T10, 28, TT_in (i := 1386) (by decide +kernel) (by decide +kernel), rfl, rfl, by decide, uw_10, by decide, by decide +kernel, rfl⟩
theorem fa_M_268 : FA "KiteLoggerModel" 268 10 21 ((ftag 10).getD 21 0) := ⟨"KiteLoggerModel", "KiteLoggerModel", T10, 28, TT_in (i := 1384) (by decide +kernel) (by decide +kernel), rfl, rfl, by decide, uw_10, by decide, by decide +kernel, rfl⟩
theorem fa_M_299 : FA "KiteLoggerModel" 299 10 9 ((ftag 10).getD 9 0) := ⟨"KiteLoggerModel", "KiteLoggerModel", T10, 28, TT_in (i := 1372) (by decide +kernel) (by decide +kernel), rfl, rfl, by decide, uw_10, by decide, by decide +kernel, rfl⟩
theorem fa_M_336 : FA "KiteLoggerModel" 336 10 26 ((ftag 10).getD 26 0) := ⟨"KiteLoggerModel", "KiteLoggerModel", T10, 28, TT_in (i := 1389) (by decide +kernel) (by decide +kernel), rfl, rfl, by decide, uw_10, by decide, by decide +kernel, rfl⟩
theorem fa_M_359 : FA "KiteLoggerModel" 359 10 27 ((ftag 10).getD 27 0) := ⟨"KiteLoggerModel", "KiteLoggerModel", T10, 28, TT_in (i := 1390) (by decide +kernel) (by decide +kernel), rfl, rfl, by decide, uw_10, by decide, by decide +kernel, rfl⟩
theorem fw_0_1 : FW 0 1 .int := ⟨"KiteLogger$History", T0, 3, ty0, rfl, tyk0, nm0, rfl, by decide +kernel⟩
theorem fw_0_2 : FW 0 2 .int := ⟨"KiteLogger$History", T0, 3, ty0, rfl, tyk0, nm0, rfl, by decide +kernel⟩
theorem fw_1_0 : FW 1 0 .int := ⟨"KiteLogger$Kite", T1, 13, ty1, rfl, tyk1, nm1, rfl, by decide +kernel⟩
theorem fw_1_1 : FW 1 1 .int := ⟨"KiteLogger$Kite", T1, 13, ty1, rfl, tyk1, nm1, rfl, by decide +kernel⟩
theorem fw_1_2 : FW 1 2 .int := ⟨"KiteLogger$Kite", T1, 13, ty1, rfl, tyk1, nm1, rfl, by decide +kernel⟩
theorem fw_1_3 : FW 1 3 .int := ⟨"KiteLogger$Kite", T1, 13, ty1, rfl, tyk1, nm1, rfl, by decide +kernel⟩
theorem fw_1_4 : FW 1 4 .int := ⟨"KiteLogger$Kite", T1, 13, ty1, rfl, tyk1, nm1, rfl, by decide +kernel⟩
theorem fw_1_5 : FW 1 5 .int := ⟨"KiteLogger$Kite", T1, 13, ty1, rfl, tyk1, nm1, rfl, by decide +kernel⟩
theorem fw_1_6 : FW 1 6 .int := ⟨"KiteLogger$Kite", T1, 13, ty1, rfl, tyk1, nm1, rfl, by decide +kernel⟩
theorem fw_1_7 : FW 1 7 .int := ⟨"KiteLogger$Kite", T1, 13, ty1, rfl, tyk1, nm1, rfl, by decide +kernel⟩
theorem fw_1_8 : FW 1 8 .int := ⟨"KiteLogger$Kite", T1, 13, ty1, rfl, tyk1, nm1, rfl, by decide +kernel⟩
theorem fw_1_9 : FW 1 9 .int := ⟨"KiteLogger$Kite", T1, 13, ty1, rfl, tyk1, nm1, rfl, by decide +kernel⟩
theorem fw_1_10 : FW 1 10 .int := ⟨"KiteLogger$Kite", T1, 13, ty1, rfl, tyk1, nm1, rfl, by decide +kernel⟩
theorem fw_1_11 : FW 1 11 .int := ⟨"KiteLogger$Kite", T1, 13, ty1, rfl, tyk1, nm1, rfl, by decide +kernel⟩
theorem fw_1_12 : FW 1 12 .int := ⟨"KiteLogger$Kite", T1, 13, ty1, rfl, tyk1, nm1, rfl, by decide +kernel⟩
theorem fw_2_1 : FW 2 1 .int := ⟨"KiteLogger$Output", T2, 2, ty2, rfl, tyk2, nm2, rfl, by decide +kernel⟩
theorem fw_3_4 : FW 3 4 .int := ⟨"KiteLogger$Samples", T3, 7, ty3, rfl, tyk3, nm3, rfl, by decide +kernel⟩
theorem fw_3_5 : FW 3 5 .int := ⟨"KiteLogger$Samples", T3, 7, ty3, rfl, tyk3, nm3, rfl, by decide +kernel⟩
theorem fw_3_6 : FW 3 6 .int := ⟨"KiteLogger$Samples", T3, 7, ty3, rfl, tyk3, nm3, rfl, by decide +kernel⟩
theorem fw_4_4 : FW 4 4 .int := ⟨"KiteLogger$Script", T4, 6, ty4, rfl, tyk4, nm4, rfl, by decide +kernel⟩
theorem fw_4_5 : FW 4 5 .int := ⟨"KiteLogger$Script", T4, 6, ty4, rfl, tyk4, nm4, rfl, by decide +kernel⟩
theorem fw_5_2 : FW 5 2 .int := ⟨"KiteLogger$Station", T5, 9, ty5, rfl, tyk5, nm5, rfl, by decide +kernel⟩
theorem fw_5_6 : FW 5 6 .int := ⟨"KiteLogger$Station", T5, 9, ty5, rfl, tyk5, nm5, rfl, by decide +kernel⟩
theorem fw_5_7 : FW 5 7 .int := ⟨"KiteLogger$Station", T5, 9, ty5, rfl, tyk5, nm5, rfl, by decide +kernel⟩
theorem fw_5_8 : FW 5 8 .int := ⟨"KiteLogger$Station", T5, 9, ty5, rfl, tyk5, nm5, rfl, by decide +kernel⟩
theorem fw_6_0 : FW 6 0 .int := ⟨"KiteLogger$StationPlan", T6, 6, ty6, rfl, tyk6, nm6, rfl, by decide +kernel⟩
theorem fw_6_1 : FW 6 1 .int := ⟨"KiteLogger$StationPlan", T6, 6, ty6, rfl, tyk6, nm6, rfl, by decide +kernel⟩
theorem fw_6_2 : FW 6 2 .int := ⟨"KiteLogger$StationPlan", T6, 6, ty6, rfl, tyk6, nm6, rfl, by decide +kernel⟩
theorem fw_6_3 : FW 6 3 .int := ⟨"KiteLogger$StationPlan", T6, 6, ty6, rfl, tyk6, nm6, rfl, by decide +kernel⟩
theorem fw_6_5 : FW 6 5 .int := ⟨"KiteLogger$StationPlan", T6, 6, ty6, rfl, tyk6, nm6, rfl, by decide +kernel⟩
theorem fw_7_1 : FW 7 1 .int := ⟨"KiteLogger$TextReader", T7, 10, ty7, rfl, tyk7, nm7, rfl, by decide +kernel⟩
theorem fw_7_2 : FW 7 2 .int := ⟨"KiteLogger$TextReader", T7, 10, ty7, rfl, tyk7, nm7, rfl, by decide +kernel⟩
theorem fw_7_3 : FW 7 3 .int := ⟨"KiteLogger$TextReader", T7, 10, ty7, rfl, tyk7, nm7, rfl, by decide +kernel⟩
theorem fw_7_4 : FW 7 4 .int := ⟨"KiteLogger$TextReader", T7, 10, ty7, rfl, tyk7, nm7, rfl, by decide +kernel⟩
theorem fw_7_5 : FW 7 5 .int := ⟨"KiteLogger$TextReader", T7, 10, ty7, rfl, tyk7, nm7, rfl, by decide +kernel⟩
theorem fw_7_6 : FW 7 6 .int := ⟨"KiteLogger$TextReader", T7, 10, ty7, rfl, tyk7, nm7, rfl, by decide +kernel⟩
theorem fw_7_7 : FW 7 7 .int := ⟨"KiteLogger$TextReader", T7, 10, ty7, rfl, tyk7, nm7, rfl, by decide +kernel⟩
theorem fw_7_8 : FW 7 8 .int := ⟨"KiteLogger$TextReader", T7, 10, ty7, rfl, tyk7, nm7, rfl, by decide +kernel⟩
theorem fw_7_9 : FW 7 9 .int := ⟨"KiteLogger$TextReader", T7, 10, ty7, rfl, tyk7, nm7, rfl, by decide +kernel⟩
theorem fw_8_1 : FW 8 1 .int := ⟨"KiteLogger$WindBuffer", T8, 3, ty8, rfl, tyk8, nm8, rfl, by decide +kernel⟩
theorem fw_8_2 : FW 8 2 .int := ⟨"KiteLogger$WindBuffer", T8, 3, ty8, rfl, tyk8, nm8, rfl, by decide +kernel⟩
theorem fw_9_7 : FW 9 7 .boolean := ⟨"KiteLogger", T9, 9, ty9, rfl, tyk9, nm9, rfl, by decide +kernel⟩
theorem fw_10_7 : FW 10 7 .int := ⟨"KiteLoggerModel", T10, 28, ty10, rfl, tyk10, nm10, rfl, by decide +kernel⟩
theorem fw_10_8 : FW 10 8 .int := ⟨"KiteLoggerModel", T10, 28, ty10, rfl, tyk10, nm10, rfl, by decide +kernel⟩
theorem fw_10_9 : FW 10 9 .int := ⟨"KiteLoggerModel", T10, 28, ty10, rfl, tyk10, nm10, rfl, by decide +kernel⟩
theorem fw_10_10 : FW 10 10 .int := ⟨"KiteLoggerModel", T10, 28, ty10, rfl, tyk10, nm10, rfl, by decide +kernel⟩
theorem fw_10_11 : FW 10 11 .boolean := ⟨"KiteLoggerModel", T10, 28, ty10, rfl, tyk10, nm10, rfl, by decide +kernel⟩
theorem fw_10_13 : FW 10 13 .int := ⟨"KiteLoggerModel", T10, 28, ty10, rfl, tyk10, nm10, rfl, by decide +kernel⟩
theorem fw_10_15 : FW 10 15 .int := ⟨"KiteLoggerModel", T10, 28, ty10, rfl, tyk10, nm10, rfl, by decide +kernel⟩
theorem fw_10_16 : FW 10 16 .int := ⟨"KiteLoggerModel", T10, 28, ty10, rfl, tyk10, nm10, rfl, by decide +kernel⟩
theorem fw_10_17 : FW 10 17 .int := ⟨"KiteLoggerModel", T10, 28, ty10, rfl, tyk10, nm10, rfl, by decide +kernel⟩
theorem fw_10_18 : FW 10 18 .int := ⟨"KiteLoggerModel", T10, 28, ty10, rfl, tyk10, nm10, rfl, by decide +kernel⟩
theorem fw_10_19 : FW 10 19 .int := ⟨"KiteLoggerModel", T10, 28, ty10, rfl, tyk10, nm10, rfl, by decide +kernel⟩
theorem fw_10_20 : FW 10 20 .int := ⟨"KiteLoggerModel", T10, 28, ty10, rfl, tyk10, nm10, rfl, by decide +kernel⟩
theorem fw_10_21 : FW 10 21 .int := ⟨"KiteLoggerModel", T10, 28, ty10, rfl, tyk10, nm10, rfl, by decide +kernel⟩
theorem fw_10_22 : FW 10 22 .int := ⟨"KiteLoggerModel", T10, 28, ty10, rfl, tyk10, nm10, rfl, by decide +kernel⟩
theorem fw_10_23 : FW 10 23 .int := ⟨"KiteLoggerModel", T10, 28, ty10, rfl, tyk10, nm10, rfl, by decide +kernel⟩
theorem fw_10_26 : FW 10 26 .int := ⟨"KiteLoggerModel", T10, 28, ty10, rfl, tyk10, nm10, rfl, by decide +kernel⟩
theorem fw_10_27 : FW 10 27 .int := ⟨"KiteLoggerModel", T10, 28, ty10, rfl, tyk10, nm10, rfl, by decide +kernel⟩
end
section
/-! the judgement of a walk over the memory, and a row an instruction -/
def strT : List String := ["the buffer has no text of this length", "kite", "gusts", "interval", "a number is out of range", "there is no such sample", "the station does not allow this now", "launch", "out", "in", "bridle", "every", "search", "archive", "wait", "repeat", "", "there is no such byte", "there is nothing to undo", "there is no snapshot"]
def strB : List (List Int32) := [[116, 104, 101, 32, 98, 117, 102, 102, 101, 114, 32, 104, 97, 115, 32, 110, 111, 32, 116, 101, 120, 116, 32, 111, 102, 32, 116, 104, 105, 115, 32, 108, 101, 110, 103, 116, 104], [107, 105, 116, 101], [103, 117, 115, 116, 115], [105, 110, 116, 101, 114, 118, 97, 108], [97, 32, 110, 117, 109, 98, 101, 114, 32, 105, 115, 32, 111, 117, 116, 32, 111, 102, 32, 114, 97, 110, 103, 101], [116, 104, 101, 114, 101, 32, 105, 115, 32, 110, 111, 32, 115, 117, 99, 104, 32, 115, 97, 109, 112, 108, 101], [116, 104, 101, 32, 115, 116, 97, 116, 105, 111, 110, 32, 100, 111, 101, 115, 32, 110, 111, 116, 32, 97, 108, 108, 111, 119, 32, 116, 104, 105, 115, 32, 110, 111, 119], [108, 97, 117, 110, 99, 104], [111, 117, 116], [105, 110], [98, 114, 105, 100, 108, 101], [101, 118, 101, 114, 121], [115, 101, 97, 114, 99, 104], [97, 114, 99, 104, 105, 118, 101], [119, 97, 105, 116], [114, 101, 112, 101, 97, 116], [], [116, 104, 101, 114, 101, 32, 105, 115, 32, 110, 111, 32, 115, 117, 99, 104, 32, 98, 121, 116, 101], [116, 104, 101, 114, 101, 32, 105, 115, 32, 110, 111, 116, 104, 105, 110, 103, 32, 116, 111, 32, 117, 110, 100, 111], [116, 104, 101, 114, 101, 32, 105, 115, 32, 110, 111, 32, 115, 110, 97, 112, 115, 104, 111, 116]]
def strS : List (String × Nat × Nat) := [("KiteLogger", 306, 0), ("KiteLogger$StationPlan", 58, 1), ("KiteLogger$StationPlan", 71, 2), ("KiteLogger$StationPlan", 91, 3), ("KiteLogger", 298, 4), ("KiteLogger", 313, 5), ("KiteLogger", 301, 6), ("KiteLogger$Script", 87, 7), ("KiteLogger$Script", 89, 8), ("KiteLogger$Script", 91, 9), ("KiteLogger$Script", 93, 10), ("KiteLogger$Script", 95, 11), ("KiteLogger$Script", 97, 12), ("KiteLogger$Script", 99, 13), ("KiteLogger$Script", 101, 14), ("KiteLogger$Script", 103, 15), ("KiteLogger$Script", 105, 16), ("KiteLogger", 274, 17), ("KiteLogger", 283, 18), ("KiteLogger", 291, 19), ("KiteLoggerModel", 46, 7), ("KiteLoggerModel", 48, 8), ("KiteLoggerModel", 50, 9), ("KiteLoggerModel", 52, 10), ("KiteLoggerModel", 54, 11), ("KiteLoggerModel", 56, 12), ("KiteLoggerModel", 58, 13), ("KiteLoggerModel", 60, 14), ("KiteLoggerModel", 62, 15), ("KiteLoggerModel", 305, 1), ("KiteLoggerModel", 313, 2), ("KiteLoggerModel", 318, 3)]
def lenS (i : Nat) : Nat := (strB.getD i []).length
def bytS (i j : Nat) : Int32 := (strB.getD i []).getD j 0
def fgL : List Int32 := [6, 9, 12, 4, 0, 8]
/-- what of the start no method writes: the texts, the first gusts, the statics that a throw reads, the tables' words that warm -/
def Sx (w : Wc) (U : State) : Prop :=
  (∀ i : Nat, i < 20 → va_O "java/lang/String" (wad w (1000 + i)) (wA w) U U.heap ∧ va_OF "java/lang/String" "coder" "B" (.int 0) (wad w (1000 + i)) (wA w) U U.heap ∧ va_OF "java/lang/String" "value" "[B" (.ref (wad w (2000 + i))) (wad w (1000 + i)) (wA w) U U.heap ∧ va_T .byte (wad w (2000 + i)) (lenS i) (fun j => .int (bytS i j)) (wA w) U U.heap) ∧
  (∀ q ∈ strS, vk_R q.1 q.2.1 (strT.getD q.2.2 "") (wad w (1000 + q.2.2)) U) ∧ (∀ x ∈ NW, va_Nw x U) ∧
  va_Z "KiteLogger" "FIRST_GUSTS" "[I" (.ref (wad w 1100)) (wA w) U U.heap ∧ va_T .int (wad w 1100) 6 (fun j => .int (fgL.getD j 0)) (wA w) U U.heap ∧
  va_Z "java/lang/String" "COMPACT_STRINGS" "Z" (.int 1) (wA w) U U.heap ∧ va_Zq "jdk/internal/util/Preconditions" "SIOOBE_FORMATTER" "Ljava/util/function/BiFunction;" (wA w) U U.heap ∧
  vx_Zq Bundle.tN "UNASSIGNED_STACK" Bundle.steD (wA w) U U.heap ∧ vx_Zq Bundle.tN "SUPPRESSED_SENTINEL" Bundle.listD (wA w) U U.heap
theorem Sx.step {w : Wc} {s U : State} {H : Heap} {locs : List Loc} (h : Sx w s) (hS : va_S (wA w) s.heap H locs) (hH : U.heap = H) (hW : s.WarmedH U.vm) : Sx w U := by
  obtain ⟨h1, h2, h3, h4, h5, h6, h6b, h7, h8⟩ := h
  have hk : ∀ a : Nat, a < s.heap.size → ¬ wA w a → U.heap[a]? = s.heap[a]? := by rw [hH]; exact hS.2.1
  refine ⟨fun i hi => ?_, fun q hq => vk_R.warm hW (h2 q hq), NW_warm hW h3, (va_Z.moved hW.alike h4).kept hk, (va_T.moved hW.alike h5).kept hk, (va_Z.moved hW.alike h6).kept hk, (va_Zq.moved hW.alike h6b).kept hk, (vx_Zq.moved hW.alike h7).kept hk, (vx_Zq.moved hW.alike h8).kept hk⟩
  obtain ⟨a1, a2, a3, a4⟩ := h1 i hi
  exact ⟨(va_O.moved hW.alike a1).kept hk, (va_OF.moved hW.alike a2).kept hk, (va_OF.moved hW.alike a3).kept hk, (va_T.moved hW.alike a4).kept hk⟩
/-- the same statics seen from a frame -/
theorem Sx.frame {w : Wc} (u U : State) (hh : U.heap = u.heap) (hv : U.vm = u.vm) (h : Sx w u) : Sx w U := by
  have hal : u.vm.Alike U.vm := by rw [hv]; exact Vm.Alike.refl _
  obtain ⟨h1, h2, h3, h4, h5, h6, h6b, h7, h8⟩ := h
  refine ⟨fun i hi => ?_, fun q hq => vk_R.same hv (h2 q hq), NW_same hv.symm h3, ?_, ?_, ?_, ?_, ?_, ?_⟩
  · obtain ⟨a1, a2, a3, a4⟩ := h1 i hi
    rw [hh]
    exact ⟨va_O.moved hal a1, va_OF.moved hal a2, va_OF.moved hal a3, va_T.moved hal a4⟩
  · rw [hh]; exact va_Z.moved hal h4
  · rw [hh]; exact va_T.moved hal h5
  · rw [hh]; exact va_Z.moved hal h6
  · rw [hh]; exact va_Zq.moved hal h6b
  · rw [hh]; exact vx_Zq.moved hal h7
  · rw [hh]; exact vx_Zq.moved hal h8
/-- a method's start: the memory M in the heap, the tables, the statics -/
def Wd (w : Wc) (M : Mem) (U : State) : Prop := Rp w M U.heap ∧ va_K (wD w) vwCl (wtys w) U ∧ Wok w ∧ wlo w ≤ U.heap.size ∧ Sx w U
theorem Wd.blind {w : Wc} {M : Mem} {av : List Value} : FrameBlind (va_Pc av (Wd w M)) := by
  intro a U g mk h
  obtain ⟨h0, h1, h2, h3, h4, h5⟩ := h
  exact ⟨h0, h1, va_K.moved (u := U) (U := U.calling g mk a) (Vm.Alike.refl U.vm) h2, h3, h4, Sx.frame U _ rfl rfl h5⟩
theorem Rp.at {w : Wc} {M : Mem} {t : State} {H : Heap} (ht : t.heap = H) (h : Rp w M H) : Rp w M t.heap := by rw [ht]; exact h
def b2i (b : Bool) : Int32 := if b = true then 1 else 0
theorem b2i_nar (b : Bool) : narrow .boolean (.int (b2i b)) = .int (b2i b) := by cases b <;> rfl
abbrev QI (w : Wc) (r : Int32 × Mem) := va_Qi (fun r' (_ : Unit) => r' = r.1) (fun _ t => Rp w r.2 t.heap) (wA w)
abbrev QZ (w : Wc) (r : Bool × Mem) := va_Qi (fun r' (_ : Unit) => r' = b2i r.1) (fun _ t => Rp w r.2 t.heap) (wA w)
abbrev QV (w : Wc) (r : Mem) := va_Qv (fun (_ : Unit) => True) (fun _ t => Rp w r t.heap) (wA w)
abbrev QR (w : Wc) (r : Option Nat × Mem) := va_Qq (fun a (_ : Unit) => a = r.1.map (wad w)) (fun _ t => Rp w r.2 t.heap) (wA w)
abbrev QD (w : Wc) (r : UInt64 × Mem) := va_Qd (fun r' (_ : Unit) => r' = r.1) (fun _ t => Rp w r.2 t.heap) (wA w)
abbrev QF (w : Wc) (r : UInt32 × Mem) := va_Qf (fun r' (_ : Unit) => r' = r.1) (fun _ t => Rp w r.2 t.heap) (wA w)
/-- a method's contract: whenever the pure reading f answers r, the method does -/
def Ct {ρ : Type} (Q : Wc → ρ → Array Value → State → Outcome → State → Prop) (l : Launch) (y : MethodName) (b : ByteArray) (maxL : Nat) (ret : Option FieldType) (rm : Room) (w : Wc) (av : List Value) (M : Mem) (f : Option ρ) : Prop :=
  ∀ r, f = some r → Met l y (.code y b maxL ret :: TT) rm (va_Pc av (Wd w M)) (Q w r) rm.cells rm.slots (wA w)
def imax (x y : Int32) : Int32 := if x < y then y else x
def imin (x y : Int32) : Int32 := if y < x then y else x
def iabs (x : Int32) : Int32 := if 0 ≤ x then x else 0 - x
def irm (x y : Int32) : Int32 := x - x / y * y
def grd {ρ : Type} (b : Bool) (o : Option ρ) : Option ρ := if b = true then o else none
theorem grd_some {ρ : Type} {b : Bool} {o : Option ρ} {r : ρ} (h : grd b o = some r) : b = true ∧ o = some r := by
  unfold grd at h
  by_cases hb : b = true
  · rw [if_pos hb] at h; exact ⟨hb, h⟩
  · rw [if_neg hb] at h; cases h
theorem grd_t {ρ : Type} {b : Bool} {o : Option ρ} (h : b = true) : grd b o = o := if_pos h
def inB (i : Int32) (n : Nat) : Bool := !decide (i < 0) && decide (i.toNatClampNeg < n)
theorem inB_of {i : Int32} {n : Nat} (h : inB i n = true) : vp_in i n := by
  unfold inB at h
  simp only [Bool.and_eq_true, Bool.not_eq_true', decide_eq_false_iff_not, decide_eq_true_eq] at h
  intro hh
  rcases hh with h1 | h1
  · exact h.1 h1
  · omega
def nzB (y : Int32) : Bool := !decide (y = 0)
theorem nzB_of {y : Int32} (h : nzB y = true) : ¬ y = 0 := by
  unfold nzB at h
  simp only [Bool.not_eq_true', decide_eq_false_iff_not] at h
  exact h
def cpB (sp dp z : Int32) (n0 n1 : Nat) : Bool := !decide (sp < 0) && (!decide (dp < 0) && (!decide (z < 0) && (decide (sp.toNatClampNeg + z.toNatClampNeg ≤ n0) && decide (dp.toNatClampNeg + z.toNatClampNeg ≤ n1))))
theorem cpB_of {sp dp z : Int32} {n0 n1 : Nat} (h : cpB sp dp z n0 n1 = true) : ¬ sp < 0 ∧ ¬ dp < 0 ∧ ¬ z < 0 ∧ sp.toNatClampNeg + z.toNatClampNeg ≤ n0 ∧ dp.toNatClampNeg + z.toNatClampNeg ≤ n1 := by
  unfold cpB at h
  simp only [Bool.and_eq_true, Bool.not_eq_true', decide_eq_false_iff_not, decide_eq_true_eq] at h
  exact ⟨h.1, h.2.1, h.2.2.1, h.2.2.2.1, h.2.2.2.2⟩
def nn32 (r : UInt32) : Bool := decide (r &&& 0x7fffffff ≤ 0x7f800000)
theorem nn32_of {r : UInt32} (h : nn32 r = true) : vf_n32 r := of_decide_eq_true (p := r &&& 0x7fffffff ≤ 0x7f800000) h
def nn64 (r : UInt64) : Bool := decide (r &&& 0x7fffffffffffffff ≤ 0x7ff0000000000000)
theorem nn64_of {r : UInt64} (h : nn64 r = true) : vf_n64 r := of_decide_eq_true (p := r &&& 0x7fffffffffffffff ≤ 0x7ff0000000000000) h
def nm {α ρ : Type} (x : α) (f : α → Option ρ) : Option ρ := f x
def jn {α ρ : Type} (f : α) (h : α → Option ρ) : Option ρ := h f
def ocase {ρ : Type} (x : Option Nat) (o1 : Option ρ) (o2 : Nat → Option ρ) : Option ρ := match x with
  | none => o1
  | some q => grd (stL.contains q) (o2 q)
def scase {ρ : Type} (x : Option Nat) (o : Nat → Option ρ) : Option ρ := match x with
  | none => none
  | some q => grd (decide (1000 ≤ q) && decide (q < 1020)) (o (q - 1000))
section GO
variable {ρ : Type} {p : Program} {l : Launch} {e : Env} {R : Room} {s : State} {m : MethodId} {args : Array Value} {below : List Frame} {meth : Method} {c : Code} {w : Wc} {nL k n : Nat} {Qf : ρ → State → Prop} {cc : ByteArray} {own : String}
/-- from here on the walk does what o says -/
def Go (p : Program) (l : Launch) (e : Env) (R : Room) (s : State) (m : MethodId) (args : Array Value) (below : List Frame) (meth : Method) (c : Code) (w : Wc) (nL k n : Nat) (Qf : ρ → State → Prop) (o : Option ρ) (pc : Nat) (L : List (Nat × Value)) (st : List Value) (M : Mem) : Prop :=
  ∀ r, o = some r → ∀ (H : Heap) (locs : List Loc) (ls : Array Slot), Rp w M H → va_S (wA w) s.heap H locs → lv_has ls nL L → W p l e R s m args below meth c H locs k n (Qf r) (F0 m pc ls st)
/-- what a walk stands on -/
def Gd (p : Program) (s : State) (m : MethodId) (args : Array Value) (meth : Method) (c : Code) (w : Wc) (nL : Nat) (cc : ByteArray) (own : String) : Prop :=
  p.tables.exec = Jvm.exec ∧ c.code = cc ∧ c.maxLocals = nL ∧ s.vm.findClass own = some m.cls ∧ (∀ x ∈ TT, x.before args s = true) ∧ va_K (wD w) vwCl (wtys w) s ∧ meth.locks = false ∧ Sx w s ∧ Wok w ∧ wlo w ≤ s.heap.size
theorem G_iadd (g : Gd p s m args meth c w nL cc own) {pc : Nat} {L : List (Nat × Value)} {st : List Value} {M : Mem} {o : Option ρ} {x y : Int32} (d : decode cc pc = .ok (.iadd, 1)) (kk : Go p l e R s m args below meth c w nL k n Qf o (pc + 1) L (.int (x + y) :: st) M) : Go p l e R s m args below meth c w nL k n Qf o pc L (.int y :: .int x :: st) M :=
  fun r hr H locs ls hP hS hl => lv_iadd g.1 g.2.1 d (kk r hr H locs ls hP hS hl)
theorem G_isub (g : Gd p s m args meth c w nL cc own) {pc : Nat} {L : List (Nat × Value)} {st : List Value} {M : Mem} {o : Option ρ} {x y : Int32} (d : decode cc pc = .ok (.isub, 1)) (kk : Go p l e R s m args below meth c w nL k n Qf o (pc + 1) L (.int (x - y) :: st) M) : Go p l e R s m args below meth c w nL k n Qf o pc L (.int y :: .int x :: st) M :=
  fun r hr H locs ls hP hS hl => lv_isub g.1 g.2.1 d (kk r hr H locs ls hP hS hl)
theorem G_imul (g : Gd p s m args meth c w nL cc own) {pc : Nat} {L : List (Nat × Value)} {st : List Value} {M : Mem} {o : Option ρ} {x y : Int32} (d : decode cc pc = .ok (.imul, 1)) (kk : Go p l e R s m args below meth c w nL k n Qf o (pc + 1) L (.int (x * y) :: st) M) : Go p l e R s m args below meth c w nL k n Qf o pc L (.int y :: .int x :: st) M :=
  fun r hr H locs ls hP hS hl => lv_imul g.1 g.2.1 d (kk r hr H locs ls hP hS hl)
theorem G_iand (g : Gd p s m args meth c w nL cc own) {pc : Nat} {L : List (Nat × Value)} {st : List Value} {M : Mem} {o : Option ρ} {x y : Int32} (d : decode cc pc = .ok (.iand, 1)) (kk : Go p l e R s m args below meth c w nL k n Qf o (pc + 1) L (.int (x &&& y) :: st) M) : Go p l e R s m args below meth c w nL k n Qf o pc L (.int y :: .int x :: st) M :=
  fun r hr H locs ls hP hS hl => lv_iand g.1 g.2.1 d (kk r hr H locs ls hP hS hl)
theorem G_ishr (g : Gd p s m args meth c w nL cc own) {pc : Nat} {L : List (Nat × Value)} {st : List Value} {M : Mem} {o : Option ρ} {x y : Int32} (d : decode cc pc = .ok (.ishr, 1)) (kk : Go p l e R s m args below meth c w nL k n Qf o (pc + 1) L (.int (x >>> (y &&& 31)) :: st) M) : Go p l e R s m args below meth c w nL k n Qf o pc L (.int y :: .int x :: st) M :=
  fun r hr H locs ls hP hS hl => lv_ishr g.1 g.2.1 d (kk r hr H locs ls hP hS hl)
theorem G_iushr (g : Gd p s m args meth c w nL cc own) {pc : Nat} {L : List (Nat × Value)} {st : List Value} {M : Mem} {o : Option ρ} {x y : Int32} (d : decode cc pc = .ok (.iushr, 1)) (kk : Go p l e R s m args below meth c w nL k n Qf o (pc + 1) L (.int ((x.toUInt32 >>> (y.toUInt32 &&& Int32.toUInt32 31)).toInt32) :: st) M) : Go p l e R s m args below meth c w nL k n Qf o pc L (.int y :: .int x :: st) M :=
  fun r hr H locs ls hP hS hl => lv_iushr g.1 g.2.1 d rfl (kk r hr H locs ls hP hS hl)
theorem G_ineg (g : Gd p s m args meth c w nL cc own) {pc : Nat} {L : List (Nat × Value)} {st : List Value} {M : Mem} {o : Option ρ} {x : Int32} (d : decode cc pc = .ok (.ineg, 1)) (kk : Go p l e R s m args below meth c w nL k n Qf o (pc + 1) L (.int (-x) :: st) M) : Go p l e R s m args below meth c w nL k n Qf o pc L (.int x :: st) M :=
  fun r hr H locs ls hP hS hl => lv_ineg g.1 g.2.1 d (kk r hr H locs ls hP hS hl)
theorem G_i2l (g : Gd p s m args meth c w nL cc own) {pc : Nat} {L : List (Nat × Value)} {st : List Value} {M : Mem} {o : Option ρ} {x : Int32} (d : decode cc pc = .ok (.i2l, 1)) (kk : Go p l e R s m args below meth c w nL k n Qf o (pc + 1) L (.long x.toInt64 :: st) M) : Go p l e R s m args below meth c w nL k n Qf o pc L (.int x :: st) M :=
  fun r hr H locs ls hP hS hl => lv_i2l g.1 g.2.1 d rfl (kk r hr H locs ls hP hS hl)
theorem G_i2b (g : Gd p s m args meth c w nL cc own) {pc : Nat} {L : List (Nat × Value)} {st : List Value} {M : Mem} {o : Option ρ} {x : Int32} (d : decode cc pc = .ok (.i2b, 1)) (kk : Go p l e R s m args below meth c w nL k n Qf o (pc + 1) L (.int x.toInt8.toInt32 :: st) M) : Go p l e R s m args below meth c w nL k n Qf o pc L (.int x :: st) M :=
  fun r hr H locs ls hP hS hl => lv_i2b g.1 g.2.1 d rfl (kk r hr H locs ls hP hS hl)
theorem G_i2c (g : Gd p s m args meth c w nL cc own) {pc : Nat} {L : List (Nat × Value)} {st : List Value} {M : Mem} {o : Option ρ} {x : Int32} (d : decode cc pc = .ok (.i2c, 1)) (kk : Go p l e R s m args below meth c w nL k n Qf o (pc + 1) L (.int ((x.toUInt32 % 65536).toInt32) :: st) M) : Go p l e R s m args below meth c w nL k n Qf o pc L (.int x :: st) M :=
  fun r hr H locs ls hP hS hl => lv_i2c g.1 g.2.1 d rfl (kk r hr H locs ls hP hS hl)
theorem G_i2f (g : Gd p s m args meth c w nL cc own) {pc : Nat} {L : List (Nat × Value)} {st : List Value} {M : Mem} {o : Option ρ} {x : Int32} (d : decode cc pc = .ok (.i2f, 1)) (kk : Go p l e R s m args below meth c w nL k n Qf o (pc + 1) L (.float (FP.i2f x) :: st) M) : Go p l e R s m args below meth c w nL k n Qf o pc L (.int x :: st) M :=
  fun r hr H locs ls hP hS hl => lv_i2f g.1 g.2.1 d (kk r hr H locs ls hP hS hl)
theorem G_i2d (g : Gd p s m args meth c w nL cc own) {pc : Nat} {L : List (Nat × Value)} {st : List Value} {M : Mem} {o : Option ρ} {x : Int32} (d : decode cc pc = .ok (.i2d, 1)) (kk : Go p l e R s m args below meth c w nL k n Qf o (pc + 1) L (.double (FP.i2d x) :: st) M) : Go p l e R s m args below meth c w nL k n Qf o pc L (.int x :: st) M :=
  fun r hr H locs ls hP hS hl => lv_i2d g.1 g.2.1 d (kk r hr H locs ls hP hS hl)
theorem G_fconst0 (g : Gd p s m args meth c w nL cc own) {pc : Nat} {L : List (Nat × Value)} {st : List Value} {M : Mem} {o : Option ρ} (d : decode cc pc = .ok (.fconst 0, 1)) (kk : Go p l e R s m args below meth c w nL k n Qf o (pc + 1) L (.float 0 :: st) M) : Go p l e R s m args below meth c w nL k n Qf o pc L st M :=
  fun r hr H locs ls hP hS hl => lv_fconst0 g.1 g.2.1 d (kk r hr H locs ls hP hS hl)
theorem G_dconst0 (g : Gd p s m args meth c w nL cc own) {pc : Nat} {L : List (Nat × Value)} {st : List Value} {M : Mem} {o : Option ρ} (d : decode cc pc = .ok (.dconst 0, 1)) (kk : Go p l e R s m args below meth c w nL k n Qf o (pc + 1) L (.double 0 :: st) M) : Go p l e R s m args below meth c w nL k n Qf o pc L st M :=
  fun r hr H locs ls hP hS hl => lv_dconst0 g.1 g.2.1 d (kk r hr H locs ls hP hS hl)
theorem G_idiv (g : Gd p s m args meth c w nL cc own) {pc : Nat} {L : List (Nat × Value)} {st : List Value} {M : Mem} {o : Option ρ} {x y : Int32} (d : decode cc pc = .ok (.idiv, 1)) (kk : Go p l e R s m args below meth c w nL k n Qf o (pc + 1) L (.int (x / y) :: st) M) : Go p l e R s m args below meth c w nL k n Qf (grd (nzB y) o) pc L (.int y :: .int x :: st) M := by
  intro r hr H locs ls hP hS hl
  obtain ⟨h, hr⟩ := grd_some hr
  exact lv_idiv g.1 g.2.1 d (nzB_of h) (kk r hr H locs ls hP hS hl)
theorem G_idivK (g : Gd p s m args meth c w nL cc own) {pc : Nat} {L : List (Nat × Value)} {st : List Value} {M : Mem} {o : Option ρ} {x y : Int32} (hy : ¬ y = 0) (d : decode cc pc = .ok (.idiv, 1)) (kk : Go p l e R s m args below meth c w nL k n Qf o (pc + 1) L (.int (x / y) :: st) M) : Go p l e R s m args below meth c w nL k n Qf o pc L (.int y :: .int x :: st) M :=
  fun r hr H locs ls hP hS hl => lv_idiv g.1 g.2.1 d hy (kk r hr H locs ls hP hS hl)
theorem G_irem (g : Gd p s m args meth c w nL cc own) {pc : Nat} {L : List (Nat × Value)} {st : List Value} {M : Mem} {o : Option ρ} {x y : Int32} (d : decode cc pc = .ok (.irem, 1)) (kk : Go p l e R s m args below meth c w nL k n Qf o (pc + 1) L (.int (irm x y) :: st) M) : Go p l e R s m args below meth c w nL k n Qf (grd (nzB y) o) pc L (.int y :: .int x :: st) M := by
  intro r hr H locs ls hP hS hl
  obtain ⟨h, hr⟩ := grd_some hr
  exact lv_irem g.1 g.2.1 d (nzB_of h) (kk r hr H locs ls hP hS hl)
theorem G_iremK (g : Gd p s m args meth c w nL cc own) {pc : Nat} {L : List (Nat × Value)} {st : List Value} {M : Mem} {o : Option ρ} {x y : Int32} (hy : ¬ y = 0) (d : decode cc pc = .ok (.irem, 1)) (kk : Go p l e R s m args below meth c w nL k n Qf o (pc + 1) L (.int (irm x y) :: st) M) : Go p l e R s m args below meth c w nL k n Qf o pc L (.int y :: .int x :: st) M :=
  fun r hr H locs ls hP hS hl => lv_irem g.1 g.2.1 d hy (kk r hr H locs ls hP hS hl)
theorem G_fdiv (g : Gd p s m args meth c w nL cc own) {pc : Nat} {L : List (Nat × Value)} {st : List Value} {M : Mem} {o : Option ρ} {x y : UInt32} (d : decode cc pc = .ok (.fdiv, 1)) (kk : Go p l e R s m args below meth c w nL k n Qf o (pc + 1) L (.float (FP.fdiv x y) :: st) M) : Go p l e R s m args below meth c w nL k n Qf (grd (nn32 (FP.fdiv x y)) o) pc L (.float y :: .float x :: st) M := by
  intro r hr H locs ls hP hS hl
  obtain ⟨h, hr⟩ := grd_some hr
  exact lv_fdiv g.1 g.2.1 d (nn32_of h) (kk r hr H locs ls hP hS hl)
theorem G_ddiv (g : Gd p s m args meth c w nL cc own) {pc : Nat} {L : List (Nat × Value)} {st : List Value} {M : Mem} {o : Option ρ} {x y : UInt64} (d : decode cc pc = .ok (.ddiv, 1)) (kk : Go p l e R s m args below meth c w nL k n Qf o (pc + 1) L (.double (FP.ddiv x y) :: st) M) : Go p l e R s m args below meth c w nL k n Qf (grd (nn64 (FP.ddiv x y)) o) pc L (.double y :: .double x :: st) M := by
  intro r hr H locs ls hP hS hl
  obtain ⟨h, hr⟩ := grd_some hr
  exact lv_ddiv g.1 g.2.1 d (nn64_of h) (kk r hr H locs ls hP hS hl)
theorem G_iconst (g : Gd p s m args meth c w nL cc own) {pc : Nat} {L : List (Nat × Value)} {st : List Value} {M : Mem} {o : Option ρ} {z : Int} (v : Int32) (d : decode cc pc = .ok (.iconst z, 1)) (hv : Int32.ofInt z = v) (kk : Go p l e R s m args below meth c w nL k n Qf o (pc + 1) L (.int v :: st) M) : Go p l e R s m args below meth c w nL k n Qf o pc L st M :=
  fun r hr H locs ls hP hS hl => lv_iconst g.1 g.2.1 d hv (kk r hr H locs ls hP hS hl)
theorem G_bipush (g : Gd p s m args meth c w nL cc own) {pc : Nat} {L : List (Nat × Value)} {st : List Value} {M : Mem} {o : Option ρ} {z : Int} (v : Int32) (d : decode cc pc = .ok (.bipush z, 2)) (hv : (Int8.ofInt z).toInt32 = v) (kk : Go p l e R s m args below meth c w nL k n Qf o (pc + 2) L (.int v :: st) M) : Go p l e R s m args below meth c w nL k n Qf o pc L st M :=
  fun r hr H locs ls hP hS hl => lv_bipush g.1 g.2.1 d hv (kk r hr H locs ls hP hS hl)
theorem G_sipush (g : Gd p s m args meth c w nL cc own) {pc : Nat} {L : List (Nat × Value)} {st : List Value} {M : Mem} {o : Option ρ} {z : Int} (v : Int32) (d : decode cc pc = .ok (.sipush z, 3)) (hv : (Int16.ofInt z).toInt32 = v) (kk : Go p l e R s m args below meth c w nL k n Qf o (pc + 3) L (.int v :: st) M) : Go p l e R s m args below meth c w nL k n Qf o pc L st M :=
  fun r hr H locs ls hP hS hl => lv_sipush g.1 g.2.1 d hv (kk r hr H locs ls hP hS hl)
theorem G_iload_n (g : Gd p s m args meth c w nL cc own) {pc : Nat} {L : List (Nat × Value)} {st : List Value} {M : Mem} {o : Option ρ} {f : Fin 4} {i : Nat} {x : Int32} (j : Nat) (d : decode cc pc = .ok (.iload_n f, 1)) (hi : (f : Nat) = i) (hj : L[j]? = some (i, .int x)) (kk : Go p l e R s m args below meth c w nL k n Qf o (pc + 1) L (.int x :: st) M) : Go p l e R s m args below meth c w nL k n Qf o pc L st M :=
  fun r hr H locs ls hP hS hl => lv_iload_n g.1 g.2.1 d hi (lv_at hl j hj) (kk r hr H locs ls hP hS hl)
theorem G_iload (g : Gd p s m args meth c w nL cc own) {pc : Nat} {L : List (Nat × Value)} {st : List Value} {M : Mem} {o : Option ρ} {i : Nat} {x : Int32} (j : Nat) (d : decode cc pc = .ok (.iload i, 2)) (hj : L[j]? = some (i, .int x)) (kk : Go p l e R s m args below meth c w nL k n Qf o (pc + 2) L (.int x :: st) M) : Go p l e R s m args below meth c w nL k n Qf o pc L st M :=
  fun r hr H locs ls hP hS hl => lv_iload g.1 g.2.1 d (lv_at hl j hj) (kk r hr H locs ls hP hS hl)
theorem G_aload_n (g : Gd p s m args meth c w nL cc own) {pc : Nat} {L : List (Nat × Value)} {st : List Value} {M : Mem} {o : Option ρ} {f : Fin 4} {i : Nat} {x : Nat} (j : Nat) (d : decode cc pc = .ok (.aload_n f, 1)) (hi : (f : Nat) = i) (hj : L[j]? = some (i, .ref x)) (kk : Go p l e R s m args below meth c w nL k n Qf o (pc + 1) L (.ref x :: st) M) : Go p l e R s m args below meth c w nL k n Qf o pc L st M :=
  fun r hr H locs ls hP hS hl => lv_aload_n g.1 g.2.1 d hi (lv_at hl j hj) (kk r hr H locs ls hP hS hl)
theorem G_aload (g : Gd p s m args meth c w nL cc own) {pc : Nat} {L : List (Nat × Value)} {st : List Value} {M : Mem} {o : Option ρ} {i : Nat} {x : Nat} (j : Nat) (d : decode cc pc = .ok (.aload i, 2)) (hj : L[j]? = some (i, .ref x)) (kk : Go p l e R s m args below meth c w nL k n Qf o (pc + 2) L (.ref x :: st) M) : Go p l e R s m args below meth c w nL k n Qf o pc L st M :=
  fun r hr H locs ls hP hS hl => lv_aload g.1 g.2.1 d (lv_at hl j hj) (kk r hr H locs ls hP hS hl)
theorem G_dload_n (g : Gd p s m args meth c w nL cc own) {pc : Nat} {L : List (Nat × Value)} {st : List Value} {M : Mem} {o : Option ρ} {f : Fin 4} {i : Nat} {x : UInt64} (j : Nat) (d : decode cc pc = .ok (.dload_n f, 1)) (hi : (f : Nat) = i) (hj : L[j]? = some (i, .double x)) (kk : Go p l e R s m args below meth c w nL k n Qf o (pc + 1) L (.double x :: st) M) : Go p l e R s m args below meth c w nL k n Qf o pc L st M :=
  fun r hr H locs ls hP hS hl => lv_dload_n g.1 g.2.1 d hi (lv_at hl j hj) (kk r hr H locs ls hP hS hl)
theorem G_dload (g : Gd p s m args meth c w nL cc own) {pc : Nat} {L : List (Nat × Value)} {st : List Value} {M : Mem} {o : Option ρ} {i : Nat} {x : UInt64} (j : Nat) (d : decode cc pc = .ok (.dload i, 2)) (hj : L[j]? = some (i, .double x)) (kk : Go p l e R s m args below meth c w nL k n Qf o (pc + 2) L (.double x :: st) M) : Go p l e R s m args below meth c w nL k n Qf o pc L st M :=
  fun r hr H locs ls hP hS hl => lv_dload g.1 g.2.1 d (lv_at hl j hj) (kk r hr H locs ls hP hS hl)
theorem G_aload_nN (g : Gd p s m args meth c w nL cc own) {pc : Nat} {L : List (Nat × Value)} {st : List Value} {M : Mem} {o : Option ρ} {f : Fin 4} {i : Nat} (j : Nat) (d : decode cc pc = .ok (.aload_n f, 1)) (hi : (f : Nat) = i) (hj : L[j]? = some (i, .null)) (kk : Go p l e R s m args below meth c w nL k n Qf o (pc + 1) L (.null :: st) M) : Go p l e R s m args below meth c w nL k n Qf o pc L st M :=
  fun r hr H locs ls hP hS hl => lv_aload_nN g.1 g.2.1 d hi (lv_at hl j hj) (kk r hr H locs ls hP hS hl)
theorem G_istore_n (g : Gd p s m args meth c w nL cc own) {pc : Nat} {L : List (Nat × Value)} {st : List Value} {M : Mem} {o : Option ρ} {f : Fin 4} {i : Nat} {x : Int32} (L2 : List (Nat × Value)) (d : decode cc pc = .ok (.istore_n f, 1)) (hi : (f : Nat) = i) (hn : i < nL) (hL : (i, Value.int x) :: L.filter (fun q => !(q.1 == i) && !(q.1 + 1 == i && q.2.category == 2)) = L2) (kk : Go p l e R s m args below meth c w nL k n Qf o (pc + 1) L2 st M) : Go p l e R s m args below meth c w nL k n Qf o pc L (Value.int x :: st) M :=
  fun r hr H locs ls hP hS hl => lv_istore_n g.1 g.2.1 d hi hl hn hL (fun ls hl => kk r hr H locs ls hP hS hl)
theorem G_istore (g : Gd p s m args meth c w nL cc own) {pc : Nat} {L : List (Nat × Value)} {st : List Value} {M : Mem} {o : Option ρ} {i : Nat} {x : Int32} (L2 : List (Nat × Value)) (d : decode cc pc = .ok (.istore i, 2)) (hn : i < nL) (hL : (i, Value.int x) :: L.filter (fun q => !(q.1 == i) && !(q.1 + 1 == i && q.2.category == 2)) = L2) (kk : Go p l e R s m args below meth c w nL k n Qf o (pc + 2) L2 st M) : Go p l e R s m args below meth c w nL k n Qf o pc L (Value.int x :: st) M :=
  fun r hr H locs ls hP hS hl => lv_istore g.1 g.2.1 d hl hn hL (fun ls hl => kk r hr H locs ls hP hS hl)
theorem G_astore_n (g : Gd p s m args meth c w nL cc own) {pc : Nat} {L : List (Nat × Value)} {st : List Value} {M : Mem} {o : Option ρ} {f : Fin 4} {i : Nat} {x : Nat} (L2 : List (Nat × Value)) (d : decode cc pc = .ok (.astore_n f, 1)) (hi : (f : Nat) = i) (hn : i < nL) (hL : (i, Value.ref x) :: L.filter (fun q => !(q.1 == i) && !(q.1 + 1 == i && q.2.category == 2)) = L2) (kk : Go p l e R s m args below meth c w nL k n Qf o (pc + 1) L2 st M) : Go p l e R s m args below meth c w nL k n Qf o pc L (Value.ref x :: st) M :=
  fun r hr H locs ls hP hS hl => lv_astore_n g.1 g.2.1 d hi hl hn hL (fun ls hl => kk r hr H locs ls hP hS hl)
theorem G_astore (g : Gd p s m args meth c w nL cc own) {pc : Nat} {L : List (Nat × Value)} {st : List Value} {M : Mem} {o : Option ρ} {i : Nat} {x : Nat} (L2 : List (Nat × Value)) (d : decode cc pc = .ok (.astore i, 2)) (hn : i < nL) (hL : (i, Value.ref x) :: L.filter (fun q => !(q.1 == i) && !(q.1 + 1 == i && q.2.category == 2)) = L2) (kk : Go p l e R s m args below meth c w nL k n Qf o (pc + 2) L2 st M) : Go p l e R s m args below meth c w nL k n Qf o pc L (Value.ref x :: st) M :=
  fun r hr H locs ls hP hS hl => lv_astore g.1 g.2.1 d hl hn hL (fun ls hl => kk r hr H locs ls hP hS hl)
theorem G_astore_nN (g : Gd p s m args meth c w nL cc own) {pc : Nat} {L : List (Nat × Value)} {st : List Value} {M : Mem} {o : Option ρ} {f : Fin 4} {i : Nat} (L2 : List (Nat × Value)) (d : decode cc pc = .ok (.astore_n f, 1)) (hi : (f : Nat) = i) (hn : i < nL) (hL : (i, Value.null) :: L.filter (fun q => !(q.1 == i) && !(q.1 + 1 == i && q.2.category == 2)) = L2) (kk : Go p l e R s m args below meth c w nL k n Qf o (pc + 1) L2 st M) : Go p l e R s m args below meth c w nL k n Qf o pc L (.null :: st) M :=
  fun r hr H locs ls hP hS hl => lv_astore_nN g.1 g.2.1 d hi hl hn hL (fun ls hl => kk r hr H locs ls hP hS hl)
theorem G_null (g : Gd p s m args meth c w nL cc own) {pc : Nat} {L : List (Nat × Value)} {st : List Value} {M : Mem} {o : Option ρ} (d : decode cc pc = .ok (.aconst_null, 1)) (kk : Go p l e R s m args below meth c w nL k n Qf o (pc + 1) L (.null :: st) M) : Go p l e R s m args below meth c w nL k n Qf o pc L st M :=
  fun r hr H locs ls hP hS hl => lv_null g.1 g.2.1 d (kk r hr H locs ls hP hS hl)
theorem G_iinc (g : Gd p s m args meth c w nL cc own) {pc : Nat} {L : List (Nat × Value)} {st : List Value} {M : Mem} {o : Option ρ} {i : Nat} {z : Int} {x : Int32} (v : Int32) (L2 : List (Nat × Value)) (j : Nat) (d : decode cc pc = .ok (.iinc i z, 3)) (hj : L[j]? = some (i, .int x)) (hv : x + Int32.ofInt z = v) (hn : i < nL) (hL : (i, Value.int v) :: L.filter (fun q => !(q.1 == i) && !(q.1 + 1 == i && q.2.category == 2)) = L2) (kk : Go p l e R s m args below meth c w nL k n Qf o (pc + 3) L2 st M) : Go p l e R s m args below meth c w nL k n Qf o pc L st M :=
  fun r hr H locs ls hP hS hl => lv_iinc g.1 g.2.1 d hl hj hv hn hL (fun ls hl => kk r hr H locs ls hP hS hl)
theorem G_dup (g : Gd p s m args meth c w nL cc own) {pc : Nat} {L : List (Nat × Value)} {st : List Value} {M : Mem} {o : Option ρ} {va : Value} (d : decode cc pc = .ok (.dup, 1)) (hc : va.category = 1) (kk : Go p l e R s m args below meth c w nL k n Qf o (pc + 1) L (va :: va :: st) M) : Go p l e R s m args below meth c w nL k n Qf o pc L (va :: st) M :=
  fun r hr H locs ls hP hS hl => lv_dup g.1 g.2.1 d hc (kk r hr H locs ls hP hS hl)
theorem G_dup2 (g : Gd p s m args meth c w nL cc own) {pc : Nat} {L : List (Nat × Value)} {st : List Value} {M : Mem} {o : Option ρ} {va vb : Value} (d : decode cc pc = .ok (.dup2, 1)) (ha : va.category = 1) (hb : vb.category = 1) (kk : Go p l e R s m args below meth c w nL k n Qf o (pc + 1) L (va :: vb :: va :: vb :: st) M) : Go p l e R s m args below meth c w nL k n Qf o pc L (va :: vb :: st) M :=
  fun r hr H locs ls hP hS hl => lv_dup2_11 g.1 g.2.1 d ha hb (kk r hr H locs ls hP hS hl)
theorem G_pop (g : Gd p s m args meth c w nL cc own) {pc : Nat} {L : List (Nat × Value)} {st : List Value} {M : Mem} {o : Option ρ} {va : Value} (d : decode cc pc = .ok (.pop, 1)) (hc : va.category = 1) (kk : Go p l e R s m args below meth c w nL k n Qf o (pc + 1) L st M) : Go p l e R s m args below meth c w nL k n Qf o pc L (va :: st) M :=
  fun r hr H locs ls hP hS hl => lv_pop g.1 g.2.1 d hc (kk r hr H locs ls hP hS hl)
theorem G_goto (g : Gd p s m args meth c w nL cc own) {pc : Nat} {L : List (Nat × Value)} {st : List Value} {M : Mem} {o : Option ρ} {off : Int} (tgt : Nat) (d : decode cc pc = .ok (.goto off, 3)) (ht : (pc : Int) + off = (tgt : Int)) (kk : Go p l e R s m args below meth c w nL k n Qf o tgt L st M) : Go p l e R s m args below meth c w nL k n Qf o pc L st M :=
  fun r hr H locs ls hP hS hl => lv_goto g.1 g.2.1 d ht (kk r hr H locs ls hP hS hl)
theorem G_if_eq (g : Gd p s m args meth c w nL cc own) {pc : Nat} {L : List (Nat × Value)} {st : List Value} {M : Mem} {o1 o2 : Option ρ} {x : Int32} {off : Int} (tgt : Nat) (d : decode cc pc = .ok (.ifCond .eq off, 3)) (ht : (pc : Int) + off = (tgt : Int)) (k1 : Go p l e R s m args below meth c w nL k n Qf o1 tgt L st M) (k2 : Go p l e R s m args below meth c w nL k n Qf o2 (pc + 3) L st M) : Go p l e R s m args below meth c w nL k n Qf (if x = 0 then o1 else o2) pc L (.int x :: st) M := by
  intro r hr H locs ls hP hS hl
  refine lv_if_eq g.1 g.2.1 d ht (fun h => ?_) (fun h => ?_)
  · rw [if_pos h] at hr; exact k1 r hr H locs ls hP hS hl
  · rw [if_neg h] at hr; exact k2 r hr H locs ls hP hS hl
theorem G_if_ne (g : Gd p s m args meth c w nL cc own) {pc : Nat} {L : List (Nat × Value)} {st : List Value} {M : Mem} {o1 o2 : Option ρ} {x : Int32} {off : Int} (tgt : Nat) (d : decode cc pc = .ok (.ifCond .ne off, 3)) (ht : (pc : Int) + off = (tgt : Int)) (k1 : Go p l e R s m args below meth c w nL k n Qf o1 (pc + 3) L st M) (k2 : Go p l e R s m args below meth c w nL k n Qf o2 tgt L st M) : Go p l e R s m args below meth c w nL k n Qf (if x = 0 then o1 else o2) pc L (.int x :: st) M := by
  intro r hr H locs ls hP hS hl
  refine lv_if_ne g.1 g.2.1 d ht (fun h => ?_) (fun h => ?_)
  · rw [if_neg h] at hr; exact k2 r hr H locs ls hP hS hl
  · rw [if_pos h] at hr; exact k1 r hr H locs ls hP hS hl
theorem G_if_lt (g : Gd p s m args meth c w nL cc own) {pc : Nat} {L : List (Nat × Value)} {st : List Value} {M : Mem} {o1 o2 : Option ρ} {x : Int32} {off : Int} (tgt : Nat) (d : decode cc pc = .ok (.ifCond .lt off, 3)) (ht : (pc : Int) + off = (tgt : Int)) (k1 : Go p l e R s m args below meth c w nL k n Qf o1 tgt L st M) (k2 : Go p l e R s m args below meth c w nL k n Qf o2 (pc + 3) L st M) : Go p l e R s m args below meth c w nL k n Qf (if x < 0 then o1 else o2) pc L (.int x :: st) M := by
  intro r hr H locs ls hP hS hl
  refine lv_if_lt g.1 g.2.1 d ht (fun h => ?_) (fun h => ?_)
  · rw [if_pos h] at hr; exact k1 r hr H locs ls hP hS hl
  · rw [if_neg h] at hr; exact k2 r hr H locs ls hP hS hl
theorem G_if_ge (g : Gd p s m args meth c w nL cc own) {pc : Nat} {L : List (Nat × Value)} {st : List Value} {M : Mem} {o1 o2 : Option ρ} {x : Int32} {off : Int} (tgt : Nat) (d : decode cc pc = .ok (.ifCond .ge off, 3)) (ht : (pc : Int) + off = (tgt : Int)) (k1 : Go p l e R s m args below meth c w nL k n Qf o1 (pc + 3) L st M) (k2 : Go p l e R s m args below meth c w nL k n Qf o2 tgt L st M) : Go p l e R s m args below meth c w nL k n Qf (if x < 0 then o1 else o2) pc L (.int x :: st) M := by
  intro r hr H locs ls hP hS hl
  refine lv_if_ge g.1 g.2.1 d ht (fun h => ?_) (fun h => ?_)
  · rw [if_neg (Int32.not_lt.mpr h)] at hr; exact k2 r hr H locs ls hP hS hl
  · rw [if_pos (Int32.not_le.mp h)] at hr; exact k1 r hr H locs ls hP hS hl
theorem G_if_gt (g : Gd p s m args meth c w nL cc own) {pc : Nat} {L : List (Nat × Value)} {st : List Value} {M : Mem} {o1 o2 : Option ρ} {x : Int32} {off : Int} (tgt : Nat) (d : decode cc pc = .ok (.ifCond .gt off, 3)) (ht : (pc : Int) + off = (tgt : Int)) (k1 : Go p l e R s m args below meth c w nL k n Qf o1 (pc + 3) L st M) (k2 : Go p l e R s m args below meth c w nL k n Qf o2 tgt L st M) : Go p l e R s m args below meth c w nL k n Qf (if x ≤ 0 then o1 else o2) pc L (.int x :: st) M := by
  intro r hr H locs ls hP hS hl
  refine lv_if_gt g.1 g.2.1 d ht (fun h => ?_) (fun h => ?_)
  · rw [if_neg (Int32.not_le.mpr h)] at hr; exact k2 r hr H locs ls hP hS hl
  · rw [if_pos (Int32.not_lt.mp h)] at hr; exact k1 r hr H locs ls hP hS hl
theorem G_if_le (g : Gd p s m args meth c w nL cc own) {pc : Nat} {L : List (Nat × Value)} {st : List Value} {M : Mem} {o1 o2 : Option ρ} {x : Int32} {off : Int} (tgt : Nat) (d : decode cc pc = .ok (.ifCond .le off, 3)) (ht : (pc : Int) + off = (tgt : Int)) (k1 : Go p l e R s m args below meth c w nL k n Qf o1 (pc + 3) L st M) (k2 : Go p l e R s m args below meth c w nL k n Qf o2 tgt L st M) : Go p l e R s m args below meth c w nL k n Qf (if 0 < x then o1 else o2) pc L (.int x :: st) M := by
  intro r hr H locs ls hP hS hl
  refine lv_if_le g.1 g.2.1 d ht (fun h => ?_) (fun h => ?_)
  · rw [if_neg (Int32.not_lt.mpr h)] at hr; exact k2 r hr H locs ls hP hS hl
  · rw [if_pos (Int32.not_le.mp h)] at hr; exact k1 r hr H locs ls hP hS hl
theorem G_icmp_eq (g : Gd p s m args meth c w nL cc own) {pc : Nat} {L : List (Nat × Value)} {st : List Value} {M : Mem} {o1 o2 : Option ρ} {x y : Int32} {off : Int} (tgt : Nat) (d : decode cc pc = .ok (.if_icmp .eq off, 3)) (ht : (pc : Int) + off = (tgt : Int)) (k1 : Go p l e R s m args below meth c w nL k n Qf o1 tgt L st M) (k2 : Go p l e R s m args below meth c w nL k n Qf o2 (pc + 3) L st M) : Go p l e R s m args below meth c w nL k n Qf (if x = y then o1 else o2) pc L (.int y :: .int x :: st) M := by
  intro r hr H locs ls hP hS hl
  refine lv_icmp_eq g.1 g.2.1 d ht (fun h => ?_) (fun h => ?_)
  · rw [if_pos h] at hr; exact k1 r hr H locs ls hP hS hl
  · rw [if_neg h] at hr; exact k2 r hr H locs ls hP hS hl
theorem G_icmp_ne (g : Gd p s m args meth c w nL cc own) {pc : Nat} {L : List (Nat × Value)} {st : List Value} {M : Mem} {o1 o2 : Option ρ} {x y : Int32} {off : Int} (tgt : Nat) (d : decode cc pc = .ok (.if_icmp .ne off, 3)) (ht : (pc : Int) + off = (tgt : Int)) (k1 : Go p l e R s m args below meth c w nL k n Qf o1 (pc + 3) L st M) (k2 : Go p l e R s m args below meth c w nL k n Qf o2 tgt L st M) : Go p l e R s m args below meth c w nL k n Qf (if x = y then o1 else o2) pc L (.int y :: .int x :: st) M := by
  intro r hr H locs ls hP hS hl
  refine lv_icmp_ne g.1 g.2.1 d ht (fun h => ?_) (fun h => ?_)
  · rw [if_neg h] at hr; exact k2 r hr H locs ls hP hS hl
  · rw [if_pos h] at hr; exact k1 r hr H locs ls hP hS hl
theorem G_icmp_lt (g : Gd p s m args meth c w nL cc own) {pc : Nat} {L : List (Nat × Value)} {st : List Value} {M : Mem} {o1 o2 : Option ρ} {x y : Int32} {off : Int} (tgt : Nat) (d : decode cc pc = .ok (.if_icmp .lt off, 3)) (ht : (pc : Int) + off = (tgt : Int)) (k1 : Go p l e R s m args below meth c w nL k n Qf o1 tgt L st M) (k2 : Go p l e R s m args below meth c w nL k n Qf o2 (pc + 3) L st M) : Go p l e R s m args below meth c w nL k n Qf (if x < y then o1 else o2) pc L (.int y :: .int x :: st) M := by
  intro r hr H locs ls hP hS hl
  refine lv_icmp_lt g.1 g.2.1 d ht (fun h => ?_) (fun h => ?_)
  · rw [if_pos h] at hr; exact k1 r hr H locs ls hP hS hl
  · rw [if_neg h] at hr; exact k2 r hr H locs ls hP hS hl
theorem G_icmp_ge (g : Gd p s m args meth c w nL cc own) {pc : Nat} {L : List (Nat × Value)} {st : List Value} {M : Mem} {o1 o2 : Option ρ} {x y : Int32} {off : Int} (tgt : Nat) (d : decode cc pc = .ok (.if_icmp .ge off, 3)) (ht : (pc : Int) + off = (tgt : Int)) (k1 : Go p l e R s m args below meth c w nL k n Qf o1 (pc + 3) L st M) (k2 : Go p l e R s m args below meth c w nL k n Qf o2 tgt L st M) : Go p l e R s m args below meth c w nL k n Qf (if x < y then o1 else o2) pc L (.int y :: .int x :: st) M := by
  intro r hr H locs ls hP hS hl
  refine lv_icmp_ge g.1 g.2.1 d ht (fun h => ?_) (fun h => ?_)
  · rw [if_neg (Int32.not_lt.mpr h)] at hr; exact k2 r hr H locs ls hP hS hl
  · rw [if_pos (Int32.not_le.mp h)] at hr; exact k1 r hr H locs ls hP hS hl
theorem G_icmp_gt (g : Gd p s m args meth c w nL cc own) {pc : Nat} {L : List (Nat × Value)} {st : List Value} {M : Mem} {o1 o2 : Option ρ} {x y : Int32} {off : Int} (tgt : Nat) (d : decode cc pc = .ok (.if_icmp .gt off, 3)) (ht : (pc : Int) + off = (tgt : Int)) (k1 : Go p l e R s m args below meth c w nL k n Qf o1 (pc + 3) L st M) (k2 : Go p l e R s m args below meth c w nL k n Qf o2 tgt L st M) : Go p l e R s m args below meth c w nL k n Qf (if x ≤ y then o1 else o2) pc L (.int y :: .int x :: st) M := by
  intro r hr H locs ls hP hS hl
  refine lv_icmp_gt g.1 g.2.1 d ht (fun h => ?_) (fun h => ?_)
  · rw [if_neg (Int32.not_le.mpr h)] at hr; exact k2 r hr H locs ls hP hS hl
  · rw [if_pos (Int32.not_lt.mp h)] at hr; exact k1 r hr H locs ls hP hS hl
theorem G_icmp_le (g : Gd p s m args meth c w nL cc own) {pc : Nat} {L : List (Nat × Value)} {st : List Value} {M : Mem} {o1 o2 : Option ρ} {x y : Int32} {off : Int} (tgt : Nat) (d : decode cc pc = .ok (.if_icmp .le off, 3)) (ht : (pc : Int) + off = (tgt : Int)) (k1 : Go p l e R s m args below meth c w nL k n Qf o1 (pc + 3) L st M) (k2 : Go p l e R s m args below meth c w nL k n Qf o2 tgt L st M) : Go p l e R s m args below meth c w nL k n Qf (if y < x then o1 else o2) pc L (.int y :: .int x :: st) M := by
  intro r hr H locs ls hP hS hl
  refine lv_icmp_le g.1 g.2.1 d ht (fun h => ?_) (fun h => ?_)
  · rw [if_neg (Int32.not_lt.mpr h)] at hr; exact k2 r hr H locs ls hP hS hl
  · rw [if_pos (Int32.not_le.mp h)] at hr; exact k1 r hr H locs ls hP hS hl
theorem b2i_0 {b : Bool} : b2i b = 0 ↔ ¬ b = true := by cases b <;> decide
theorem G_if_eqB (g : Gd p s m args meth c w nL cc own) {pc : Nat} {L : List (Nat × Value)} {st : List Value} {M : Mem} {o1 o2 : Option ρ} {b : Bool} {off : Int} (tgt : Nat) (d : decode cc pc = .ok (.ifCond .eq off, 3)) (ht : (pc : Int) + off = (tgt : Int)) (k1 : Go p l e R s m args below meth c w nL k n Qf o1 (pc + 3) L st M) (k2 : Go p l e R s m args below meth c w nL k n Qf o2 tgt L st M) : Go p l e R s m args below meth c w nL k n Qf (if b = true then o1 else o2) pc L (.int (b2i b) :: st) M := by
  intro r hr H locs ls hP hS hl
  refine lv_if_eq g.1 g.2.1 d ht (fun h => ?_) (fun h => ?_)
  · rw [if_neg (b2i_0.mp h)] at hr; exact k2 r hr H locs ls hP hS hl
  · rw [if_pos (by by_cases hb : b = true; exact hb; exact absurd (b2i_0.mpr hb) h)] at hr; exact k1 r hr H locs ls hP hS hl
theorem G_if_neB (g : Gd p s m args meth c w nL cc own) {pc : Nat} {L : List (Nat × Value)} {st : List Value} {M : Mem} {o1 o2 : Option ρ} {b : Bool} {off : Int} (tgt : Nat) (d : decode cc pc = .ok (.ifCond .ne off, 3)) (ht : (pc : Int) + off = (tgt : Int)) (k1 : Go p l e R s m args below meth c w nL k n Qf o1 tgt L st M) (k2 : Go p l e R s m args below meth c w nL k n Qf o2 (pc + 3) L st M) : Go p l e R s m args below meth c w nL k n Qf (if b = true then o1 else o2) pc L (.int (b2i b) :: st) M := by
  intro r hr H locs ls hP hS hl
  refine lv_if_ne g.1 g.2.1 d ht (fun h => ?_) (fun h => ?_)
  · rw [if_pos (by by_cases hb : b = true; exact hb; exact absurd (b2i_0.mpr hb) h)] at hr; exact k1 r hr H locs ls hP hS hl
  · rw [if_neg (b2i_0.mp h)] at hr; exact k2 r hr H locs ls hP hS hl
theorem G_ifT_eq (g : Gd p s m args meth c w nL cc own) {pc : Nat} {L : List (Nat × Value)} {st : List Value} {M : Mem} {o : Option ρ} {x : Int32} {off : Int} (tgt : Nat) (hc : x = 0) (d : decode cc pc = .ok (.ifCond .eq off, 3)) (ht : (pc : Int) + off = (tgt : Int)) (kk : Go p l e R s m args below meth c w nL k n Qf o tgt L st M) : Go p l e R s m args below meth c w nL k n Qf o pc L (.int x :: st) M :=
  fun r hr H locs ls hP hS hl => lv_if_eq g.1 g.2.1 d ht (fun _ => kk r hr H locs ls hP hS hl) (fun h => absurd hc h)
theorem G_ifF_eq (g : Gd p s m args meth c w nL cc own) {pc : Nat} {L : List (Nat × Value)} {st : List Value} {M : Mem} {o : Option ρ} {x : Int32} {off : Int} (tgt : Nat) (hc : ¬ x = 0) (d : decode cc pc = .ok (.ifCond .eq off, 3)) (ht : (pc : Int) + off = (tgt : Int)) (kk : Go p l e R s m args below meth c w nL k n Qf o (pc + 3) L st M) : Go p l e R s m args below meth c w nL k n Qf o pc L (.int x :: st) M :=
  fun r hr H locs ls hP hS hl => lv_if_eq g.1 g.2.1 d ht (fun h => absurd h hc) (fun _ => kk r hr H locs ls hP hS hl)
theorem G_ifT_ne (g : Gd p s m args meth c w nL cc own) {pc : Nat} {L : List (Nat × Value)} {st : List Value} {M : Mem} {o : Option ρ} {x : Int32} {off : Int} (tgt : Nat) (hc : ¬ x = 0) (d : decode cc pc = .ok (.ifCond .ne off, 3)) (ht : (pc : Int) + off = (tgt : Int)) (kk : Go p l e R s m args below meth c w nL k n Qf o tgt L st M) : Go p l e R s m args below meth c w nL k n Qf o pc L (.int x :: st) M :=
  fun r hr H locs ls hP hS hl => lv_if_ne g.1 g.2.1 d ht (fun _ => kk r hr H locs ls hP hS hl) (fun h => absurd h hc)
theorem G_ifF_ne (g : Gd p s m args meth c w nL cc own) {pc : Nat} {L : List (Nat × Value)} {st : List Value} {M : Mem} {o : Option ρ} {x : Int32} {off : Int} (tgt : Nat) (hc : x = 0) (d : decode cc pc = .ok (.ifCond .ne off, 3)) (ht : (pc : Int) + off = (tgt : Int)) (kk : Go p l e R s m args below meth c w nL k n Qf o (pc + 3) L st M) : Go p l e R s m args below meth c w nL k n Qf o pc L (.int x :: st) M :=
  fun r hr H locs ls hP hS hl => lv_if_ne g.1 g.2.1 d ht (fun h => absurd hc h) (fun _ => kk r hr H locs ls hP hS hl)
theorem G_ifT_lt (g : Gd p s m args meth c w nL cc own) {pc : Nat} {L : List (Nat × Value)} {st : List Value} {M : Mem} {o : Option ρ} {x : Int32} {off : Int} (tgt : Nat) (hc : x < 0) (d : decode cc pc = .ok (.ifCond .lt off, 3)) (ht : (pc : Int) + off = (tgt : Int)) (kk : Go p l e R s m args below meth c w nL k n Qf o tgt L st M) : Go p l e R s m args below meth c w nL k n Qf o pc L (.int x :: st) M :=
  fun r hr H locs ls hP hS hl => lv_if_lt g.1 g.2.1 d ht (fun _ => kk r hr H locs ls hP hS hl) (fun h => absurd hc h)
theorem G_ifF_lt (g : Gd p s m args meth c w nL cc own) {pc : Nat} {L : List (Nat × Value)} {st : List Value} {M : Mem} {o : Option ρ} {x : Int32} {off : Int} (tgt : Nat) (hc : ¬ x < 0) (d : decode cc pc = .ok (.ifCond .lt off, 3)) (ht : (pc : Int) + off = (tgt : Int)) (kk : Go p l e R s m args below meth c w nL k n Qf o (pc + 3) L st M) : Go p l e R s m args below meth c w nL k n Qf o pc L (.int x :: st) M :=
  fun r hr H locs ls hP hS hl => lv_if_lt g.1 g.2.1 d ht (fun h => absurd h hc) (fun _ => kk r hr H locs ls hP hS hl)
theorem G_ifT_ge (g : Gd p s m args meth c w nL cc own) {pc : Nat} {L : List (Nat × Value)} {st : List Value} {M : Mem} {o : Option ρ} {x : Int32} {off : Int} (tgt : Nat) (hc : 0 ≤ x) (d : decode cc pc = .ok (.ifCond .ge off, 3)) (ht : (pc : Int) + off = (tgt : Int)) (kk : Go p l e R s m args below meth c w nL k n Qf o tgt L st M) : Go p l e R s m args below meth c w nL k n Qf o pc L (.int x :: st) M :=
  fun r hr H locs ls hP hS hl => lv_if_ge g.1 g.2.1 d ht (fun _ => kk r hr H locs ls hP hS hl) (fun h => absurd hc h)
theorem G_ifF_ge (g : Gd p s m args meth c w nL cc own) {pc : Nat} {L : List (Nat × Value)} {st : List Value} {M : Mem} {o : Option ρ} {x : Int32} {off : Int} (tgt : Nat) (hc : ¬ 0 ≤ x) (d : decode cc pc = .ok (.ifCond .ge off, 3)) (ht : (pc : Int) + off = (tgt : Int)) (kk : Go p l e R s m args below meth c w nL k n Qf o (pc + 3) L st M) : Go p l e R s m args below meth c w nL k n Qf o pc L (.int x :: st) M :=
  fun r hr H locs ls hP hS hl => lv_if_ge g.1 g.2.1 d ht (fun h => absurd h hc) (fun _ => kk r hr H locs ls hP hS hl)
theorem G_ifT_gt (g : Gd p s m args meth c w nL cc own) {pc : Nat} {L : List (Nat × Value)} {st : List Value} {M : Mem} {o : Option ρ} {x : Int32} {off : Int} (tgt : Nat) (hc : 0 < x) (d : decode cc pc = .ok (.ifCond .gt off, 3)) (ht : (pc : Int) + off = (tgt : Int)) (kk : Go p l e R s m args below meth c w nL k n Qf o tgt L st M) : Go p l e R s m args below meth c w nL k n Qf o pc L (.int x :: st) M :=
  fun r hr H locs ls hP hS hl => lv_if_gt g.1 g.2.1 d ht (fun _ => kk r hr H locs ls hP hS hl) (fun h => absurd hc h)
theorem G_ifF_gt (g : Gd p s m args meth c w nL cc own) {pc : Nat} {L : List (Nat × Value)} {st : List Value} {M : Mem} {o : Option ρ} {x : Int32} {off : Int} (tgt : Nat) (hc : ¬ 0 < x) (d : decode cc pc = .ok (.ifCond .gt off, 3)) (ht : (pc : Int) + off = (tgt : Int)) (kk : Go p l e R s m args below meth c w nL k n Qf o (pc + 3) L st M) : Go p l e R s m args below meth c w nL k n Qf o pc L (.int x :: st) M :=
  fun r hr H locs ls hP hS hl => lv_if_gt g.1 g.2.1 d ht (fun h => absurd h hc) (fun _ => kk r hr H locs ls hP hS hl)
theorem G_ifT_le (g : Gd p s m args meth c w nL cc own) {pc : Nat} {L : List (Nat × Value)} {st : List Value} {M : Mem} {o : Option ρ} {x : Int32} {off : Int} (tgt : Nat) (hc : x ≤ 0) (d : decode cc pc = .ok (.ifCond .le off, 3)) (ht : (pc : Int) + off = (tgt : Int)) (kk : Go p l e R s m args below meth c w nL k n Qf o tgt L st M) : Go p l e R s m args below meth c w nL k n Qf o pc L (.int x :: st) M :=
  fun r hr H locs ls hP hS hl => lv_if_le g.1 g.2.1 d ht (fun _ => kk r hr H locs ls hP hS hl) (fun h => absurd hc h)
theorem G_ifF_le (g : Gd p s m args meth c w nL cc own) {pc : Nat} {L : List (Nat × Value)} {st : List Value} {M : Mem} {o : Option ρ} {x : Int32} {off : Int} (tgt : Nat) (hc : ¬ x ≤ 0) (d : decode cc pc = .ok (.ifCond .le off, 3)) (ht : (pc : Int) + off = (tgt : Int)) (kk : Go p l e R s m args below meth c w nL k n Qf o (pc + 3) L st M) : Go p l e R s m args below meth c w nL k n Qf o pc L (.int x :: st) M :=
  fun r hr H locs ls hP hS hl => lv_if_le g.1 g.2.1 d ht (fun h => absurd h hc) (fun _ => kk r hr H locs ls hP hS hl)
theorem G_case {pc : Nat} {L : List (Nat × Value)} {st : List Value} {M : Mem} {o1 o2 : Option ρ} {x v : Int32} (k1 : Go p l e R s m args below meth c w nL k n Qf o1 pc L (.int v :: st) M) (k2 : ¬ x = v → Go p l e R s m args below meth c w nL k n Qf o2 pc L (.int x :: st) M) : Go p l e R s m args below meth c w nL k n Qf (if x = v then o1 else o2) pc L (.int x :: st) M := by
  intro r hr
  by_cases h : x = v
  · subst h
    rw [if_pos rfl] at hr
    exact k1 r hr
  · rw [if_neg h] at hr
    exact k2 h r hr
theorem G_tabK (g : Gd p s m args meth c w nL cc own) {pc : Nat} {L : List (Nat × Value)} {st : List Value} {M : Mem} {o : Option ρ} {dflt lo hi : Int} {offs : Array Int} {len : Nat} {x : Int32} {off : Int} (tgt : Nat) (d : decode cc pc = .ok (.tableswitch dflt lo hi offs, len)) (h1 : ¬ x.toInt < lo) (h2 : ¬ hi < x.toInt) (ho : offs[(x.toInt - lo).toNat]? = some off) (ht : (pc : Int) + off = (tgt : Int)) (kk : Go p l e R s m args below meth c w nL k n Qf o tgt L st M) : Go p l e R s m args below meth c w nL k n Qf o pc L (.int x :: st) M :=
  fun r hr H locs ls hP hS hl => lv_tableIn g.1 g.2.1 d h1 h2 ho ht (kk r hr H locs ls hP hS hl)
theorem G_tabD (g : Gd p s m args meth c w nL cc own) {pc : Nat} {L : List (Nat × Value)} {st : List Value} {M : Mem} {o : Option ρ} {dflt lo hi : Int} {offs : Array Int} {len : Nat} {x : Int32} (tgt : Nat) (d : decode cc pc = .ok (.tableswitch dflt lo hi offs, len)) (h : x.toInt < lo ∨ hi < x.toInt) (ht : (pc : Int) + dflt = (tgt : Int)) (kk : Go p l e R s m args below meth c w nL k n Qf o tgt L st M) : Go p l e R s m args below meth c w nL k n Qf o pc L (.int x :: st) M :=
  fun r hr H locs ls hP hS hl => lv_tableOut g.1 g.2.1 d h ht (kk r hr H locs ls hP hS hl)
theorem G_lkp (g : Gd p s m args meth c w nL cc own) {pc : Nat} {L : List (Nat × Value)} {st : List Value} {M : Mem} {o : Option ρ} {dflt : Int} {ps : Array (Int × Int)} {len : Nat} {x : Int32} {off : Int} (tgt : Nat) (d : decode cc pc = .ok (.lookupswitch dflt ps, len)) (hp : (ps.toList.zip (ps.toList.drop 1)).all (fun (a, next) => a.1 < next.1) = true) (ho : Op.lookupswitch.offset ps.toList dflt x.toInt = off) (ht : (pc : Int) + off = (tgt : Int)) (kk : Go p l e R s m args below meth c w nL k n Qf o tgt L st M) : Go p l e R s m args below meth c w nL k n Qf o pc L (.int x :: st) M :=
  fun r hr H locs ls hP hS hl => lv_lookup g.1 g.2.1 d hp ho ht (kk r hr H locs ls hP hS hl)
theorem G_ifnull (g : Gd p s m args meth c w nL cc own) {pc : Nat} {L : List (Nat × Value)} {st : List Value} {M : Mem} {o : Option ρ} {q : Nat} {off : Int} (d : decode cc pc = .ok (.ifnull off, 3)) (kk : Go p l e R s m args below meth c w nL k n Qf o (pc + 3) L st M) : Go p l e R s m args below meth c w nL k n Qf o pc L (.ref q :: st) M :=
  fun r hr H locs ls hP hS hl => lv_ifnull g.1 g.2.1 d (kk r hr H locs ls hP hS hl)
theorem G_ifnullN (g : Gd p s m args meth c w nL cc own) {pc : Nat} {L : List (Nat × Value)} {st : List Value} {M : Mem} {o : Option ρ} {off : Int} (tgt : Nat) (d : decode cc pc = .ok (.ifnull off, 3)) (ht : (pc : Int) + off = (tgt : Int)) (kk : Go p l e R s m args below meth c w nL k n Qf o tgt L st M) : Go p l e R s m args below meth c w nL k n Qf o pc L (.null :: st) M :=
  fun r hr H locs ls hP hS hl => lv_ifnullN g.1 g.2.1 d ht (kk r hr H locs ls hP hS hl)
theorem G_get (g : Gd p s m args meth c w nL cc own) {pc : Nat} {L : List (Nat × Value)} {st : List Value} {M : Mem} {o : Option ρ} {idx ci fk q : Nat} (fa : FA own idx ci fk 0) (hq : q ∈ wL w) (hk : (wZ w q).1 = ci) (d : decode cc pc = .ok (.getfield idx, 3)) (kk : Go p l e R s m args below meth c w nL k n Qf o (pc + 3) L (.int (M q fk) :: st) M) : Go p l e R s m args below meth c w nL k n Qf o pc L (.ref (wad w q) :: st) M := by
  intro r hr H locs ls hP hS hl
  obtain ⟨ref, C, T, N, f1, rfl, f3, f4, f5, f6, f7, f8⟩ := fa
  obtain ⟨j, -, hj⟩ := wW_get (M := M) hq
  rw [cellE_obj hk f6] at hj
  exact va_get g.1 g.2.1 g.2.2.2.2.1 f5 g.2.2.2.1 g.2.2.2.2.2.1 hP j hj f3 fk f4 (g.2.2.2.2.1 _ f1) (fun _ h9 => h9) (flds_int f7 f8) d (kk r hr H locs ls hP hS hl)
theorem G_getR (g : Gd p s m args meth c w nL cc own) {pc : Nat} {L : List (Nat × Value)} {st : List Value} {M : Mem} {o : Option ρ} {idx ci fk q q2 : Nat} (fa : FA own idx ci fk 1) (hq : q ∈ wL w) (hk : (wZ w q).1 = ci) (hz : (wZ w q).2.2 fk = some q2) (d : decode cc pc = .ok (.getfield idx, 3)) (kk : Go p l e R s m args below meth c w nL k n Qf o (pc + 3) L (.ref (wad w q2) :: st) M) : Go p l e R s m args below meth c w nL k n Qf o pc L (.ref (wad w q) :: st) M := by
  intro r hr H locs ls hP hS hl
  obtain ⟨ref, C, T, N, f1, rfl, f3, f4, f5, f6, f7, f8⟩ := fa
  obtain ⟨j, -, hj⟩ := wW_get (M := M) hq
  rw [cellE_obj hk f6] at hj
  exact va_get g.1 g.2.1 g.2.2.2.2.1 f5 g.2.2.2.1 g.2.2.2.2.2.1 hP j hj f3 fk f4 (g.2.2.2.2.1 _ f1) (fun _ h9 => h9) (flds_ref f7 f8 hz) d (kk r hr H locs ls hP hS hl)
theorem G_put (g : Gd p s m args meth c w nL cc own) {pc : Nat} {L : List (Nat × Value)} {st : List Value} {M : Mem} {o : Option ρ} {idx ci fk q : Nat} {v : Int32} {ty : FieldType} (fa : FA own idx ci fk 0) (fw : FW ci fk ty) (hn : narrow ty (.int v) = .int v) (hf : fits ty (.int v) = true) (hq : q ∈ wL w) (hk : (wZ w q).1 = ci) (d : decode cc pc = .ok (.putfield idx, 3)) (kk : Go p l e R s m args below meth c w nL k n Qf o (pc + 3) L st (put M q fk v)) : Go p l e R s m args below meth c w nL k n Qf o pc L (.int v :: .ref (wad w q) :: st) M := by
  intro r hr H locs ls hP hS hl
  obtain ⟨ref, C, T, N, f1, rfl, f3, f4, f5, f6, f7, f8⟩ := fa
  obtain ⟨C2, T2, N2, ty0, w1, w2, w3, w4, w5⟩ := fw
  cases Option.some.inj (w1.symm.trans f3)
  obtain ⟨j, hj0, hj⟩ := wW_get (M := M) hq
  rw [cellE_obj hk f6] at hj
  refine va_put g.1 g.2.1 g.2.2.2.2.1 f5 ty0 w2 w3 g.2.2.2.1 g.2.2.2.2.2.1 hP (wD_of g.2.2.2.2.2.2.2.2.1 M) hS j hj f3 fk f4 (g.2.2.2.2.1 _ f1) (fun _ h9 => h9) w4 w5 hn hf (by rw [flds_len]; exact f7) d (fun H1 locs1 hP1 _ hS1 => ?_)
  rw [wW_set g.2.2.2.2.2.2.2.2.1 hj0 (f := upd (M q) fk v) (by rw [cellE_obj hk f6, flds_put f7 f8, setR_self])] at hP1
  exact kk r hr H1 locs1 ls hP1 hS1 hl
theorem G_getN (g : Gd p s m args meth c w nL cc own) {pc : Nat} {L : List (Nat × Value)} {st : List Value} {M : Mem} {o : Option ρ} {idx ci fk q : Nat} (fa : FN own idx ci fk 0) (hq : q ∈ wL w) (hk : (wZ w q).1 = ci) (d : decode cc pc = .ok (.getfield idx, 3)) (kk : Go p l e R s m args below meth c w nL k n Qf o (pc + 3) L (.int (M q fk) :: st) M) : Go p l e R s m args below meth c w nL k n Qf o pc L (.ref (wad w q) :: st) M := by
  intro r hr H locs ls hP hS hl
  obtain ⟨ref, host, C, T, N, f1, rfl, f3, f4, f5, f6, f7, f8⟩ := fa
  obtain ⟨j, -, hj⟩ := wW_get (M := M) hq
  rw [cellE_obj hk f6] at hj
  exact va_getN g.1 g.2.1 g.2.2.2.2.1 f5 g.2.2.2.1 g.2.2.2.2.2.1 hP j hj f3 fk f4 (va_Nw.use rfl (g.2.2.2.2.2.2.2.1.2.2.1 _ f1)) (fun _ h9 => h9) (flds_int f7 f8) d (kk r hr H locs ls hP hS hl)
theorem G_getRN (g : Gd p s m args meth c w nL cc own) {pc : Nat} {L : List (Nat × Value)} {st : List Value} {M : Mem} {o : Option ρ} {idx ci fk q q2 : Nat} (fa : FN own idx ci fk 1) (hq : q ∈ wL w) (hk : (wZ w q).1 = ci) (hz : (wZ w q).2.2 fk = some q2) (d : decode cc pc = .ok (.getfield idx, 3)) (kk : Go p l e R s m args below meth c w nL k n Qf o (pc + 3) L (.ref (wad w q2) :: st) M) : Go p l e R s m args below meth c w nL k n Qf o pc L (.ref (wad w q) :: st) M := by
  intro r hr H locs ls hP hS hl
  obtain ⟨ref, host, C, T, N, f1, rfl, f3, f4, f5, f6, f7, f8⟩ := fa
  obtain ⟨j, -, hj⟩ := wW_get (M := M) hq
  rw [cellE_obj hk f6] at hj
  exact va_getN g.1 g.2.1 g.2.2.2.2.1 f5 g.2.2.2.1 g.2.2.2.2.2.1 hP j hj f3 fk f4 (va_Nw.use rfl (g.2.2.2.2.2.2.2.1.2.2.1 _ f1)) (fun _ h9 => h9) (flds_ref f7 f8 hz) d (kk r hr H locs ls hP hS hl)
theorem G_putN (g : Gd p s m args meth c w nL cc own) {pc : Nat} {L : List (Nat × Value)} {st : List Value} {M : Mem} {o : Option ρ} {idx ci fk q : Nat} {v : Int32} {ty : FieldType} (fa : FN own idx ci fk 0) (fw : FW ci fk ty) (hn : narrow ty (.int v) = .int v) (hf : fits ty (.int v) = true) (hq : q ∈ wL w) (hk : (wZ w q).1 = ci) (d : decode cc pc = .ok (.putfield idx, 3)) (kk : Go p l e R s m args below meth c w nL k n Qf o (pc + 3) L st (put M q fk v)) : Go p l e R s m args below meth c w nL k n Qf o pc L (.int v :: .ref (wad w q) :: st) M := by
  intro r hr H locs ls hP hS hl
  obtain ⟨ref, host, C, T, N, f1, rfl, f3, f4, f5, f6, f7, f8⟩ := fa
  obtain ⟨C2, T2, N2, ty0, w1, w2, w3, w4, w5⟩ := fw
  cases Option.some.inj (w1.symm.trans f3)
  obtain ⟨j, hj0, hj⟩ := wW_get (M := M) hq
  rw [cellE_obj hk f6] at hj
  refine va_putN g.1 g.2.1 g.2.2.2.2.1 f5 ty0 w2 w3 g.2.2.2.1 g.2.2.2.2.2.1 hP (wD_of g.2.2.2.2.2.2.2.2.1 M) hS j hj f3 fk f4 (va_Nw.use rfl (g.2.2.2.2.2.2.2.1.2.2.1 _ f1)) (fun _ h9 => h9) w4 w5 hn hf (by rw [flds_len]; exact f7) d (fun H1 locs1 hP1 _ hS1 => ?_)
  rw [wW_set g.2.2.2.2.2.2.2.2.1 hj0 (f := upd (M q) fk v) (by rw [cellE_obj hk f6, flds_put f7 f8, setR_self])] at hP1
  exact kk r hr H1 locs1 ls hP1 hS1 hl
theorem G_iald (g : Gd p s m args meth c w nL cc own) {pc : Nat} {L : List (Nat × Value)} {st : List Value} {M : Mem} {o : Option ρ} {q nn : Nat} {i : Int32} (hq : q ∈ wL w) (hk : (wZ w q).1 = 20) (hn : (wZ w q).2.1 = nn) (d : decode cc pc = .ok (.iaload, 1)) (kk : Go p l e R s m args below meth c w nL k n Qf o (pc + 1) L (.int (M q i.toNatClampNeg) :: st) M) : Go p l e R s m args below meth c w nL k n Qf (grd (inB i nn) o) pc L (.int i :: .ref (wad w q) :: st) M := by
  intro r hr H locs ls hP hS hl
  obtain ⟨h, hr⟩ := grd_some hr
  have h := inB_of h
  · skip
    obtain ⟨j, -, hj⟩ := wW_get (M := M) hq
    rw [cellE_arr hk, hn] at hj
    exact va_iald g.1 g.2.1 g.2.2.2.2.2.1 hP j 0 hj rfl h d (kk r hr H locs ls hP hS hl)
theorem G_bald (g : Gd p s m args meth c w nL cc own) {pc : Nat} {L : List (Nat × Value)} {st : List Value} {M : Mem} {o : Option ρ} {q nn : Nat} {i : Int32} (hq : q ∈ wL w) (hk : (wZ w q).1 = 21) (hn : (wZ w q).2.1 = nn) (d : decode cc pc = .ok (.baload, 1)) (kk : Go p l e R s m args below meth c w nL k n Qf o (pc + 1) L (.int (M q i.toNatClampNeg) :: st) M) : Go p l e R s m args below meth c w nL k n Qf (grd (inB i nn) o) pc L (.int i :: .ref (wad w q) :: st) M := by
  intro r hr H locs ls hP hS hl
  obtain ⟨h, hr⟩ := grd_some hr
  have h := inB_of h
  · skip
    obtain ⟨j, -, hj⟩ := wW_get (M := M) hq
    rw [cellE_byt hk, hn] at hj
    exact va_bald g.1 g.2.1 g.2.2.2.2.2.1 hP j 1 hj rfl h d (kk r hr H locs ls hP hS hl)
theorem G_iast (g : Gd p s m args meth c w nL cc own) {pc : Nat} {L : List (Nat × Value)} {st : List Value} {M : Mem} {o : Option ρ} {q nn : Nat} {i x : Int32} (hq : q ∈ wL w) (hk : (wZ w q).1 = 20) (hn : (wZ w q).2.1 = nn) (d : decode cc pc = .ok (.iastore, 1)) (kk : Go p l e R s m args below meth c w nL k n Qf o (pc + 1) L st (put M q i.toNatClampNeg x)) : Go p l e R s m args below meth c w nL k n Qf (grd (inB i nn) o) pc L (.int x :: .int i :: .ref (wad w q) :: st) M := by
  intro r hr H locs ls hP hS hl
  obtain ⟨h, hr⟩ := grd_some hr
  have h := inB_of h
  · skip
    obtain ⟨j, hj0, hj⟩ := wW_get (M := M) hq
    rw [cellE_arr hk, hn] at hj
    refine va_iast g.1 g.2.1 g.2.2.2.2.2.1 hP (wD_of g.2.2.2.2.2.2.2.2.1 M) hS j 0 hj rfl h d (fun H1 locs1 hP1 _ hS1 => ?_)
    rw [wW_set g.2.2.2.2.2.2.2.2.1 hj0 (f := upd (M q) i.toNatClampNeg x) (by rw [cellE_arr hk, setR_self, hn])] at hP1
    exact kk r hr H1 locs1 ls hP1 hS1 hl
theorem G_bast (g : Gd p s m args meth c w nL cc own) {pc : Nat} {L : List (Nat × Value)} {st : List Value} {M : Mem} {o : Option ρ} {q nn : Nat} {i x : Int32} (hq : q ∈ wL w) (hk : (wZ w q).1 = 21) (hn : (wZ w q).2.1 = nn) (d : decode cc pc = .ok (.bastore, 1)) (kk : Go p l e R s m args below meth c w nL k n Qf o (pc + 1) L st (put M q i.toNatClampNeg (vp_nar .byte x))) : Go p l e R s m args below meth c w nL k n Qf (grd (inB i nn) o) pc L (.int x :: .int i :: .ref (wad w q) :: st) M := by
  intro r hr H locs ls hP hS hl
  obtain ⟨h, hr⟩ := grd_some hr
  have h := inB_of h
  · skip
    obtain ⟨j, hj0, hj⟩ := wW_get (M := M) hq
    rw [cellE_byt hk, hn] at hj
    refine va_bast g.1 g.2.1 g.2.2.2.2.2.1 hP (wD_of g.2.2.2.2.2.2.2.2.1 M) hS j 1 hj rfl h d (fun H1 locs1 hP1 _ hS1 => ?_)
    rw [wW_set g.2.2.2.2.2.2.2.2.1 hj0 (f := upd (M q) i.toNatClampNeg (vp_nar .byte x)) (by rw [cellE_byt hk, setR_self, hn])] at hP1
    exact kk r hr H1 locs1 ls hP1 hS1 hl
theorem G_ialdK (g : Gd p s m args meth c w nL cc own) {pc : Nat} {L : List (Nat × Value)} {st : List Value} {M : Mem} {o : Option ρ} {q nn : Nat} {i : Int32} (j : Nat) (hi : inB i nn = true) (hij : i.toNatClampNeg = j) (hq : q ∈ wL w) (hk : (wZ w q).1 = 20) (hn : (wZ w q).2.1 = nn) (d : decode cc pc = .ok (.iaload, 1)) (kk : Go p l e R s m args below meth c w nL k n Qf o (pc + 1) L (.int (M q j) :: st) M) : Go p l e R s m args below meth c w nL k n Qf o pc L (.int i :: .ref (wad w q) :: st) M := by
  subst hij
  have h := G_iald g (o := o) hq hk hn d kk
  rw [grd_t hi] at h
  exact h
theorem G_iastK (g : Gd p s m args meth c w nL cc own) {pc : Nat} {L : List (Nat × Value)} {st : List Value} {M : Mem} {o : Option ρ} {q nn : Nat} {i x : Int32} (j : Nat) (hi : inB i nn = true) (hij : i.toNatClampNeg = j) (hq : q ∈ wL w) (hk : (wZ w q).1 = 20) (hn : (wZ w q).2.1 = nn) (d : decode cc pc = .ok (.iastore, 1)) (kk : Go p l e R s m args below meth c w nL k n Qf o (pc + 1) L st (put M q j x)) : Go p l e R s m args below meth c w nL k n Qf o pc L (.int x :: .int i :: .ref (wad w q) :: st) M := by
  subst hij
  have h := G_iast g (o := o) hq hk hn d kk
  rw [grd_t hi] at h
  exact h
theorem G_nmM {pc : Nat} {L : List (Nat × Value)} {st : List Value} {M : Mem} {o : Mem → Option ρ} (kk : ∀ M1 : Mem, Go p l e R s m args below meth c w nL k n Qf (o M1) pc L st M1) : Go p l e R s m args below meth c w nL k n Qf (nm M o) pc L st M := kk M
theorem G_nmX {pc : Nat} {L : List (Nat × Value)} {st : List Value} {M : Mem} (t : Int32) {o : Int32 → Option ρ} (kk : ∀ y : Int32, y = t → Go p l e R s m args below meth c w nL k n Qf (o y) pc L st M) : Go p l e R s m args below meth c w nL k n Qf (nm t o) pc L st M := kk t rfl
theorem G_nmI {pc : Nat} {L : List (Nat × Value)} {st : List Value} {M : Mem} {x : Int32} {o : Int32 → Option ρ} (kk : ∀ y : Int32, Go p l e R s m args below meth c w nL k n Qf (o y) pc L (.int y :: st) M) : Go p l e R s m args below meth c w nL k n Qf (nm x o) pc L (.int x :: st) M := kk x
theorem G_sub {pc : Nat} {L : List (Nat × Value)} {st : List Value} {M : Mem} {o : Option ρ} (ks : List Nat) (L2 : List (Nat × Value)) (hL : lv_pick L ks = L2) (kk : Go p l e R s m args below meth c w nL k n Qf o pc L2 st M) : Go p l e R s m args below meth c w nL k n Qf o pc L st M := fun r hr H locs ls hP hS hl => kk r hr H locs ls hP hS (lv_sub hl ks hL)
theorem G_none {pc : Nat} {L : List (Nat × Value)} {st : List Value} {M : Mem} : Go p l e R s m args below meth c w nL k n Qf none pc L st M := fun r hr => nomatch hr
theorem G_jn {pc : Nat} {L : List (Nat × Value)} {st : List Value} {M : Mem} {A : Type} {f : A → Mem → Option ρ} {h : (A → Mem → Option ρ) → Option ρ} (pj : Nat) (Lj : A → List (Nat × Value)) (sj : A → List Value) (k1 : ∀ a M1, Go p l e R s m args below meth c w nL k n Qf (f a M1) pj (Lj a) (sj a) M1) (k2 : ∀ j : A → Mem → Option ρ, (∀ a M1, Go p l e R s m args below meth c w nL k n Qf (j a M1) pj (Lj a) (sj a) M1) → Go p l e R s m args below meth c w nL k n Qf (h j) pc L st M) : Go p l e R s m args below meth c w nL k n Qf (jn f h) pc L st M := k2 f k1
theorem G_loop {A : Type} {F : Nat → A → Mem → (A → Mem → Option ρ) → Option ρ} {K : A → Mem → Option ρ} (h x : Nat) (Lh Lx : A → List (Nat × Value)) (h0 : ∀ a M K, F 0 a M K = none) (hk : ∀ a M, Go p l e R s m args below meth c w nL k n Qf (K a M) x (Lx a) [] M) (hs : ∀ K : A → Mem → Option ρ, (∀ a M, Go p l e R s m args below meth c w nL k n Qf (K a M) x (Lx a) [] M) → ∀ N, (∀ a M, Go p l e R s m args below meth c w nL k n Qf (F N a M K) h (Lh a) [] M) → ∀ a M, Go p l e R s m args below meth c w nL k n Qf (F (N + 1) a M K) h (Lh a) [] M) (N : Nat) (a : A) (M : Mem) : Go p l e R s m args below meth c w nL k n Qf (F N a M K) h (Lh a) [] M := by
  have key : ∀ N, ∀ a M, Go p l e R s m args below meth c w nL k n Qf (F N a M K) h (Lh a) [] M := by
    intro N
    induction N with
    | zero => intro a M; rw [h0]; exact fun r hr => nomatch hr
    | succ N ih => exact hs K hk N ih
  exact key N a M
theorem G_ocase {pc : Nat} {L : List (Nat × Value)} {st : List Value} {M : Mem} {x : Option Nat} {o1 : Option ρ} {o2 : Nat → Option ρ} (k1 : Go p l e R s m args below meth c w nL k n Qf o1 pc L (.null :: st) M) (k2 : ∀ q, q ∈ stL → Go p l e R s m args below meth c w nL k n Qf (o2 q) pc L (.ref (wad w q) :: st) M) : Go p l e R s m args below meth c w nL k n Qf (ocase x o1 o2) pc L (va_rf (x.map (wad w)) :: st) M := by
  intro r hr
  cases x with
  | none => exact k1 r hr
  | some q =>
    obtain ⟨h, hr⟩ := grd_some hr
    exact k2 q (List.contains_iff_mem.mp h) r hr
theorem G_scase {pc : Nat} {L : List (Nat × Value)} {st : List Value} {M : Mem} {x : Option Nat} {o : Nat → Option ρ} (kk : ∀ i, i < 20 → Go p l e R s m args below meth c w nL k n Qf (o i) pc L (.ref (wad w (1000 + i)) :: st) M) : Go p l e R s m args below meth c w nL k n Qf (scase x o) pc L (va_rf (x.map (wad w)) :: st) M := by
  intro r hr
  cases x with
  | none => cases hr
  | some q =>
    obtain ⟨h, hr⟩ := grd_some hr
    simp only [Bool.and_eq_true, decide_eq_true_eq] at h
    have e : q = 1000 + (q - 1000) := by omega
    have h2 := kk (q - 1000) (by omega) r hr
    rw [← e] at h2
    exact h2
theorem G_alen (g : Gd p s m args meth c w nL cc own) {pc : Nat} {L : List (Nat × Value)} {st : List Value} {M : Mem} {o : Option ρ} {q : Nat} (v : Int32) (hq : q ∈ wL w) (hk : (wZ w q).1 = 20) (hn : Int32.ofNat (wZ w q).2.1 = v) (d : decode cc pc = .ok (.arraylength, 1)) (kk : Go p l e R s m args below meth c w nL k n Qf o (pc + 1) L (.int v :: st) M) : Go p l e R s m args below meth c w nL k n Qf o pc L (.ref (wad w q) :: st) M := by
  intro r hr H locs ls hP hS hl
  obtain ⟨j, -, hj⟩ := wW_get (M := M) hq
  rw [cellE_arr hk] at hj
  exact va_alen g.1 g.2.1 g.2.2.2.2.2.1 hP j 0 hj rfl hn d (kk r hr H locs ls hP hS hl)
theorem G_alenB (g : Gd p s m args meth c w nL cc own) {pc : Nat} {L : List (Nat × Value)} {st : List Value} {M : Mem} {o : Option ρ} {q : Nat} (v : Int32) (hq : q ∈ wL w) (hk : (wZ w q).1 = 21) (hn : Int32.ofNat (wZ w q).2.1 = v) (d : decode cc pc = .ok (.arraylength, 1)) (kk : Go p l e R s m args below meth c w nL k n Qf o (pc + 1) L (.int v :: st) M) : Go p l e R s m args below meth c w nL k n Qf o pc L (.ref (wad w q) :: st) M := by
  intro r hr H locs ls hP hS hl
  obtain ⟨j, -, hj⟩ := wW_get (M := M) hq
  rw [cellE_byt hk] at hj
  exact va_alen g.1 g.2.1 g.2.2.2.2.2.1 hP j 1 hj rfl hn d (kk r hr H locs ls hP hS hl)
theorem G_alenS (g : Gd p s m args meth c w nL cc own) {pc : Nat} {L : List (Nat × Value)} {st : List Value} {M : Mem} {o : Option ρ} {q : Nat} (v : Int32) (hq : q ∈ wL w) (hk : (wZ w q).1 = 24) (hn : Int32.ofNat (wZ w q).2.1 = v) (d : decode cc pc = .ok (.arraylength, 1)) (kk : Go p l e R s m args below meth c w nL k n Qf o (pc + 1) L (.int v :: st) M) : Go p l e R s m args below meth c w nL k n Qf o pc L (.ref (wad w q) :: st) M := by
  intro r hr H locs ls hP hS hl
  obtain ⟨j, -, hj⟩ := wW_get (M := M) hq
  rw [cellE_sta hk] at hj
  exact va_alen g.1 g.2.1 g.2.2.2.2.2.1 hP j 4 hj rfl hn d (kk r hr H locs ls hP hS hl)
theorem G_alenT (g : Gd p s m args meth c w nL cc own) {pc : Nat} {L : List (Nat × Value)} {st : List Value} {M : Mem} {o : Option ρ} {q : Nat} (v : Int32) (hq : q ∈ wL w) (hk : (wZ w q).1 = 25) (hn : Int32.ofNat (wZ w q).2.1 = v) (d : decode cc pc = .ok (.arraylength, 1)) (kk : Go p l e R s m args below meth c w nL k n Qf o (pc + 1) L (.int v :: st) M) : Go p l e R s m args below meth c w nL k n Qf o pc L (.ref (wad w q) :: st) M := by
  intro r hr H locs ls hP hS hl
  obtain ⟨j, -, hj⟩ := wW_get (M := M) hq
  rw [cellE_str hk] at hj
  exact va_alen g.1 g.2.1 g.2.2.2.2.2.1 hP j 5 hj rfl hn d (kk r hr H locs ls hP hS hl)
theorem G_ireturn (g : Gd p s m args meth c w nL cc own) {L : List (Nat × Value)} {M : Mem} {pc mc ms : Nat} {x : Int32} (hr0 : meth.sig.returnType = some .int) (h1 : k ≤ mc) (h2 : n ≤ ms) (d : decode cc pc = .ok (.ireturn, 1)) : Go p l e R s m args below meth c w nL k n (fun r => MQ below (QI w r) args s mc ms (wA w)) (some (x, M)) pc L [.int x] M := by
  intro r hr H locs ls hP hS hl
  cases hr
  refine W.widen h1 h2 ?_
  exact W.iret (hlocks := g.2.2.2.2.2.2.1) g.1 g.2.1 hr0 (fun t ht hW => ⟨⟨x, (), rfl, rfl, Rp.at ht hP⟩, hS.F ht⟩) hS.2.2 d
theorem G_zreturn (g : Gd p s m args meth c w nL cc own) {L : List (Nat × Value)} {M : Mem} {pc mc ms : Nat} {x : Int32} (b : Bool) (hx : x = b2i b) (hr0 : meth.sig.returnType = some .boolean) (h1 : k ≤ mc) (h2 : n ≤ ms) (d : decode cc pc = .ok (.ireturn, 1)) : Go p l e R s m args below meth c w nL k n (fun r => MQ below (QZ w r) args s mc ms (wA w)) (some (b, M)) pc L [.int x] M := by
  intro r hr H locs ls hP hS hl
  cases hr
  subst hx
  refine W.widen h1 h2 ?_
  exact W.zret (hlocks := g.2.2.2.2.2.2.1) g.1 g.2.1 hr0 (b2i_nar b) (fun t ht hW => ⟨⟨b2i b, (), rfl, rfl, Rp.at ht hP⟩, hS.F ht⟩) hS.2.2 d
theorem G_nreturn (g : Gd p s m args meth c w nL cc own) {L : List (Nat × Value)} {M : Mem} {pc mc ms : Nat} {x : Int32} {rt : FieldType} (hr0 : meth.sig.returnType = some rt) (hn : narrow rt (.int x) = .int x) (h1 : k ≤ mc) (h2 : n ≤ ms) (d : decode cc pc = .ok (.ireturn, 1)) : Go p l e R s m args below meth c w nL k n (fun r => MQ below (QI w r) args s mc ms (wA w)) (some (x, M)) pc L [.int x] M := by
  intro r hr H locs ls hP hS hl
  cases hr
  refine W.widen h1 h2 ?_
  exact W.zret (hlocks := g.2.2.2.2.2.2.1) g.1 g.2.1 hr0 hn (fun t ht hW => ⟨⟨x, (), rfl, rfl, Rp.at ht hP⟩, hS.F ht⟩) hS.2.2 d
theorem G_return (g : Gd p s m args meth c w nL cc own) {L : List (Nat × Value)} {M : Mem} {pc mc ms : Nat} (hr0 : meth.sig.returnType = none) (h1 : k ≤ mc) (h2 : n ≤ ms) (d : decode cc pc = .ok (.return_, 1)) : Go p l e R s m args below meth c w nL k n (fun r => MQ below (QV w r) args s mc ms (wA w)) (some M) pc L [] M := by
  intro r hr H locs ls hP hS hl
  cases hr
  refine W.widen h1 h2 ?_
  exact W.vret (hlocks := g.2.2.2.2.2.2.1) g.1 g.2.1 hr0 (fun t ht hW => ⟨⟨(), rfl, trivial, Rp.at ht hP⟩, hS.F ht⟩) hS.2.2 d
theorem G_areturn (g : Gd p s m args meth c w nL cc own) {L : List (Nat × Value)} {M : Mem} {pc mc ms : Nat} {v : Value} {rt : FieldType} (q : Option Nat) (hv : v = va_rf (q.map (wad w))) (hr0 : meth.sig.returnType = some rt) (hrt : (∃ n, rt = .object n) ∨ ∃ t, rt = .array t) (h1 : k ≤ mc) (h2 : n ≤ ms) (d : decode cc pc = .ok (.areturn, 1)) : Go p l e R s m args below meth c w nL k n (fun r => MQ below (QR w r) args s mc ms (wA w)) (some (q, M)) pc L [v] M := by
  intro r hr H locs ls hP hS hl
  cases hr
  subst hv
  refine W.widen h1 h2 ?_
  exact W.aret (hlocks := g.2.2.2.2.2.2.1) g.1 g.2.1 hr0 hrt (by cases q with | none => exact Or.inl rfl | some a => exact Or.inr ⟨wad w a, rfl⟩) (fun t ht hW => ⟨⟨q.map (wad w), (), rfl, rfl, Rp.at ht hP⟩, hS.F ht⟩) hS.2.2 d
theorem G_dreturn (g : Gd p s m args meth c w nL cc own) {L : List (Nat × Value)} {M : Mem} {pc mc ms : Nat} {x : UInt64} (hr0 : meth.sig.returnType = some .double) (h1 : k ≤ mc) (h2 : n ≤ ms) (d : decode cc pc = .ok (.dreturn, 1)) : Go p l e R s m args below meth c w nL k n (fun r => MQ below (QD w r) args s mc ms (wA w)) (some (x, M)) pc L [.double x] M := by
  intro r hr H locs ls hP hS hl
  cases hr
  refine W.widen h1 h2 ?_
  exact W.dret (hlocks := g.2.2.2.2.2.2.1) g.1 g.2.1 hr0 (fun t ht hW => ⟨⟨x, (), rfl, rfl, Rp.at ht hP⟩, hS.F ht⟩) hS.2.2 d
theorem G_freturn (g : Gd p s m args meth c w nL cc own) {L : List (Nat × Value)} {M : Mem} {pc mc ms : Nat} {x : UInt32} (hr0 : meth.sig.returnType = some .float) (h1 : k ≤ mc) (h2 : n ≤ ms) (d : decode cc pc = .ok (.freturn, 1)) : Go p l e R s m args below meth c w nL k n (fun r => MQ below (QF w r) args s mc ms (wA w)) (some (x, M)) pc L [.float x] M := by
  intro r hr H locs ls hP hS hl
  cases hr
  refine W.widen h1 h2 ?_
  exact W.fret (hlocks := g.2.2.2.2.2.2.1) g.1 g.2.1 hr0 (fun t ht hW => ⟨⟨x, (), rfl, rfl, Rp.at ht hP⟩, hS.F ht⟩) hS.2.2 d
theorem G_ldcS (g : Gd p s m args meth c w nL cc own) {pc : Nat} {L : List (Nat × Value)} {st : List Value} {M : Mem} {o : Option ρ} {idx : Nat} (i : Nat) (hs : (own, idx, i) ∈ strS) (d : decode cc pc = .ok (.ldc idx, 2)) (kk : Go p l e R s m args below meth c w nL k n Qf o (pc + 2) L (.ref (wad w (1000 + i)) :: st) M) : Go p l e R s m args below meth c w nL k n Qf o pc L st M :=
  fun r hr H locs ls hP hS hl => va_ldcS g.1 g.2.1 g.2.2.2.1 (g.2.2.2.2.2.2.2.1.2.1 _ hs) d (kk r hr H locs ls hP hS hl)
theorem G_ldcI (g : Gd p s m args meth c w nL cc own) {pc : Nat} {L : List (Nat × Value)} {st : List Value} {M : Mem} {o : Option ρ} {idx : Nat} {v : Int32} (hs : Cond.constant own idx v ∈ TT) (d : decode cc pc = .ok (.ldc idx, 2)) (kk : Go p l e R s m args below meth c w nL k n Qf o (pc + 2) L (.int v :: st) M) : Go p l e R s m args below meth c w nL k n Qf o pc L st M :=
  fun r hr H locs ls hP hS hl => lv_ldc g.1 g.2.1 g.2.2.2.1 (g.2.2.2.2.1 _ hs) d (kk r hr H locs ls hP hS hl)
theorem G_mmax (g : Gd p s m args meth c w nL cc own) {pc : Nat} {L : List (Nat × Value)} {st : List Value} {M : Mem} {o : Option ρ} {idx : Nat} {x y : Int32} (hm : Cond.methodLink own idx Lib.Math.max.name ∈ TT ∧ Cond.static Lib.Math.max.name ∈ TT ∧ Cond.initialized "java/lang/Math" ∈ TT ∧ Cond.code Lib.Math.max.name Lib.Math.max.code 2 (some .int) ∈ TT) (hR : 1 ≤ R.frames ∧ (st.map fun v => v.category).sum + 13 ≤ R.locals ∧ k ≤ R.cells ∧ n ≤ R.slots) (d : decode cc pc = .ok (.invokestatic idx, 3)) (kk : Go p l e R s m args below meth c w nL k n Qf o (pc + 3) L (.int (imax x y) :: st) M) : Go p l e R s m args below meth c w nL k n Qf o pc L (.int y :: .int x :: st) M :=
  fun r hr H locs ls hP hS hl => va_mmax g.1 g.2.1 (g.2.2.1.trans hl.1.symm) g.2.2.2.1 (g.2.2.2.2.1 _ hm.1) (g.2.2.2.2.1 _ hm.2.1) (g.2.2.2.2.1 _ hm.2.2.1) (g.2.2.2.2.1 _ hm.2.2.2) hR.1 hR.2.1 hR.2.2.1 hR.2.2.2 d (kk r hr H locs ls hP hS hl)
theorem G_mmin (g : Gd p s m args meth c w nL cc own) {pc : Nat} {L : List (Nat × Value)} {st : List Value} {M : Mem} {o : Option ρ} {idx : Nat} {x y : Int32} (hm : Cond.methodLink own idx Lib.Math.min.name ∈ TT ∧ Cond.static Lib.Math.min.name ∈ TT ∧ Cond.initialized "java/lang/Math" ∈ TT ∧ Cond.code Lib.Math.min.name Lib.Math.min.code 2 (some .int) ∈ TT) (hR : 1 ≤ R.frames ∧ (st.map fun v => v.category).sum + 13 ≤ R.locals ∧ k ≤ R.cells ∧ n ≤ R.slots) (d : decode cc pc = .ok (.invokestatic idx, 3)) (kk : Go p l e R s m args below meth c w nL k n Qf o (pc + 3) L (.int (imin x y) :: st) M) : Go p l e R s m args below meth c w nL k n Qf o pc L (.int y :: .int x :: st) M :=
  fun r hr H locs ls hP hS hl => va_mmin g.1 g.2.1 (g.2.2.1.trans hl.1.symm) g.2.2.2.1 (g.2.2.2.2.1 _ hm.1) (g.2.2.2.2.1 _ hm.2.1) (g.2.2.2.2.1 _ hm.2.2.1) (g.2.2.2.2.1 _ hm.2.2.2) hR.1 hR.2.1 hR.2.2.1 hR.2.2.2 d (kk r hr H locs ls hP hS hl)
theorem G_mabs (g : Gd p s m args meth c w nL cc own) {pc : Nat} {L : List (Nat × Value)} {st : List Value} {M : Mem} {o : Option ρ} {idx : Nat} {x : Int32} (hm : Cond.methodLink own idx Lib.Math.abs.name ∈ TT ∧ Cond.static Lib.Math.abs.name ∈ TT ∧ Cond.initialized "java/lang/Math" ∈ TT ∧ Cond.code Lib.Math.abs.name Lib.Math.abs.code 1 (some .int) ∈ TT) (hR : 1 ≤ R.frames ∧ (st.map fun v => v.category).sum + 13 ≤ R.locals ∧ k ≤ R.cells ∧ n ≤ R.slots) (d : decode cc pc = .ok (.invokestatic idx, 3)) (kk : Go p l e R s m args below meth c w nL k n Qf o (pc + 3) L (.int (iabs x) :: st) M) : Go p l e R s m args below meth c w nL k n Qf o pc L (.int x :: st) M :=
  fun r hr H locs ls hP hS hl => va_mabs g.1 g.2.1 (g.2.2.1.trans hl.1.symm) g.2.2.2.1 (g.2.2.2.2.1 _ hm.1) (g.2.2.2.2.1 _ hm.2.1) (g.2.2.2.2.1 _ hm.2.2.1) (g.2.2.2.2.1 _ hm.2.2.2) hR.1 hR.2.1 hR.2.2.1 hR.2.2.2 d (kk r hr H locs ls hP hS hl)
theorem G_copy (g : Gd p s m args meth c w nL cc own) {pc : Nat} {L : List (Nat × Value)} {st : List Value} {M : Mem} {o : Option ρ} {idx q0 q1 n0 n1 : Nat} {sp dp z : Int32} (hm : Cond.methodLink own idx arraycopyName ∈ TT ∧ Cond.native arraycopyName ∈ TT ∧ Cond.static arraycopyName ∈ TT ∧ Cond.initialized "java/lang/System" ∈ TT) (hR : 1 ≤ R.frames ∧ (st.map fun v => v.category).sum + (nativeFrameWords "java/lang/System" "arraycopy" 5 + 11) ≤ R.locals) (hq0 : q0 ∈ wL w) (hk0 : (wZ w q0).1 = 20) (hn0 : (wZ w q0).2.1 = n0) (hq1 : q1 ∈ wL w) (hk1 : (wZ w q1).1 = 20) (hn1 : (wZ w q1).2.1 = n1) (d : decode cc pc = .ok (.invokestatic idx, 3)) (kk : Go p l e R s m args below meth c w nL k n Qf o (pc + 3) L st (setR M q1 (va_cpy (M q0) (M q1) sp.toNatClampNeg dp.toNatClampNeg z.toNatClampNeg))) : Go p l e R s m args below meth c w nL k n Qf (grd (cpB sp dp z n0 n1) o) pc L (.int z :: .int dp :: .ref (wad w q1) :: .int sp :: .ref (wad w q0) :: st) M := by
  intro r hr H locs ls hP hS hl
  obtain ⟨h, hr⟩ := grd_some hr
  have h := cpB_of h
  · skip
    obtain ⟨h1, h2, h3, h4, h5⟩ := h
    obtain ⟨j0, -, hj0⟩ := wW_get (M := M) hq0
    obtain ⟨j1, hx1, hj1⟩ := wW_get (M := M) hq1
    rw [cellE_arr hk0, hn0] at hj0
    rw [cellE_arr hk1, hn1] at hj1
    refine va_copyi g.1 g.2.1 (g.2.2.1.trans hl.1.symm) g.2.2.2.1 (g.2.2.2.2.1 _ hm.1) (g.2.2.2.2.1 _ hm.2.1) (g.2.2.2.2.1 _ hm.2.2.1) (g.2.2.2.2.1 _ hm.2.2.2) g.2.2.2.2.2.1 hP (wD_of g.2.2.2.2.2.2.2.2.1 M) hS j0 j1 0 0 hj0 hj1 rfl rfl rfl h1 h2 h3 h4 h5 (fun _ _ => rfl) hR.1 hR.2 d (fun H1 locs1 hP1 _ hS1 => ?_)
    rw [wW_set g.2.2.2.2.2.2.2.2.1 hx1 (f := va_cpy (M q0) (M q1) sp.toNatClampNeg dp.toNatClampNeg z.toNatClampNeg) (by rw [cellE_arr hk1, setR_self, hn1])] at hP1
    exact kk r hr H1 locs1 ls hP1 hS1 hl
theorem G_aldS (g : Gd p s m args meth c w nL cc own) {pc : Nat} {L : List (Nat × Value)} {st : List Value} {M : Mem} {o : Option ρ} {q nn : Nat} {i : Int32} (hq : q ∈ wL w) (hk : (wZ w q).1 = 24) (hn : (wZ w q).2.1 = nn) (d : decode cc pc = .ok (.aaload, 1)) (kk : Go p l e R s m args below meth c w nL k n Qf o (pc + 1) L (va_rf (((wZ w q).2.2 i.toNatClampNeg).map (wad w)) :: st) M) : Go p l e R s m args below meth c w nL k n Qf (grd (inB i nn) o) pc L (.int i :: .ref (wad w q) :: st) M := by
  intro r hr H locs ls hP hS hl
  obtain ⟨h, hr⟩ := grd_some hr
  have h := inB_of h
  · skip
    obtain ⟨j, -, hj⟩ := wW_get (M := M) hq
    rw [cellE_sta hk, hn] at hj
    exact va_aldq g.1 g.2.1 g.2.2.2.2.2.1 hP j 4 hj rfl h d (kk r hr H locs ls hP hS hl)
theorem G_aldT (g : Gd p s m args meth c w nL cc own) {pc : Nat} {L : List (Nat × Value)} {st : List Value} {M : Mem} {o : Option ρ} {q nn : Nat} {i : Int32} (hq : q ∈ wL w) (hk : (wZ w q).1 = 25) (hn : (wZ w q).2.1 = nn) (d : decode cc pc = .ok (.aaload, 1)) (kk : Go p l e R s m args below meth c w nL k n Qf o (pc + 1) L (va_rf (((wZ w q).2.2 i.toNatClampNeg).map (wad w)) :: st) M) : Go p l e R s m args below meth c w nL k n Qf (grd (inB i nn) o) pc L (.int i :: .ref (wad w q) :: st) M := by
  intro r hr H locs ls hP hS hl
  obtain ⟨h, hr⟩ := grd_some hr
  have h := inB_of h
  · skip
    obtain ⟨j, -, hj⟩ := wW_get (M := M) hq
    rw [cellE_str hk, hn] at hj
    exact va_aldq g.1 g.2.1 g.2.2.2.2.2.1 hP j 5 hj rfl h d (kk r hr H locs ls hP hS hl)
/-- a call's words: its link, the callee's code, its class made ready -/
def CV (own : String) (idx : Nat) (y : MethodName) (b : ByteArray) (maxL : Nat) (ret : Option FieldType) (a : Nat) : Prop := Cond.methodLink own idx y ∈ TT ∧ Cond.instanceMethod y ∈ TT ∧ Cond.selects y.cls y y ∈ TT ∧ Cond.initialized y.cls ∈ TT ∧ Cond.code y b maxL ret ∈ TT ∧ (y.cls ≠ "java/lang/invoke/MethodHandle" ∧ y.cls ≠ "java/lang/invoke/VarHandle" ∧ (parseMethodDescriptor y.desc).map (fun d => d.parameters.length) = some a)
def CS (own : String) (idx : Nat) (y : MethodName) (b : ByteArray) (maxL : Nat) (ret : Option FieldType) (a : Nat) : Prop := Cond.methodLink own idx y ∈ TT ∧ Cond.static y ∈ TT ∧ Cond.initialized y.cls ∈ TT ∧ Cond.code y b maxL ret ∈ TT ∧ (y.cls ≠ "java/lang/invoke/MethodHandle" ∧ y.cls ≠ "java/lang/invoke/VarHandle" ∧ (parseMethodDescriptor y.desc).map (fun d => d.parameters.length) = some a)
def CVN (own : String) (idx : Nat) (host : String) (y : MethodName) (b : ByteArray) (maxL : Nat) (ret : Option FieldType) (a : Nat) : Prop := Cond.methodLinkNest own idx y host ∈ NW ∧ Cond.instanceMethod y ∈ TT ∧ Cond.selects y.cls y y ∈ TT ∧ Cond.initialized y.cls ∈ TT ∧ Cond.code y b maxL ret ∈ TT ∧ (y.cls ≠ "java/lang/invoke/MethodHandle" ∧ y.cls ≠ "java/lang/invoke/VarHandle" ∧ (parseMethodDescriptor y.desc).map (fun d => d.parameters.length) = some a)
def CSN (own : String) (idx : Nat) (host : String) (y : MethodName) (b : ByteArray) (maxL : Nat) (ret : Option FieldType) (a : Nat) : Prop := Cond.methodLinkNest own idx y host ∈ NW ∧ Cond.static y ∈ TT ∧ Cond.initialized y.cls ∈ TT ∧ Cond.code y b maxL ret ∈ TT ∧ (y.cls ≠ "java/lang/invoke/MethodHandle" ∧ y.cls ≠ "java/lang/invoke/VarHandle" ∧ (parseMethodDescriptor y.desc).map (fun d => d.parameters.length) = some a)
theorem TT_gi {y : Cond} (hy : y ∈ TT) : GoodIn TT (y :: TT) := by
  intro w hw
  have hm : w ∈ TT := by
    rcases List.mem_cons.mp hw with rfl | h
    · exact hy
    · exact h
  exact ⟨hm, good_of_word (TT_good hm).2⟩
def bnd {α ρ : Type} (x : Option (α × Mem)) (f : α → Mem → Option ρ) : Option ρ := match x with
  | none => none
  | some r => f r.1 r.2
def bndM {ρ : Type} (x : Option Mem) (f : Mem → Option ρ) : Option ρ := match x with
  | none => none
  | some r => f r
theorem G_cVI2 (g : Gd p s m args meth c w nL cc own) {pc idx a maxL : Nat} {L : List (Nat × Value)} {st As : List Value} {M : Mem} {y : MethodName} {b : ByteArray} {rm : Room} {q ci N : Nat} {T : u_T} {ret : Option FieldType} {f : Option (Int32 × Mem)} {o : Int32 → Mem → Option ρ} (cw : CV own idx y b maxL ret a) (hM : Ct QI l y b maxL ret rm w (.ref (wad w q) :: As) M f) (hq : q ∈ wL w) (hk : (wZ w q).1 = ci) (hc : vwCl[ci]? = some (y.cls, T, N)) (hci : ci < 20) (hn : As.length = a) (hR : rm.frames + 1 ≤ R.frames ∧ 8 + (maxL + 11) + rm.locals ≤ R.locals) (hC : k + rm.cells ≤ R.cells ∧ n + rm.slots ≤ R.slots) (hs : (st.map fun v => v.category).sum ≤ 8) (d : decode cc pc = .ok (.invokevirtual idx, 3)) (kk : ∀ (x : Int32) (M1 : Mem), Go p l e R s m args below meth c w nL (k + rm.cells) (n + rm.slots) Qf (o x M1) (pc + 3) L (.int x :: st) M1) : Go p l e R s m args below meth c w nL k n Qf (bnd f o) pc L (As.reverse ++ .ref (wad w q) :: st) M := by
  intro r hr H locs ls hP hS hl
  cases f with
  | none => cases hr
  | some v =>
    obtain ⟨j, -, hj⟩ := wW_get (M := M) hq
    rw [cellE_obj hk hci] at hj
    refine va_calli (va_runV (As := As) (rest := st) ⟨g.1, g.2.1, g.2.2.1, g.2.2.2.1, g.2.2.2.2.1⟩ (hM v rfl) ⟨callB_of a g.2.2.2.2.1 (TT_gi cw.2.2.2.2.1) rfl rfl rfl (g.2.2.2.2.1 _ cw.2.2.2.1) (g.2.2.2.2.1 _ cw.1) cw.2.2.2.2.2 hR, g.2.2.2.2.1 _ cw.2.1, g.2.2.2.2.1 _ cw.2.2.1⟩ ⟨Wd.blind, va_recv g.2.2.2.2.2.1 hP hc hj, fun U hU hW => ⟨rfl, by rw [hU]; exact hP, va_K.moved hW.alike g.2.2.2.2.2.1, g.2.2.2.2.2.2.2.2.1, by rw [hU]; exact Nat.le_trans g.2.2.2.2.2.2.2.2.2 hS.1, Sx.step g.2.2.2.2.2.2.2.1 hS hU hW⟩⟩ rfl hn hl.1 rfl (lv_room hs) d hC) hS (fun _ _ h => h) (fun _ h => h) (fun x u t H1 locs1 ht hvm hw hB hz hkp hS1 => ?_)
    have hw : x = v.1 := hw
    subst hw
    exact kk v.1 v.2 r hr H1 locs1 ls (by rw [← ht]; exact hB) hS1 hl
theorem G_cSI2 (g : Gd p s m args meth c w nL cc own) {pc idx a maxL : Nat} {L : List (Nat × Value)} {st As : List Value} {M : Mem} {y : MethodName} {b : ByteArray} {rm : Room} {ret : Option FieldType} {f : Option (Int32 × Mem)} {o : Int32 → Mem → Option ρ} (cw : CS own idx y b maxL ret a) (hM : Ct QI l y b maxL ret rm w (As) M f) (hn : As.length = a) (hR : rm.frames + 1 ≤ R.frames ∧ 8 + (maxL + 11) + rm.locals ≤ R.locals) (hC : k + rm.cells ≤ R.cells ∧ n + rm.slots ≤ R.slots) (hs : (st.map fun v => v.category).sum ≤ 8) (d : decode cc pc = .ok (.invokestatic idx, 3)) (kk : ∀ (x : Int32) (M1 : Mem), Go p l e R s m args below meth c w nL (k + rm.cells) (n + rm.slots) Qf (o x M1) (pc + 3) L (.int x :: st) M1) : Go p l e R s m args below meth c w nL k n Qf (bnd f o) pc L (As.reverse ++ st) M := by
  intro r hr H locs ls hP hS hl
  cases f with
  | none => cases hr
  | some v =>
    refine va_calli (va_runS (As := As) (rest := st) ⟨g.1, g.2.1, g.2.2.1, g.2.2.2.1, g.2.2.2.2.1⟩ (hM v rfl) ⟨callB_of a g.2.2.2.2.1 (TT_gi cw.2.2.2.1) rfl rfl rfl (g.2.2.2.2.1 _ cw.2.2.1) (g.2.2.2.2.1 _ cw.1) cw.2.2.2.2 hR, g.2.2.2.2.1 _ cw.2.1⟩ ⟨Wd.blind, fun U hU hW => ⟨rfl, by rw [hU]; exact hP, va_K.moved hW.alike g.2.2.2.2.2.1, g.2.2.2.2.2.2.2.2.1, by rw [hU]; exact Nat.le_trans g.2.2.2.2.2.2.2.2.2 hS.1, Sx.step g.2.2.2.2.2.2.2.1 hS hU hW⟩⟩ rfl hn hl.1 rfl (lv_room hs) d hC) hS (fun _ _ h => h) (fun _ h => h) (fun x u t H1 locs1 ht hvm hw hB hz hkp hS1 => ?_)
    have hw : x = v.1 := hw
    subst hw
    exact kk v.1 v.2 r hr H1 locs1 ls (by rw [← ht]; exact hB) hS1 hl
theorem G_cVNI2 (g : Gd p s m args meth c w nL cc own) {pc idx a maxL : Nat} {L : List (Nat × Value)} {st As : List Value} {M : Mem} {y : MethodName} {b : ByteArray} {rm : Room} {host : String} {q ci N : Nat} {T : u_T} {ret : Option FieldType} {f : Option (Int32 × Mem)} {o : Int32 → Mem → Option ρ} (cw : CVN own idx host y b maxL ret a) (hM : Ct QI l y b maxL ret rm w (.ref (wad w q) :: As) M f) (hq : q ∈ wL w) (hk : (wZ w q).1 = ci) (hc : vwCl[ci]? = some (y.cls, T, N)) (hci : ci < 20) (hn : As.length = a) (hR : rm.frames + 1 ≤ R.frames ∧ 8 + (maxL + 11) + rm.locals ≤ R.locals) (hC : k + rm.cells ≤ R.cells ∧ n + rm.slots ≤ R.slots) (hs : (st.map fun v => v.category).sum ≤ 8) (d : decode cc pc = .ok (.invokevirtual idx, 3)) (kk : ∀ (x : Int32) (M1 : Mem), Go p l e R s m args below meth c w nL (k + rm.cells) (n + rm.slots) Qf (o x M1) (pc + 3) L (.int x :: st) M1) : Go p l e R s m args below meth c w nL k n Qf (bnd f o) pc L (As.reverse ++ .ref (wad w q) :: st) M := by
  intro r hr H locs ls hP hS hl
  cases f with
  | none => cases hr
  | some v =>
    obtain ⟨j, -, hj⟩ := wW_get (M := M) hq
    rw [cellE_obj hk hci] at hj
    refine va_calli (va_runVN (As := As) (rest := st) ⟨g.1, g.2.1, g.2.2.1, g.2.2.2.1, g.2.2.2.2.1⟩ (hM v rfl) ⟨va_cnB a g.2.2.2.2.1 (TT_gi cw.2.2.2.2.1) rfl rfl rfl (g.2.2.2.2.2.2.2.1.2.2.1 _ cw.1) (g.2.2.2.2.1 _ cw.2.2.2.1) cw.2.2.2.2.2 hR, g.2.2.2.2.1 _ cw.2.1, g.2.2.2.2.1 _ cw.2.2.1⟩ ⟨Wd.blind, va_recv g.2.2.2.2.2.1 hP hc hj, fun U hU hW => ⟨rfl, by rw [hU]; exact hP, va_K.moved hW.alike g.2.2.2.2.2.1, g.2.2.2.2.2.2.2.2.1, by rw [hU]; exact Nat.le_trans g.2.2.2.2.2.2.2.2.2 hS.1, Sx.step g.2.2.2.2.2.2.2.1 hS hU hW⟩⟩ rfl hn hl.1 rfl (lv_room hs) d hC) hS (fun _ _ h => h) (fun _ h => h) (fun x u t H1 locs1 ht hvm hw hB hz hkp hS1 => ?_)
    have hw : x = v.1 := hw
    subst hw
    exact kk v.1 v.2 r hr H1 locs1 ls (by rw [← ht]; exact hB) hS1 hl
theorem G_cSNI2 (g : Gd p s m args meth c w nL cc own) {pc idx a maxL : Nat} {L : List (Nat × Value)} {st As : List Value} {M : Mem} {y : MethodName} {b : ByteArray} {rm : Room} {host : String} {ret : Option FieldType} {f : Option (Int32 × Mem)} {o : Int32 → Mem → Option ρ} (cw : CSN own idx host y b maxL ret a) (hM : Ct QI l y b maxL ret rm w (As) M f) (hn : As.length = a) (hR : rm.frames + 1 ≤ R.frames ∧ 8 + (maxL + 11) + rm.locals ≤ R.locals) (hC : k + rm.cells ≤ R.cells ∧ n + rm.slots ≤ R.slots) (hs : (st.map fun v => v.category).sum ≤ 8) (d : decode cc pc = .ok (.invokestatic idx, 3)) (kk : ∀ (x : Int32) (M1 : Mem), Go p l e R s m args below meth c w nL (k + rm.cells) (n + rm.slots) Qf (o x M1) (pc + 3) L (.int x :: st) M1) : Go p l e R s m args below meth c w nL k n Qf (bnd f o) pc L (As.reverse ++ st) M := by
  intro r hr H locs ls hP hS hl
  cases f with
  | none => cases hr
  | some v =>
    refine va_calli (va_runSN (As := As) (rest := st) ⟨g.1, g.2.1, g.2.2.1, g.2.2.2.1, g.2.2.2.2.1⟩ (hM v rfl) ⟨va_cnB a g.2.2.2.2.1 (TT_gi cw.2.2.2.1) rfl rfl rfl (g.2.2.2.2.2.2.2.1.2.2.1 _ cw.1) (g.2.2.2.2.1 _ cw.2.2.1) cw.2.2.2.2 hR, g.2.2.2.2.1 _ cw.2.1, trivial⟩ ⟨Wd.blind, fun U hU hW => ⟨rfl, by rw [hU]; exact hP, va_K.moved hW.alike g.2.2.2.2.2.1, g.2.2.2.2.2.2.2.2.1, by rw [hU]; exact Nat.le_trans g.2.2.2.2.2.2.2.2.2 hS.1, Sx.step g.2.2.2.2.2.2.2.1 hS hU hW⟩⟩ rfl hn hl.1 rfl (lv_room hs) d hC) hS (fun _ _ h => h) (fun _ h => h) (fun x u t H1 locs1 ht hvm hw hB hz hkp hS1 => ?_)
    have hw : x = v.1 := hw
    subst hw
    exact kk v.1 v.2 r hr H1 locs1 ls (by rw [← ht]; exact hB) hS1 hl
theorem G_cVI (g : Gd p s m args meth c w nL cc own) {pc idx a maxL : Nat} {L : List (Nat × Value)} {st As : List Value} {M : Mem} {y : MethodName} {b : ByteArray} {rm : Room} {q ci N : Nat} {T : u_T} {f : Option (Int32 × Mem)} {o : Int32 → Mem → Option ρ} (cw : CV own idx y b maxL (some .int) a) (hM : Ct QI l y b maxL (some .int) rm w (.ref (wad w q) :: As) M f) (hq : q ∈ wL w) (hk : (wZ w q).1 = ci) (hc : vwCl[ci]? = some (y.cls, T, N)) (hci : ci < 20) (hn : As.length = a) (hR : rm.frames + 1 ≤ R.frames ∧ 8 + (maxL + 11) + rm.locals ≤ R.locals) (hC : k + rm.cells ≤ R.cells ∧ n + rm.slots ≤ R.slots) (hs : (st.map fun v => v.category).sum ≤ 8) (d : decode cc pc = .ok (.invokevirtual idx, 3)) (kk : ∀ (x : Int32) (M1 : Mem), Go p l e R s m args below meth c w nL (k + rm.cells) (n + rm.slots) Qf (o x M1) (pc + 3) L (.int x :: st) M1) : Go p l e R s m args below meth c w nL k n Qf (bnd f o) pc L (As.reverse ++ .ref (wad w q) :: st) M := by
  intro r hr H locs ls hP hS hl
  cases f with
  | none => cases hr
  | some v =>
    obtain ⟨j, -, hj⟩ := wW_get (M := M) hq
    rw [cellE_obj hk hci] at hj
    refine va_calli (va_runV (As := As) (rest := st) ⟨g.1, g.2.1, g.2.2.1, g.2.2.2.1, g.2.2.2.2.1⟩ (hM v rfl) ⟨callB_of a g.2.2.2.2.1 (TT_gi cw.2.2.2.2.1) rfl rfl rfl (g.2.2.2.2.1 _ cw.2.2.2.1) (g.2.2.2.2.1 _ cw.1) cw.2.2.2.2.2 hR, g.2.2.2.2.1 _ cw.2.1, g.2.2.2.2.1 _ cw.2.2.1⟩ ⟨Wd.blind, va_recv g.2.2.2.2.2.1 hP hc hj, fun U hU hW => ⟨rfl, by rw [hU]; exact hP, va_K.moved hW.alike g.2.2.2.2.2.1, g.2.2.2.2.2.2.2.2.1, by rw [hU]; exact Nat.le_trans g.2.2.2.2.2.2.2.2.2 hS.1, Sx.step g.2.2.2.2.2.2.2.1 hS hU hW⟩⟩ rfl hn hl.1 rfl (lv_room hs) d hC) hS (fun _ _ h => h) (fun _ h => h) (fun x u t H1 locs1 ht hvm hw hB hz hkp hS1 => ?_)
    have hw : x = v.1 := hw
    subst hw
    exact kk v.1 v.2 r hr H1 locs1 ls (by rw [← ht]; exact hB) hS1 hl
theorem G_cSI (g : Gd p s m args meth c w nL cc own) {pc idx a maxL : Nat} {L : List (Nat × Value)} {st As : List Value} {M : Mem} {y : MethodName} {b : ByteArray} {rm : Room} {f : Option (Int32 × Mem)} {o : Int32 → Mem → Option ρ} (cw : CS own idx y b maxL (some .int) a) (hM : Ct QI l y b maxL (some .int) rm w (As) M f) (hn : As.length = a) (hR : rm.frames + 1 ≤ R.frames ∧ 8 + (maxL + 11) + rm.locals ≤ R.locals) (hC : k + rm.cells ≤ R.cells ∧ n + rm.slots ≤ R.slots) (hs : (st.map fun v => v.category).sum ≤ 8) (d : decode cc pc = .ok (.invokestatic idx, 3)) (kk : ∀ (x : Int32) (M1 : Mem), Go p l e R s m args below meth c w nL (k + rm.cells) (n + rm.slots) Qf (o x M1) (pc + 3) L (.int x :: st) M1) : Go p l e R s m args below meth c w nL k n Qf (bnd f o) pc L (As.reverse ++ st) M := by
  intro r hr H locs ls hP hS hl
  cases f with
  | none => cases hr
  | some v =>
    refine va_calli (va_runS (As := As) (rest := st) ⟨g.1, g.2.1, g.2.2.1, g.2.2.2.1, g.2.2.2.2.1⟩ (hM v rfl) ⟨callB_of a g.2.2.2.2.1 (TT_gi cw.2.2.2.1) rfl rfl rfl (g.2.2.2.2.1 _ cw.2.2.1) (g.2.2.2.2.1 _ cw.1) cw.2.2.2.2 hR, g.2.2.2.2.1 _ cw.2.1⟩ ⟨Wd.blind, fun U hU hW => ⟨rfl, by rw [hU]; exact hP, va_K.moved hW.alike g.2.2.2.2.2.1, g.2.2.2.2.2.2.2.2.1, by rw [hU]; exact Nat.le_trans g.2.2.2.2.2.2.2.2.2 hS.1, Sx.step g.2.2.2.2.2.2.2.1 hS hU hW⟩⟩ rfl hn hl.1 rfl (lv_room hs) d hC) hS (fun _ _ h => h) (fun _ h => h) (fun x u t H1 locs1 ht hvm hw hB hz hkp hS1 => ?_)
    have hw : x = v.1 := hw
    subst hw
    exact kk v.1 v.2 r hr H1 locs1 ls (by rw [← ht]; exact hB) hS1 hl
theorem G_cVNI (g : Gd p s m args meth c w nL cc own) {pc idx a maxL : Nat} {L : List (Nat × Value)} {st As : List Value} {M : Mem} {y : MethodName} {b : ByteArray} {rm : Room} {host : String} {q ci N : Nat} {T : u_T} {f : Option (Int32 × Mem)} {o : Int32 → Mem → Option ρ} (cw : CVN own idx host y b maxL (some .int) a) (hM : Ct QI l y b maxL (some .int) rm w (.ref (wad w q) :: As) M f) (hq : q ∈ wL w) (hk : (wZ w q).1 = ci) (hc : vwCl[ci]? = some (y.cls, T, N)) (hci : ci < 20) (hn : As.length = a) (hR : rm.frames + 1 ≤ R.frames ∧ 8 + (maxL + 11) + rm.locals ≤ R.locals) (hC : k + rm.cells ≤ R.cells ∧ n + rm.slots ≤ R.slots) (hs : (st.map fun v => v.category).sum ≤ 8) (d : decode cc pc = .ok (.invokevirtual idx, 3)) (kk : ∀ (x : Int32) (M1 : Mem), Go p l e R s m args below meth c w nL (k + rm.cells) (n + rm.slots) Qf (o x M1) (pc + 3) L (.int x :: st) M1) : Go p l e R s m args below meth c w nL k n Qf (bnd f o) pc L (As.reverse ++ .ref (wad w q) :: st) M := by
  intro r hr H locs ls hP hS hl
  cases f with
  | none => cases hr
  | some v =>
    obtain ⟨j, -, hj⟩ := wW_get (M := M) hq
    rw [cellE_obj hk hci] at hj
    refine va_calli (va_runVN (As := As) (rest := st) ⟨g.1, g.2.1, g.2.2.1, g.2.2.2.1, g.2.2.2.2.1⟩ (hM v rfl) ⟨va_cnB a g.2.2.2.2.1 (TT_gi cw.2.2.2.2.1) rfl rfl rfl (g.2.2.2.2.2.2.2.1.2.2.1 _ cw.1) (g.2.2.2.2.1 _ cw.2.2.2.1) cw.2.2.2.2.2 hR, g.2.2.2.2.1 _ cw.2.1, g.2.2.2.2.1 _ cw.2.2.1⟩ ⟨Wd.blind, va_recv g.2.2.2.2.2.1 hP hc hj, fun U hU hW => ⟨rfl, by rw [hU]; exact hP, va_K.moved hW.alike g.2.2.2.2.2.1, g.2.2.2.2.2.2.2.2.1, by rw [hU]; exact Nat.le_trans g.2.2.2.2.2.2.2.2.2 hS.1, Sx.step g.2.2.2.2.2.2.2.1 hS hU hW⟩⟩ rfl hn hl.1 rfl (lv_room hs) d hC) hS (fun _ _ h => h) (fun _ h => h) (fun x u t H1 locs1 ht hvm hw hB hz hkp hS1 => ?_)
    have hw : x = v.1 := hw
    subst hw
    exact kk v.1 v.2 r hr H1 locs1 ls (by rw [← ht]; exact hB) hS1 hl
theorem G_cSNI (g : Gd p s m args meth c w nL cc own) {pc idx a maxL : Nat} {L : List (Nat × Value)} {st As : List Value} {M : Mem} {y : MethodName} {b : ByteArray} {rm : Room} {host : String} {f : Option (Int32 × Mem)} {o : Int32 → Mem → Option ρ} (cw : CSN own idx host y b maxL (some .int) a) (hM : Ct QI l y b maxL (some .int) rm w (As) M f) (hn : As.length = a) (hR : rm.frames + 1 ≤ R.frames ∧ 8 + (maxL + 11) + rm.locals ≤ R.locals) (hC : k + rm.cells ≤ R.cells ∧ n + rm.slots ≤ R.slots) (hs : (st.map fun v => v.category).sum ≤ 8) (d : decode cc pc = .ok (.invokestatic idx, 3)) (kk : ∀ (x : Int32) (M1 : Mem), Go p l e R s m args below meth c w nL (k + rm.cells) (n + rm.slots) Qf (o x M1) (pc + 3) L (.int x :: st) M1) : Go p l e R s m args below meth c w nL k n Qf (bnd f o) pc L (As.reverse ++ st) M := by
  intro r hr H locs ls hP hS hl
  cases f with
  | none => cases hr
  | some v =>
    refine va_calli (va_runSN (As := As) (rest := st) ⟨g.1, g.2.1, g.2.2.1, g.2.2.2.1, g.2.2.2.2.1⟩ (hM v rfl) ⟨va_cnB a g.2.2.2.2.1 (TT_gi cw.2.2.2.1) rfl rfl rfl (g.2.2.2.2.2.2.2.1.2.2.1 _ cw.1) (g.2.2.2.2.1 _ cw.2.2.1) cw.2.2.2.2 hR, g.2.2.2.2.1 _ cw.2.1, trivial⟩ ⟨Wd.blind, fun U hU hW => ⟨rfl, by rw [hU]; exact hP, va_K.moved hW.alike g.2.2.2.2.2.1, g.2.2.2.2.2.2.2.2.1, by rw [hU]; exact Nat.le_trans g.2.2.2.2.2.2.2.2.2 hS.1, Sx.step g.2.2.2.2.2.2.2.1 hS hU hW⟩⟩ rfl hn hl.1 rfl (lv_room hs) d hC) hS (fun _ _ h => h) (fun _ h => h) (fun x u t H1 locs1 ht hvm hw hB hz hkp hS1 => ?_)
    have hw : x = v.1 := hw
    subst hw
    exact kk v.1 v.2 r hr H1 locs1 ls (by rw [← ht]; exact hB) hS1 hl
theorem G_cVZ (g : Gd p s m args meth c w nL cc own) {pc idx a maxL : Nat} {L : List (Nat × Value)} {st As : List Value} {M : Mem} {y : MethodName} {b : ByteArray} {rm : Room} {q ci N : Nat} {T : u_T} {f : Option (Bool × Mem)} {o : Bool → Mem → Option ρ} (cw : CV own idx y b maxL (some .boolean) a) (hM : Ct QZ l y b maxL (some .boolean) rm w (.ref (wad w q) :: As) M f) (hq : q ∈ wL w) (hk : (wZ w q).1 = ci) (hc : vwCl[ci]? = some (y.cls, T, N)) (hci : ci < 20) (hn : As.length = a) (hR : rm.frames + 1 ≤ R.frames ∧ 8 + (maxL + 11) + rm.locals ≤ R.locals) (hC : k + rm.cells ≤ R.cells ∧ n + rm.slots ≤ R.slots) (hs : (st.map fun v => v.category).sum ≤ 8) (d : decode cc pc = .ok (.invokevirtual idx, 3)) (kk : ∀ (x : Bool) (M1 : Mem), Go p l e R s m args below meth c w nL (k + rm.cells) (n + rm.slots) Qf (o x M1) (pc + 3) L (.int (b2i x) :: st) M1) : Go p l e R s m args below meth c w nL k n Qf (bnd f o) pc L (As.reverse ++ .ref (wad w q) :: st) M := by
  intro r hr H locs ls hP hS hl
  cases f with
  | none => cases hr
  | some v =>
    obtain ⟨j, -, hj⟩ := wW_get (M := M) hq
    rw [cellE_obj hk hci] at hj
    refine va_calli (va_runV (As := As) (rest := st) ⟨g.1, g.2.1, g.2.2.1, g.2.2.2.1, g.2.2.2.2.1⟩ (hM v rfl) ⟨callB_of a g.2.2.2.2.1 (TT_gi cw.2.2.2.2.1) rfl rfl rfl (g.2.2.2.2.1 _ cw.2.2.2.1) (g.2.2.2.2.1 _ cw.1) cw.2.2.2.2.2 hR, g.2.2.2.2.1 _ cw.2.1, g.2.2.2.2.1 _ cw.2.2.1⟩ ⟨Wd.blind, va_recv g.2.2.2.2.2.1 hP hc hj, fun U hU hW => ⟨rfl, by rw [hU]; exact hP, va_K.moved hW.alike g.2.2.2.2.2.1, g.2.2.2.2.2.2.2.2.1, by rw [hU]; exact Nat.le_trans g.2.2.2.2.2.2.2.2.2 hS.1, Sx.step g.2.2.2.2.2.2.2.1 hS hU hW⟩⟩ rfl hn hl.1 rfl (lv_room hs) d hC) hS (fun _ _ h => h) (fun _ h => h) (fun x u t H1 locs1 ht hvm hw hB hz hkp hS1 => ?_)
    have hw : x = b2i v.1 := hw
    subst hw
    exact kk v.1 v.2 r hr H1 locs1 ls (by rw [← ht]; exact hB) hS1 hl
theorem G_cSZ (g : Gd p s m args meth c w nL cc own) {pc idx a maxL : Nat} {L : List (Nat × Value)} {st As : List Value} {M : Mem} {y : MethodName} {b : ByteArray} {rm : Room} {f : Option (Bool × Mem)} {o : Bool → Mem → Option ρ} (cw : CS own idx y b maxL (some .boolean) a) (hM : Ct QZ l y b maxL (some .boolean) rm w (As) M f) (hn : As.length = a) (hR : rm.frames + 1 ≤ R.frames ∧ 8 + (maxL + 11) + rm.locals ≤ R.locals) (hC : k + rm.cells ≤ R.cells ∧ n + rm.slots ≤ R.slots) (hs : (st.map fun v => v.category).sum ≤ 8) (d : decode cc pc = .ok (.invokestatic idx, 3)) (kk : ∀ (x : Bool) (M1 : Mem), Go p l e R s m args below meth c w nL (k + rm.cells) (n + rm.slots) Qf (o x M1) (pc + 3) L (.int (b2i x) :: st) M1) : Go p l e R s m args below meth c w nL k n Qf (bnd f o) pc L (As.reverse ++ st) M := by
  intro r hr H locs ls hP hS hl
  cases f with
  | none => cases hr
  | some v =>
    refine va_calli (va_runS (As := As) (rest := st) ⟨g.1, g.2.1, g.2.2.1, g.2.2.2.1, g.2.2.2.2.1⟩ (hM v rfl) ⟨callB_of a g.2.2.2.2.1 (TT_gi cw.2.2.2.1) rfl rfl rfl (g.2.2.2.2.1 _ cw.2.2.1) (g.2.2.2.2.1 _ cw.1) cw.2.2.2.2 hR, g.2.2.2.2.1 _ cw.2.1⟩ ⟨Wd.blind, fun U hU hW => ⟨rfl, by rw [hU]; exact hP, va_K.moved hW.alike g.2.2.2.2.2.1, g.2.2.2.2.2.2.2.2.1, by rw [hU]; exact Nat.le_trans g.2.2.2.2.2.2.2.2.2 hS.1, Sx.step g.2.2.2.2.2.2.2.1 hS hU hW⟩⟩ rfl hn hl.1 rfl (lv_room hs) d hC) hS (fun _ _ h => h) (fun _ h => h) (fun x u t H1 locs1 ht hvm hw hB hz hkp hS1 => ?_)
    have hw : x = b2i v.1 := hw
    subst hw
    exact kk v.1 v.2 r hr H1 locs1 ls (by rw [← ht]; exact hB) hS1 hl
theorem G_cVNZ (g : Gd p s m args meth c w nL cc own) {pc idx a maxL : Nat} {L : List (Nat × Value)} {st As : List Value} {M : Mem} {y : MethodName} {b : ByteArray} {rm : Room} {host : String} {q ci N : Nat} {T : u_T} {f : Option (Bool × Mem)} {o : Bool → Mem → Option ρ} (cw : CVN own idx host y b maxL (some .boolean) a) (hM : Ct QZ l y b maxL (some .boolean) rm w (.ref (wad w q) :: As) M f) (hq : q ∈ wL w) (hk : (wZ w q).1 = ci) (hc : vwCl[ci]? = some (y.cls, T, N)) (hci : ci < 20) (hn : As.length = a) (hR : rm.frames + 1 ≤ R.frames ∧ 8 + (maxL + 11) + rm.locals ≤ R.locals) (hC : k + rm.cells ≤ R.cells ∧ n + rm.slots ≤ R.slots) (hs : (st.map fun v => v.category).sum ≤ 8) (d : decode cc pc = .ok (.invokevirtual idx, 3)) (kk : ∀ (x : Bool) (M1 : Mem), Go p l e R s m args below meth c w nL (k + rm.cells) (n + rm.slots) Qf (o x M1) (pc + 3) L (.int (b2i x) :: st) M1) : Go p l e R s m args below meth c w nL k n Qf (bnd f o) pc L (As.reverse ++ .ref (wad w q) :: st) M := by
  intro r hr H locs ls hP hS hl
  cases f with
  | none => cases hr
  | some v =>
    obtain ⟨j, -, hj⟩ := wW_get (M := M) hq
    rw [cellE_obj hk hci] at hj
    refine va_calli (va_runVN (As := As) (rest := st) ⟨g.1, g.2.1, g.2.2.1, g.2.2.2.1, g.2.2.2.2.1⟩ (hM v rfl) ⟨va_cnB a g.2.2.2.2.1 (TT_gi cw.2.2.2.2.1) rfl rfl rfl (g.2.2.2.2.2.2.2.1.2.2.1 _ cw.1) (g.2.2.2.2.1 _ cw.2.2.2.1) cw.2.2.2.2.2 hR, g.2.2.2.2.1 _ cw.2.1, g.2.2.2.2.1 _ cw.2.2.1⟩ ⟨Wd.blind, va_recv g.2.2.2.2.2.1 hP hc hj, fun U hU hW => ⟨rfl, by rw [hU]; exact hP, va_K.moved hW.alike g.2.2.2.2.2.1, g.2.2.2.2.2.2.2.2.1, by rw [hU]; exact Nat.le_trans g.2.2.2.2.2.2.2.2.2 hS.1, Sx.step g.2.2.2.2.2.2.2.1 hS hU hW⟩⟩ rfl hn hl.1 rfl (lv_room hs) d hC) hS (fun _ _ h => h) (fun _ h => h) (fun x u t H1 locs1 ht hvm hw hB hz hkp hS1 => ?_)
    have hw : x = b2i v.1 := hw
    subst hw
    exact kk v.1 v.2 r hr H1 locs1 ls (by rw [← ht]; exact hB) hS1 hl
theorem G_cSNZ (g : Gd p s m args meth c w nL cc own) {pc idx a maxL : Nat} {L : List (Nat × Value)} {st As : List Value} {M : Mem} {y : MethodName} {b : ByteArray} {rm : Room} {host : String} {f : Option (Bool × Mem)} {o : Bool → Mem → Option ρ} (cw : CSN own idx host y b maxL (some .boolean) a) (hM : Ct QZ l y b maxL (some .boolean) rm w (As) M f) (hn : As.length = a) (hR : rm.frames + 1 ≤ R.frames ∧ 8 + (maxL + 11) + rm.locals ≤ R.locals) (hC : k + rm.cells ≤ R.cells ∧ n + rm.slots ≤ R.slots) (hs : (st.map fun v => v.category).sum ≤ 8) (d : decode cc pc = .ok (.invokestatic idx, 3)) (kk : ∀ (x : Bool) (M1 : Mem), Go p l e R s m args below meth c w nL (k + rm.cells) (n + rm.slots) Qf (o x M1) (pc + 3) L (.int (b2i x) :: st) M1) : Go p l e R s m args below meth c w nL k n Qf (bnd f o) pc L (As.reverse ++ st) M := by
  intro r hr H locs ls hP hS hl
  cases f with
  | none => cases hr
  | some v =>
    refine va_calli (va_runSN (As := As) (rest := st) ⟨g.1, g.2.1, g.2.2.1, g.2.2.2.1, g.2.2.2.2.1⟩ (hM v rfl) ⟨va_cnB a g.2.2.2.2.1 (TT_gi cw.2.2.2.1) rfl rfl rfl (g.2.2.2.2.2.2.2.1.2.2.1 _ cw.1) (g.2.2.2.2.1 _ cw.2.2.1) cw.2.2.2.2 hR, g.2.2.2.2.1 _ cw.2.1, trivial⟩ ⟨Wd.blind, fun U hU hW => ⟨rfl, by rw [hU]; exact hP, va_K.moved hW.alike g.2.2.2.2.2.1, g.2.2.2.2.2.2.2.2.1, by rw [hU]; exact Nat.le_trans g.2.2.2.2.2.2.2.2.2 hS.1, Sx.step g.2.2.2.2.2.2.2.1 hS hU hW⟩⟩ rfl hn hl.1 rfl (lv_room hs) d hC) hS (fun _ _ h => h) (fun _ h => h) (fun x u t H1 locs1 ht hvm hw hB hz hkp hS1 => ?_)
    have hw : x = b2i v.1 := hw
    subst hw
    exact kk v.1 v.2 r hr H1 locs1 ls (by rw [← ht]; exact hB) hS1 hl
theorem G_cVV (g : Gd p s m args meth c w nL cc own) {pc idx a maxL : Nat} {L : List (Nat × Value)} {st As : List Value} {M : Mem} {y : MethodName} {b : ByteArray} {rm : Room} {q ci N : Nat} {T : u_T} {f : Option (Mem)} {o : Mem → Option ρ} (cw : CV own idx y b maxL none a) (hM : Ct QV l y b maxL none rm w (.ref (wad w q) :: As) M f) (hq : q ∈ wL w) (hk : (wZ w q).1 = ci) (hc : vwCl[ci]? = some (y.cls, T, N)) (hci : ci < 20) (hn : As.length = a) (hR : rm.frames + 1 ≤ R.frames ∧ 8 + (maxL + 11) + rm.locals ≤ R.locals) (hC : k + rm.cells ≤ R.cells ∧ n + rm.slots ≤ R.slots) (hs : (st.map fun v => v.category).sum ≤ 8) (d : decode cc pc = .ok (.invokevirtual idx, 3)) (kk : ∀ (M1 : Mem), Go p l e R s m args below meth c w nL (k + rm.cells) (n + rm.slots) Qf (o M1) (pc + 3) L (st) M1) : Go p l e R s m args below meth c w nL k n Qf (bndM f o) pc L (As.reverse ++ .ref (wad w q) :: st) M := by
  intro r hr H locs ls hP hS hl
  cases f with
  | none => cases hr
  | some v =>
    obtain ⟨j, -, hj⟩ := wW_get (M := M) hq
    rw [cellE_obj hk hci] at hj
    refine va_callv (va_runV (As := As) (rest := st) ⟨g.1, g.2.1, g.2.2.1, g.2.2.2.1, g.2.2.2.2.1⟩ (hM v rfl) ⟨callB_of a g.2.2.2.2.1 (TT_gi cw.2.2.2.2.1) rfl rfl rfl (g.2.2.2.2.1 _ cw.2.2.2.1) (g.2.2.2.2.1 _ cw.1) cw.2.2.2.2.2 hR, g.2.2.2.2.1 _ cw.2.1, g.2.2.2.2.1 _ cw.2.2.1⟩ ⟨Wd.blind, va_recv g.2.2.2.2.2.1 hP hc hj, fun U hU hW => ⟨rfl, by rw [hU]; exact hP, va_K.moved hW.alike g.2.2.2.2.2.1, g.2.2.2.2.2.2.2.2.1, by rw [hU]; exact Nat.le_trans g.2.2.2.2.2.2.2.2.2 hS.1, Sx.step g.2.2.2.2.2.2.2.1 hS hU hW⟩⟩ rfl hn hl.1 rfl (lv_room hs) d hC) hS (fun _ _ h => h) (fun _ h => h) (fun u t H1 locs1 ht hvm hw hB hz hkp hS1 => ?_)
    exact kk v r hr H1 locs1 ls (by rw [← ht]; exact hB) hS1 hl
theorem G_cSV (g : Gd p s m args meth c w nL cc own) {pc idx a maxL : Nat} {L : List (Nat × Value)} {st As : List Value} {M : Mem} {y : MethodName} {b : ByteArray} {rm : Room} {f : Option (Mem)} {o : Mem → Option ρ} (cw : CS own idx y b maxL none a) (hM : Ct QV l y b maxL none rm w (As) M f) (hn : As.length = a) (hR : rm.frames + 1 ≤ R.frames ∧ 8 + (maxL + 11) + rm.locals ≤ R.locals) (hC : k + rm.cells ≤ R.cells ∧ n + rm.slots ≤ R.slots) (hs : (st.map fun v => v.category).sum ≤ 8) (d : decode cc pc = .ok (.invokestatic idx, 3)) (kk : ∀ (M1 : Mem), Go p l e R s m args below meth c w nL (k + rm.cells) (n + rm.slots) Qf (o M1) (pc + 3) L (st) M1) : Go p l e R s m args below meth c w nL k n Qf (bndM f o) pc L (As.reverse ++ st) M := by
  intro r hr H locs ls hP hS hl
  cases f with
  | none => cases hr
  | some v =>
    refine va_callv (va_runS (As := As) (rest := st) ⟨g.1, g.2.1, g.2.2.1, g.2.2.2.1, g.2.2.2.2.1⟩ (hM v rfl) ⟨callB_of a g.2.2.2.2.1 (TT_gi cw.2.2.2.1) rfl rfl rfl (g.2.2.2.2.1 _ cw.2.2.1) (g.2.2.2.2.1 _ cw.1) cw.2.2.2.2 hR, g.2.2.2.2.1 _ cw.2.1⟩ ⟨Wd.blind, fun U hU hW => ⟨rfl, by rw [hU]; exact hP, va_K.moved hW.alike g.2.2.2.2.2.1, g.2.2.2.2.2.2.2.2.1, by rw [hU]; exact Nat.le_trans g.2.2.2.2.2.2.2.2.2 hS.1, Sx.step g.2.2.2.2.2.2.2.1 hS hU hW⟩⟩ rfl hn hl.1 rfl (lv_room hs) d hC) hS (fun _ _ h => h) (fun _ h => h) (fun u t H1 locs1 ht hvm hw hB hz hkp hS1 => ?_)
    exact kk v r hr H1 locs1 ls (by rw [← ht]; exact hB) hS1 hl
theorem G_cVNV (g : Gd p s m args meth c w nL cc own) {pc idx a maxL : Nat} {L : List (Nat × Value)} {st As : List Value} {M : Mem} {y : MethodName} {b : ByteArray} {rm : Room} {host : String} {q ci N : Nat} {T : u_T} {f : Option (Mem)} {o : Mem → Option ρ} (cw : CVN own idx host y b maxL none a) (hM : Ct QV l y b maxL none rm w (.ref (wad w q) :: As) M f) (hq : q ∈ wL w) (hk : (wZ w q).1 = ci) (hc : vwCl[ci]? = some (y.cls, T, N)) (hci : ci < 20) (hn : As.length = a) (hR : rm.frames + 1 ≤ R.frames ∧ 8 + (maxL + 11) + rm.locals ≤ R.locals) (hC : k + rm.cells ≤ R.cells ∧ n + rm.slots ≤ R.slots) (hs : (st.map fun v => v.category).sum ≤ 8) (d : decode cc pc = .ok (.invokevirtual idx, 3)) (kk : ∀ (M1 : Mem), Go p l e R s m args below meth c w nL (k + rm.cells) (n + rm.slots) Qf (o M1) (pc + 3) L (st) M1) : Go p l e R s m args below meth c w nL k n Qf (bndM f o) pc L (As.reverse ++ .ref (wad w q) :: st) M := by
  intro r hr H locs ls hP hS hl
  cases f with
  | none => cases hr
  | some v =>
    obtain ⟨j, -, hj⟩ := wW_get (M := M) hq
    rw [cellE_obj hk hci] at hj
    refine va_callv (va_runVN (As := As) (rest := st) ⟨g.1, g.2.1, g.2.2.1, g.2.2.2.1, g.2.2.2.2.1⟩ (hM v rfl) ⟨va_cnB a g.2.2.2.2.1 (TT_gi cw.2.2.2.2.1) rfl rfl rfl (g.2.2.2.2.2.2.2.1.2.2.1 _ cw.1) (g.2.2.2.2.1 _ cw.2.2.2.1) cw.2.2.2.2.2 hR, g.2.2.2.2.1 _ cw.2.1, g.2.2.2.2.1 _ cw.2.2.1⟩ ⟨Wd.blind, va_recv g.2.2.2.2.2.1 hP hc hj, fun U hU hW => ⟨rfl, by rw [hU]; exact hP, va_K.moved hW.alike g.2.2.2.2.2.1, g.2.2.2.2.2.2.2.2.1, by rw [hU]; exact Nat.le_trans g.2.2.2.2.2.2.2.2.2 hS.1, Sx.step g.2.2.2.2.2.2.2.1 hS hU hW⟩⟩ rfl hn hl.1 rfl (lv_room hs) d hC) hS (fun _ _ h => h) (fun _ h => h) (fun u t H1 locs1 ht hvm hw hB hz hkp hS1 => ?_)
    exact kk v r hr H1 locs1 ls (by rw [← ht]; exact hB) hS1 hl
theorem G_cSNV (g : Gd p s m args meth c w nL cc own) {pc idx a maxL : Nat} {L : List (Nat × Value)} {st As : List Value} {M : Mem} {y : MethodName} {b : ByteArray} {rm : Room} {host : String} {f : Option (Mem)} {o : Mem → Option ρ} (cw : CSN own idx host y b maxL none a) (hM : Ct QV l y b maxL none rm w (As) M f) (hn : As.length = a) (hR : rm.frames + 1 ≤ R.frames ∧ 8 + (maxL + 11) + rm.locals ≤ R.locals) (hC : k + rm.cells ≤ R.cells ∧ n + rm.slots ≤ R.slots) (hs : (st.map fun v => v.category).sum ≤ 8) (d : decode cc pc = .ok (.invokestatic idx, 3)) (kk : ∀ (M1 : Mem), Go p l e R s m args below meth c w nL (k + rm.cells) (n + rm.slots) Qf (o M1) (pc + 3) L (st) M1) : Go p l e R s m args below meth c w nL k n Qf (bndM f o) pc L (As.reverse ++ st) M := by
  intro r hr H locs ls hP hS hl
  cases f with
  | none => cases hr
  | some v =>
    refine va_callv (va_runSN (As := As) (rest := st) ⟨g.1, g.2.1, g.2.2.1, g.2.2.2.1, g.2.2.2.2.1⟩ (hM v rfl) ⟨va_cnB a g.2.2.2.2.1 (TT_gi cw.2.2.2.1) rfl rfl rfl (g.2.2.2.2.2.2.2.1.2.2.1 _ cw.1) (g.2.2.2.2.1 _ cw.2.2.1) cw.2.2.2.2 hR, g.2.2.2.2.1 _ cw.2.1, trivial⟩ ⟨Wd.blind, fun U hU hW => ⟨rfl, by rw [hU]; exact hP, va_K.moved hW.alike g.2.2.2.2.2.1, g.2.2.2.2.2.2.2.2.1, by rw [hU]; exact Nat.le_trans g.2.2.2.2.2.2.2.2.2 hS.1, Sx.step g.2.2.2.2.2.2.2.1 hS hU hW⟩⟩ rfl hn hl.1 rfl (lv_room hs) d hC) hS (fun _ _ h => h) (fun _ h => h) (fun u t H1 locs1 ht hvm hw hB hz hkp hS1 => ?_)
    exact kk v r hr H1 locs1 ls (by rw [← ht]; exact hB) hS1 hl
theorem G_cVR (g : Gd p s m args meth c w nL cc own) {pc idx a maxL : Nat} {L : List (Nat × Value)} {st As : List Value} {M : Mem} {y : MethodName} {b : ByteArray} {rm : Room} {q ci N : Nat} {T : u_T} {rn : String} {f : Option (Option Nat × Mem)} {o : Option Nat → Mem → Option ρ} (cw : CV own idx y b maxL (some (.object rn)) a) (hM : Ct QR l y b maxL (some (.object rn)) rm w (.ref (wad w q) :: As) M f) (hq : q ∈ wL w) (hk : (wZ w q).1 = ci) (hc : vwCl[ci]? = some (y.cls, T, N)) (hci : ci < 20) (hn : As.length = a) (hR : rm.frames + 1 ≤ R.frames ∧ 8 + (maxL + 11) + rm.locals ≤ R.locals) (hC : k + rm.cells ≤ R.cells ∧ n + rm.slots ≤ R.slots) (hs : (st.map fun v => v.category).sum ≤ 8) (d : decode cc pc = .ok (.invokevirtual idx, 3)) (kk : ∀ (x : Option Nat) (M1 : Mem), Go p l e R s m args below meth c w nL (k + rm.cells) (n + rm.slots) Qf (o x M1) (pc + 3) L (va_rf (x.map (wad w)) :: st) M1) : Go p l e R s m args below meth c w nL k n Qf (bnd f o) pc L (As.reverse ++ .ref (wad w q) :: st) M := by
  intro r hr H locs ls hP hS hl
  cases f with
  | none => cases hr
  | some v =>
    obtain ⟨j, -, hj⟩ := wW_get (M := M) hq
    rw [cellE_obj hk hci] at hj
    refine va_callq (va_runV (As := As) (rest := st) ⟨g.1, g.2.1, g.2.2.1, g.2.2.2.1, g.2.2.2.2.1⟩ (hM v rfl) ⟨callB_of a g.2.2.2.2.1 (TT_gi cw.2.2.2.2.1) rfl rfl rfl (g.2.2.2.2.1 _ cw.2.2.2.1) (g.2.2.2.2.1 _ cw.1) cw.2.2.2.2.2 hR, g.2.2.2.2.1 _ cw.2.1, g.2.2.2.2.1 _ cw.2.2.1⟩ ⟨Wd.blind, va_recv g.2.2.2.2.2.1 hP hc hj, fun U hU hW => ⟨rfl, by rw [hU]; exact hP, va_K.moved hW.alike g.2.2.2.2.2.1, g.2.2.2.2.2.2.2.2.1, by rw [hU]; exact Nat.le_trans g.2.2.2.2.2.2.2.2.2 hS.1, Sx.step g.2.2.2.2.2.2.2.1 hS hU hW⟩⟩ rfl hn hl.1 rfl (lv_room hs) d hC) hS (fun _ _ h => h) (fun _ h => h) (fun x u t H1 locs1 ht hvm hw hB hz hkp hS1 => ?_)
    have hw : x = v.1.map (wad w) := hw
    subst hw
    exact kk v.1 v.2 r hr H1 locs1 ls (by rw [← ht]; exact hB) hS1 hl
theorem G_cSR (g : Gd p s m args meth c w nL cc own) {pc idx a maxL : Nat} {L : List (Nat × Value)} {st As : List Value} {M : Mem} {y : MethodName} {b : ByteArray} {rm : Room} {rn : String} {f : Option (Option Nat × Mem)} {o : Option Nat → Mem → Option ρ} (cw : CS own idx y b maxL (some (.object rn)) a) (hM : Ct QR l y b maxL (some (.object rn)) rm w (As) M f) (hn : As.length = a) (hR : rm.frames + 1 ≤ R.frames ∧ 8 + (maxL + 11) + rm.locals ≤ R.locals) (hC : k + rm.cells ≤ R.cells ∧ n + rm.slots ≤ R.slots) (hs : (st.map fun v => v.category).sum ≤ 8) (d : decode cc pc = .ok (.invokestatic idx, 3)) (kk : ∀ (x : Option Nat) (M1 : Mem), Go p l e R s m args below meth c w nL (k + rm.cells) (n + rm.slots) Qf (o x M1) (pc + 3) L (va_rf (x.map (wad w)) :: st) M1) : Go p l e R s m args below meth c w nL k n Qf (bnd f o) pc L (As.reverse ++ st) M := by
  intro r hr H locs ls hP hS hl
  cases f with
  | none => cases hr
  | some v =>
    refine va_callq (va_runS (As := As) (rest := st) ⟨g.1, g.2.1, g.2.2.1, g.2.2.2.1, g.2.2.2.2.1⟩ (hM v rfl) ⟨callB_of a g.2.2.2.2.1 (TT_gi cw.2.2.2.1) rfl rfl rfl (g.2.2.2.2.1 _ cw.2.2.1) (g.2.2.2.2.1 _ cw.1) cw.2.2.2.2 hR, g.2.2.2.2.1 _ cw.2.1⟩ ⟨Wd.blind, fun U hU hW => ⟨rfl, by rw [hU]; exact hP, va_K.moved hW.alike g.2.2.2.2.2.1, g.2.2.2.2.2.2.2.2.1, by rw [hU]; exact Nat.le_trans g.2.2.2.2.2.2.2.2.2 hS.1, Sx.step g.2.2.2.2.2.2.2.1 hS hU hW⟩⟩ rfl hn hl.1 rfl (lv_room hs) d hC) hS (fun _ _ h => h) (fun _ h => h) (fun x u t H1 locs1 ht hvm hw hB hz hkp hS1 => ?_)
    have hw : x = v.1.map (wad w) := hw
    subst hw
    exact kk v.1 v.2 r hr H1 locs1 ls (by rw [← ht]; exact hB) hS1 hl
theorem G_cVNR (g : Gd p s m args meth c w nL cc own) {pc idx a maxL : Nat} {L : List (Nat × Value)} {st As : List Value} {M : Mem} {y : MethodName} {b : ByteArray} {rm : Room} {host : String} {q ci N : Nat} {T : u_T} {rn : String} {f : Option (Option Nat × Mem)} {o : Option Nat → Mem → Option ρ} (cw : CVN own idx host y b maxL (some (.object rn)) a) (hM : Ct QR l y b maxL (some (.object rn)) rm w (.ref (wad w q) :: As) M f) (hq : q ∈ wL w) (hk : (wZ w q).1 = ci) (hc : vwCl[ci]? = some (y.cls, T, N)) (hci : ci < 20) (hn : As.length = a) (hR : rm.frames + 1 ≤ R.frames ∧ 8 + (maxL + 11) + rm.locals ≤ R.locals) (hC : k + rm.cells ≤ R.cells ∧ n + rm.slots ≤ R.slots) (hs : (st.map fun v => v.category).sum ≤ 8) (d : decode cc pc = .ok (.invokevirtual idx, 3)) (kk : ∀ (x : Option Nat) (M1 : Mem), Go p l e R s m args below meth c w nL (k + rm.cells) (n + rm.slots) Qf (o x M1) (pc + 3) L (va_rf (x.map (wad w)) :: st) M1) : Go p l e R s m args below meth c w nL k n Qf (bnd f o) pc L (As.reverse ++ .ref (wad w q) :: st) M := by
  intro r hr H locs ls hP hS hl
  cases f with
  | none => cases hr
  | some v =>
    obtain ⟨j, -, hj⟩ := wW_get (M := M) hq
    rw [cellE_obj hk hci] at hj
    refine va_callq (va_runVN (As := As) (rest := st) ⟨g.1, g.2.1, g.2.2.1, g.2.2.2.1, g.2.2.2.2.1⟩ (hM v rfl) ⟨va_cnB a g.2.2.2.2.1 (TT_gi cw.2.2.2.2.1) rfl rfl rfl (g.2.2.2.2.2.2.2.1.2.2.1 _ cw.1) (g.2.2.2.2.1 _ cw.2.2.2.1) cw.2.2.2.2.2 hR, g.2.2.2.2.1 _ cw.2.1, g.2.2.2.2.1 _ cw.2.2.1⟩ ⟨Wd.blind, va_recv g.2.2.2.2.2.1 hP hc hj, fun U hU hW => ⟨rfl, by rw [hU]; exact hP, va_K.moved hW.alike g.2.2.2.2.2.1, g.2.2.2.2.2.2.2.2.1, by rw [hU]; exact Nat.le_trans g.2.2.2.2.2.2.2.2.2 hS.1, Sx.step g.2.2.2.2.2.2.2.1 hS hU hW⟩⟩ rfl hn hl.1 rfl (lv_room hs) d hC) hS (fun _ _ h => h) (fun _ h => h) (fun x u t H1 locs1 ht hvm hw hB hz hkp hS1 => ?_)
    have hw : x = v.1.map (wad w) := hw
    subst hw
    exact kk v.1 v.2 r hr H1 locs1 ls (by rw [← ht]; exact hB) hS1 hl
theorem G_cSNR (g : Gd p s m args meth c w nL cc own) {pc idx a maxL : Nat} {L : List (Nat × Value)} {st As : List Value} {M : Mem} {y : MethodName} {b : ByteArray} {rm : Room} {host : String} {rn : String} {f : Option (Option Nat × Mem)} {o : Option Nat → Mem → Option ρ} (cw : CSN own idx host y b maxL (some (.object rn)) a) (hM : Ct QR l y b maxL (some (.object rn)) rm w (As) M f) (hn : As.length = a) (hR : rm.frames + 1 ≤ R.frames ∧ 8 + (maxL + 11) + rm.locals ≤ R.locals) (hC : k + rm.cells ≤ R.cells ∧ n + rm.slots ≤ R.slots) (hs : (st.map fun v => v.category).sum ≤ 8) (d : decode cc pc = .ok (.invokestatic idx, 3)) (kk : ∀ (x : Option Nat) (M1 : Mem), Go p l e R s m args below meth c w nL (k + rm.cells) (n + rm.slots) Qf (o x M1) (pc + 3) L (va_rf (x.map (wad w)) :: st) M1) : Go p l e R s m args below meth c w nL k n Qf (bnd f o) pc L (As.reverse ++ st) M := by
  intro r hr H locs ls hP hS hl
  cases f with
  | none => cases hr
  | some v =>
    refine va_callq (va_runSN (As := As) (rest := st) ⟨g.1, g.2.1, g.2.2.1, g.2.2.2.1, g.2.2.2.2.1⟩ (hM v rfl) ⟨va_cnB a g.2.2.2.2.1 (TT_gi cw.2.2.2.1) rfl rfl rfl (g.2.2.2.2.2.2.2.1.2.2.1 _ cw.1) (g.2.2.2.2.1 _ cw.2.2.1) cw.2.2.2.2 hR, g.2.2.2.2.1 _ cw.2.1, trivial⟩ ⟨Wd.blind, fun U hU hW => ⟨rfl, by rw [hU]; exact hP, va_K.moved hW.alike g.2.2.2.2.2.1, g.2.2.2.2.2.2.2.2.1, by rw [hU]; exact Nat.le_trans g.2.2.2.2.2.2.2.2.2 hS.1, Sx.step g.2.2.2.2.2.2.2.1 hS hU hW⟩⟩ rfl hn hl.1 rfl (lv_room hs) d hC) hS (fun _ _ h => h) (fun _ h => h) (fun x u t H1 locs1 ht hvm hw hB hz hkp hS1 => ?_)
    have hw : x = v.1.map (wad w) := hw
    subst hw
    exact kk v.1 v.2 r hr H1 locs1 ls (by rw [← ht]; exact hB) hS1 hl
theorem G_cVD (g : Gd p s m args meth c w nL cc own) {pc idx a maxL : Nat} {L : List (Nat × Value)} {st As : List Value} {M : Mem} {y : MethodName} {b : ByteArray} {rm : Room} {q ci N : Nat} {T : u_T} {f : Option (UInt64 × Mem)} {o : UInt64 → Mem → Option ρ} (cw : CV own idx y b maxL (some .double) a) (hM : Ct QD l y b maxL (some .double) rm w (.ref (wad w q) :: As) M f) (hq : q ∈ wL w) (hk : (wZ w q).1 = ci) (hc : vwCl[ci]? = some (y.cls, T, N)) (hci : ci < 20) (hn : As.length = a) (hR : rm.frames + 1 ≤ R.frames ∧ 8 + (maxL + 11) + rm.locals ≤ R.locals) (hC : k + rm.cells ≤ R.cells ∧ n + rm.slots ≤ R.slots) (hs : (st.map fun v => v.category).sum ≤ 8) (d : decode cc pc = .ok (.invokevirtual idx, 3)) (kk : ∀ (x : UInt64) (M1 : Mem), Go p l e R s m args below meth c w nL (k + rm.cells) (n + rm.slots) Qf (o x M1) (pc + 3) L (.double x :: st) M1) : Go p l e R s m args below meth c w nL k n Qf (bnd f o) pc L (As.reverse ++ .ref (wad w q) :: st) M := by
  intro r hr H locs ls hP hS hl
  cases f with
  | none => cases hr
  | some v =>
    obtain ⟨j, -, hj⟩ := wW_get (M := M) hq
    rw [cellE_obj hk hci] at hj
    refine va_calld (va_runV (As := As) (rest := st) ⟨g.1, g.2.1, g.2.2.1, g.2.2.2.1, g.2.2.2.2.1⟩ (hM v rfl) ⟨callB_of a g.2.2.2.2.1 (TT_gi cw.2.2.2.2.1) rfl rfl rfl (g.2.2.2.2.1 _ cw.2.2.2.1) (g.2.2.2.2.1 _ cw.1) cw.2.2.2.2.2 hR, g.2.2.2.2.1 _ cw.2.1, g.2.2.2.2.1 _ cw.2.2.1⟩ ⟨Wd.blind, va_recv g.2.2.2.2.2.1 hP hc hj, fun U hU hW => ⟨rfl, by rw [hU]; exact hP, va_K.moved hW.alike g.2.2.2.2.2.1, g.2.2.2.2.2.2.2.2.1, by rw [hU]; exact Nat.le_trans g.2.2.2.2.2.2.2.2.2 hS.1, Sx.step g.2.2.2.2.2.2.2.1 hS hU hW⟩⟩ rfl hn hl.1 rfl (lv_room hs) d hC) hS (fun _ _ h => h) (fun _ h => h) (fun x u t H1 locs1 ht hvm hw hB hz hkp hS1 => ?_)
    have hw : x = v.1 := hw
    subst hw
    exact kk v.1 v.2 r hr H1 locs1 ls (by rw [← ht]; exact hB) hS1 hl
theorem G_cSD (g : Gd p s m args meth c w nL cc own) {pc idx a maxL : Nat} {L : List (Nat × Value)} {st As : List Value} {M : Mem} {y : MethodName} {b : ByteArray} {rm : Room} {f : Option (UInt64 × Mem)} {o : UInt64 → Mem → Option ρ} (cw : CS own idx y b maxL (some .double) a) (hM : Ct QD l y b maxL (some .double) rm w (As) M f) (hn : As.length = a) (hR : rm.frames + 1 ≤ R.frames ∧ 8 + (maxL + 11) + rm.locals ≤ R.locals) (hC : k + rm.cells ≤ R.cells ∧ n + rm.slots ≤ R.slots) (hs : (st.map fun v => v.category).sum ≤ 8) (d : decode cc pc = .ok (.invokestatic idx, 3)) (kk : ∀ (x : UInt64) (M1 : Mem), Go p l e R s m args below meth c w nL (k + rm.cells) (n + rm.slots) Qf (o x M1) (pc + 3) L (.double x :: st) M1) : Go p l e R s m args below meth c w nL k n Qf (bnd f o) pc L (As.reverse ++ st) M := by
  intro r hr H locs ls hP hS hl
  cases f with
  | none => cases hr
  | some v =>
    refine va_calld (va_runS (As := As) (rest := st) ⟨g.1, g.2.1, g.2.2.1, g.2.2.2.1, g.2.2.2.2.1⟩ (hM v rfl) ⟨callB_of a g.2.2.2.2.1 (TT_gi cw.2.2.2.1) rfl rfl rfl (g.2.2.2.2.1 _ cw.2.2.1) (g.2.2.2.2.1 _ cw.1) cw.2.2.2.2 hR, g.2.2.2.2.1 _ cw.2.1⟩ ⟨Wd.blind, fun U hU hW => ⟨rfl, by rw [hU]; exact hP, va_K.moved hW.alike g.2.2.2.2.2.1, g.2.2.2.2.2.2.2.2.1, by rw [hU]; exact Nat.le_trans g.2.2.2.2.2.2.2.2.2 hS.1, Sx.step g.2.2.2.2.2.2.2.1 hS hU hW⟩⟩ rfl hn hl.1 rfl (lv_room hs) d hC) hS (fun _ _ h => h) (fun _ h => h) (fun x u t H1 locs1 ht hvm hw hB hz hkp hS1 => ?_)
    have hw : x = v.1 := hw
    subst hw
    exact kk v.1 v.2 r hr H1 locs1 ls (by rw [← ht]; exact hB) hS1 hl
theorem G_cVND (g : Gd p s m args meth c w nL cc own) {pc idx a maxL : Nat} {L : List (Nat × Value)} {st As : List Value} {M : Mem} {y : MethodName} {b : ByteArray} {rm : Room} {host : String} {q ci N : Nat} {T : u_T} {f : Option (UInt64 × Mem)} {o : UInt64 → Mem → Option ρ} (cw : CVN own idx host y b maxL (some .double) a) (hM : Ct QD l y b maxL (some .double) rm w (.ref (wad w q) :: As) M f) (hq : q ∈ wL w) (hk : (wZ w q).1 = ci) (hc : vwCl[ci]? = some (y.cls, T, N)) (hci : ci < 20) (hn : As.length = a) (hR : rm.frames + 1 ≤ R.frames ∧ 8 + (maxL + 11) + rm.locals ≤ R.locals) (hC : k + rm.cells ≤ R.cells ∧ n + rm.slots ≤ R.slots) (hs : (st.map fun v => v.category).sum ≤ 8) (d : decode cc pc = .ok (.invokevirtual idx, 3)) (kk : ∀ (x : UInt64) (M1 : Mem), Go p l e R s m args below meth c w nL (k + rm.cells) (n + rm.slots) Qf (o x M1) (pc + 3) L (.double x :: st) M1) : Go p l e R s m args below meth c w nL k n Qf (bnd f o) pc L (As.reverse ++ .ref (wad w q) :: st) M := by
  intro r hr H locs ls hP hS hl
  cases f with
  | none => cases hr
  | some v =>
    obtain ⟨j, -, hj⟩ := wW_get (M := M) hq
    rw [cellE_obj hk hci] at hj
    refine va_calld (va_runVN (As := As) (rest := st) ⟨g.1, g.2.1, g.2.2.1, g.2.2.2.1, g.2.2.2.2.1⟩ (hM v rfl) ⟨va_cnB a g.2.2.2.2.1 (TT_gi cw.2.2.2.2.1) rfl rfl rfl (g.2.2.2.2.2.2.2.1.2.2.1 _ cw.1) (g.2.2.2.2.1 _ cw.2.2.2.1) cw.2.2.2.2.2 hR, g.2.2.2.2.1 _ cw.2.1, g.2.2.2.2.1 _ cw.2.2.1⟩ ⟨Wd.blind, va_recv g.2.2.2.2.2.1 hP hc hj, fun U hU hW => ⟨rfl, by rw [hU]; exact hP, va_K.moved hW.alike g.2.2.2.2.2.1, g.2.2.2.2.2.2.2.2.1, by rw [hU]; exact Nat.le_trans g.2.2.2.2.2.2.2.2.2 hS.1, Sx.step g.2.2.2.2.2.2.2.1 hS hU hW⟩⟩ rfl hn hl.1 rfl (lv_room hs) d hC) hS (fun _ _ h => h) (fun _ h => h) (fun x u t H1 locs1 ht hvm hw hB hz hkp hS1 => ?_)
    have hw : x = v.1 := hw
    subst hw
    exact kk v.1 v.2 r hr H1 locs1 ls (by rw [← ht]; exact hB) hS1 hl
theorem G_cSND (g : Gd p s m args meth c w nL cc own) {pc idx a maxL : Nat} {L : List (Nat × Value)} {st As : List Value} {M : Mem} {y : MethodName} {b : ByteArray} {rm : Room} {host : String} {f : Option (UInt64 × Mem)} {o : UInt64 → Mem → Option ρ} (cw : CSN own idx host y b maxL (some .double) a) (hM : Ct QD l y b maxL (some .double) rm w (As) M f) (hn : As.length = a) (hR : rm.frames + 1 ≤ R.frames ∧ 8 + (maxL + 11) + rm.locals ≤ R.locals) (hC : k + rm.cells ≤ R.cells ∧ n + rm.slots ≤ R.slots) (hs : (st.map fun v => v.category).sum ≤ 8) (d : decode cc pc = .ok (.invokestatic idx, 3)) (kk : ∀ (x : UInt64) (M1 : Mem), Go p l e R s m args below meth c w nL (k + rm.cells) (n + rm.slots) Qf (o x M1) (pc + 3) L (.double x :: st) M1) : Go p l e R s m args below meth c w nL k n Qf (bnd f o) pc L (As.reverse ++ st) M := by
  intro r hr H locs ls hP hS hl
  cases f with
  | none => cases hr
  | some v =>
    refine va_calld (va_runSN (As := As) (rest := st) ⟨g.1, g.2.1, g.2.2.1, g.2.2.2.1, g.2.2.2.2.1⟩ (hM v rfl) ⟨va_cnB a g.2.2.2.2.1 (TT_gi cw.2.2.2.1) rfl rfl rfl (g.2.2.2.2.2.2.2.1.2.2.1 _ cw.1) (g.2.2.2.2.1 _ cw.2.2.1) cw.2.2.2.2 hR, g.2.2.2.2.1 _ cw.2.1, trivial⟩ ⟨Wd.blind, fun U hU hW => ⟨rfl, by rw [hU]; exact hP, va_K.moved hW.alike g.2.2.2.2.2.1, g.2.2.2.2.2.2.2.2.1, by rw [hU]; exact Nat.le_trans g.2.2.2.2.2.2.2.2.2 hS.1, Sx.step g.2.2.2.2.2.2.2.1 hS hU hW⟩⟩ rfl hn hl.1 rfl (lv_room hs) d hC) hS (fun _ _ h => h) (fun _ h => h) (fun x u t H1 locs1 ht hvm hw hB hz hkp hS1 => ?_)
    have hw : x = v.1 := hw
    subst hw
    exact kk v.1 v.2 r hr H1 locs1 ls (by rw [← ht]; exact hB) hS1 hl
theorem G_cVF (g : Gd p s m args meth c w nL cc own) {pc idx a maxL : Nat} {L : List (Nat × Value)} {st As : List Value} {M : Mem} {y : MethodName} {b : ByteArray} {rm : Room} {q ci N : Nat} {T : u_T} {f : Option (UInt32 × Mem)} {o : UInt32 → Mem → Option ρ} (cw : CV own idx y b maxL (some .float) a) (hM : Ct QF l y b maxL (some .float) rm w (.ref (wad w q) :: As) M f) (hq : q ∈ wL w) (hk : (wZ w q).1 = ci) (hc : vwCl[ci]? = some (y.cls, T, N)) (hci : ci < 20) (hn : As.length = a) (hR : rm.frames + 1 ≤ R.frames ∧ 8 + (maxL + 11) + rm.locals ≤ R.locals) (hC : k + rm.cells ≤ R.cells ∧ n + rm.slots ≤ R.slots) (hs : (st.map fun v => v.category).sum ≤ 8) (d : decode cc pc = .ok (.invokevirtual idx, 3)) (kk : ∀ (x : UInt32) (M1 : Mem), Go p l e R s m args below meth c w nL (k + rm.cells) (n + rm.slots) Qf (o x M1) (pc + 3) L (.float x :: st) M1) : Go p l e R s m args below meth c w nL k n Qf (bnd f o) pc L (As.reverse ++ .ref (wad w q) :: st) M := by
  intro r hr H locs ls hP hS hl
  cases f with
  | none => cases hr
  | some v =>
    obtain ⟨j, -, hj⟩ := wW_get (M := M) hq
    rw [cellE_obj hk hci] at hj
    refine va_callf (va_runV (As := As) (rest := st) ⟨g.1, g.2.1, g.2.2.1, g.2.2.2.1, g.2.2.2.2.1⟩ (hM v rfl) ⟨callB_of a g.2.2.2.2.1 (TT_gi cw.2.2.2.2.1) rfl rfl rfl (g.2.2.2.2.1 _ cw.2.2.2.1) (g.2.2.2.2.1 _ cw.1) cw.2.2.2.2.2 hR, g.2.2.2.2.1 _ cw.2.1, g.2.2.2.2.1 _ cw.2.2.1⟩ ⟨Wd.blind, va_recv g.2.2.2.2.2.1 hP hc hj, fun U hU hW => ⟨rfl, by rw [hU]; exact hP, va_K.moved hW.alike g.2.2.2.2.2.1, g.2.2.2.2.2.2.2.2.1, by rw [hU]; exact Nat.le_trans g.2.2.2.2.2.2.2.2.2 hS.1, Sx.step g.2.2.2.2.2.2.2.1 hS hU hW⟩⟩ rfl hn hl.1 rfl (lv_room hs) d hC) hS (fun _ _ h => h) (fun _ h => h) (fun x u t H1 locs1 ht hvm hw hB hz hkp hS1 => ?_)
    have hw : x = v.1 := hw
    subst hw
    exact kk v.1 v.2 r hr H1 locs1 ls (by rw [← ht]; exact hB) hS1 hl
theorem G_cSF (g : Gd p s m args meth c w nL cc own) {pc idx a maxL : Nat} {L : List (Nat × Value)} {st As : List Value} {M : Mem} {y : MethodName} {b : ByteArray} {rm : Room} {f : Option (UInt32 × Mem)} {o : UInt32 → Mem → Option ρ} (cw : CS own idx y b maxL (some .float) a) (hM : Ct QF l y b maxL (some .float) rm w (As) M f) (hn : As.length = a) (hR : rm.frames + 1 ≤ R.frames ∧ 8 + (maxL + 11) + rm.locals ≤ R.locals) (hC : k + rm.cells ≤ R.cells ∧ n + rm.slots ≤ R.slots) (hs : (st.map fun v => v.category).sum ≤ 8) (d : decode cc pc = .ok (.invokestatic idx, 3)) (kk : ∀ (x : UInt32) (M1 : Mem), Go p l e R s m args below meth c w nL (k + rm.cells) (n + rm.slots) Qf (o x M1) (pc + 3) L (.float x :: st) M1) : Go p l e R s m args below meth c w nL k n Qf (bnd f o) pc L (As.reverse ++ st) M := by
  intro r hr H locs ls hP hS hl
  cases f with
  | none => cases hr
  | some v =>
    refine va_callf (va_runS (As := As) (rest := st) ⟨g.1, g.2.1, g.2.2.1, g.2.2.2.1, g.2.2.2.2.1⟩ (hM v rfl) ⟨callB_of a g.2.2.2.2.1 (TT_gi cw.2.2.2.1) rfl rfl rfl (g.2.2.2.2.1 _ cw.2.2.1) (g.2.2.2.2.1 _ cw.1) cw.2.2.2.2 hR, g.2.2.2.2.1 _ cw.2.1⟩ ⟨Wd.blind, fun U hU hW => ⟨rfl, by rw [hU]; exact hP, va_K.moved hW.alike g.2.2.2.2.2.1, g.2.2.2.2.2.2.2.2.1, by rw [hU]; exact Nat.le_trans g.2.2.2.2.2.2.2.2.2 hS.1, Sx.step g.2.2.2.2.2.2.2.1 hS hU hW⟩⟩ rfl hn hl.1 rfl (lv_room hs) d hC) hS (fun _ _ h => h) (fun _ h => h) (fun x u t H1 locs1 ht hvm hw hB hz hkp hS1 => ?_)
    have hw : x = v.1 := hw
    subst hw
    exact kk v.1 v.2 r hr H1 locs1 ls (by rw [← ht]; exact hB) hS1 hl
theorem G_cVNF (g : Gd p s m args meth c w nL cc own) {pc idx a maxL : Nat} {L : List (Nat × Value)} {st As : List Value} {M : Mem} {y : MethodName} {b : ByteArray} {rm : Room} {host : String} {q ci N : Nat} {T : u_T} {f : Option (UInt32 × Mem)} {o : UInt32 → Mem → Option ρ} (cw : CVN own idx host y b maxL (some .float) a) (hM : Ct QF l y b maxL (some .float) rm w (.ref (wad w q) :: As) M f) (hq : q ∈ wL w) (hk : (wZ w q).1 = ci) (hc : vwCl[ci]? = some (y.cls, T, N)) (hci : ci < 20) (hn : As.length = a) (hR : rm.frames + 1 ≤ R.frames ∧ 8 + (maxL + 11) + rm.locals ≤ R.locals) (hC : k + rm.cells ≤ R.cells ∧ n + rm.slots ≤ R.slots) (hs : (st.map fun v => v.category).sum ≤ 8) (d : decode cc pc = .ok (.invokevirtual idx, 3)) (kk : ∀ (x : UInt32) (M1 : Mem), Go p l e R s m args below meth c w nL (k + rm.cells) (n + rm.slots) Qf (o x M1) (pc + 3) L (.float x :: st) M1) : Go p l e R s m args below meth c w nL k n Qf (bnd f o) pc L (As.reverse ++ .ref (wad w q) :: st) M := by
  intro r hr H locs ls hP hS hl
  cases f with
  | none => cases hr
  | some v =>
    obtain ⟨j, -, hj⟩ := wW_get (M := M) hq
    rw [cellE_obj hk hci] at hj
    refine va_callf (va_runVN (As := As) (rest := st) ⟨g.1, g.2.1, g.2.2.1, g.2.2.2.1, g.2.2.2.2.1⟩ (hM v rfl) ⟨va_cnB a g.2.2.2.2.1 (TT_gi cw.2.2.2.2.1) rfl rfl rfl (g.2.2.2.2.2.2.2.1.2.2.1 _ cw.1) (g.2.2.2.2.1 _ cw.2.2.2.1) cw.2.2.2.2.2 hR, g.2.2.2.2.1 _ cw.2.1, g.2.2.2.2.1 _ cw.2.2.1⟩ ⟨Wd.blind, va_recv g.2.2.2.2.2.1 hP hc hj, fun U hU hW => ⟨rfl, by rw [hU]; exact hP, va_K.moved hW.alike g.2.2.2.2.2.1, g.2.2.2.2.2.2.2.2.1, by rw [hU]; exact Nat.le_trans g.2.2.2.2.2.2.2.2.2 hS.1, Sx.step g.2.2.2.2.2.2.2.1 hS hU hW⟩⟩ rfl hn hl.1 rfl (lv_room hs) d hC) hS (fun _ _ h => h) (fun _ h => h) (fun x u t H1 locs1 ht hvm hw hB hz hkp hS1 => ?_)
    have hw : x = v.1 := hw
    subst hw
    exact kk v.1 v.2 r hr H1 locs1 ls (by rw [← ht]; exact hB) hS1 hl
theorem G_cSNF (g : Gd p s m args meth c w nL cc own) {pc idx a maxL : Nat} {L : List (Nat × Value)} {st As : List Value} {M : Mem} {y : MethodName} {b : ByteArray} {rm : Room} {host : String} {f : Option (UInt32 × Mem)} {o : UInt32 → Mem → Option ρ} (cw : CSN own idx host y b maxL (some .float) a) (hM : Ct QF l y b maxL (some .float) rm w (As) M f) (hn : As.length = a) (hR : rm.frames + 1 ≤ R.frames ∧ 8 + (maxL + 11) + rm.locals ≤ R.locals) (hC : k + rm.cells ≤ R.cells ∧ n + rm.slots ≤ R.slots) (hs : (st.map fun v => v.category).sum ≤ 8) (d : decode cc pc = .ok (.invokestatic idx, 3)) (kk : ∀ (x : UInt32) (M1 : Mem), Go p l e R s m args below meth c w nL (k + rm.cells) (n + rm.slots) Qf (o x M1) (pc + 3) L (.float x :: st) M1) : Go p l e R s m args below meth c w nL k n Qf (bnd f o) pc L (As.reverse ++ st) M := by
  intro r hr H locs ls hP hS hl
  cases f with
  | none => cases hr
  | some v =>
    refine va_callf (va_runSN (As := As) (rest := st) ⟨g.1, g.2.1, g.2.2.1, g.2.2.2.1, g.2.2.2.2.1⟩ (hM v rfl) ⟨va_cnB a g.2.2.2.2.1 (TT_gi cw.2.2.2.1) rfl rfl rfl (g.2.2.2.2.2.2.2.1.2.2.1 _ cw.1) (g.2.2.2.2.1 _ cw.2.2.1) cw.2.2.2.2 hR, g.2.2.2.2.1 _ cw.2.1, trivial⟩ ⟨Wd.blind, fun U hU hW => ⟨rfl, by rw [hU]; exact hP, va_K.moved hW.alike g.2.2.2.2.2.1, g.2.2.2.2.2.2.2.2.1, by rw [hU]; exact Nat.le_trans g.2.2.2.2.2.2.2.2.2 hS.1, Sx.step g.2.2.2.2.2.2.2.1 hS hU hW⟩⟩ rfl hn hl.1 rfl (lv_room hs) d hC) hS (fun _ _ h => h) (fun _ h => h) (fun x u t H1 locs1 ht hvm hw hB hz hkp hS1 => ?_)
    have hw : x = v.1 := hw
    subst hw
    exact kk v.1 v.2 r hr H1 locs1 ls (by rw [← ht]; exact hB) hS1 hl
theorem G_cStr (g : Gd p s m args meth c w nL cc own) {pc idx a maxL i : Nat} {L : List (Nat × Value)} {st As : List Value} {M : Mem} {y : MethodName} {b : ByteArray} {rm : Room} {ret : Option FieldType} {f : Option (Int32 × Mem)} {o : Int32 → Mem → Option ρ} (cw : CV own idx y b maxL ret a) (hy : y.cls = "java/lang/String") (hM : Ct QI l y b maxL ret rm w (.ref (wad w (1000 + i)) :: As) M f) (hi : i < 20) (hn : As.length = a) (hR : rm.frames + 1 ≤ R.frames ∧ 8 + (maxL + 11) + rm.locals ≤ R.locals) (hC : k + rm.cells ≤ R.cells ∧ n + rm.slots ≤ R.slots) (hs : (st.map fun v => v.category).sum ≤ 8) (d : decode cc pc = .ok (.invokevirtual idx, 3)) (kk : ∀ (x : Int32) (M1 : Mem), Go p l e R s m args below meth c w nL (k + rm.cells) (n + rm.slots) Qf (o x M1) (pc + 3) L (.int x :: st) M1) : Go p l e R s m args below meth c w nL k n Qf (bnd f o) pc L (As.reverse ++ .ref (wad w (1000 + i)) :: st) M := by
  intro r hr H locs ls hP hS hl
  cases f with
  | none => cases hr
  | some v =>
    have hrc : ∃ cell : Cell, H[wad w (1000 + i)]? = some cell ∧ cell.vm.isStatics = false ∧ s.vm.findClass y.cls = some cell.cls := by
      obtain ⟨cell, h1, h2, h3, -⟩ := (g.2.2.2.2.2.2.2.1.1 i hi).1.kept hS.2.1
      exact ⟨cell, h1, h2, by rw [hy]; exact h3⟩
    refine va_calli (va_runV (As := As) (rest := st) ⟨g.1, g.2.1, g.2.2.1, g.2.2.2.1, g.2.2.2.2.1⟩ (hM v rfl) ⟨callB_of a g.2.2.2.2.1 (TT_gi cw.2.2.2.2.1) rfl rfl rfl (g.2.2.2.2.1 _ cw.2.2.2.1) (g.2.2.2.2.1 _ cw.1) cw.2.2.2.2.2 hR, g.2.2.2.2.1 _ cw.2.1, g.2.2.2.2.1 _ cw.2.2.1⟩ ⟨Wd.blind, hrc, fun U hU hW => ⟨rfl, by rw [hU]; exact hP, va_K.moved hW.alike g.2.2.2.2.2.1, g.2.2.2.2.2.2.2.2.1, by rw [hU]; exact Nat.le_trans g.2.2.2.2.2.2.2.2.2 hS.1, Sx.step g.2.2.2.2.2.2.2.1 hS hU hW⟩⟩ rfl hn hl.1 rfl (lv_room hs) d hC) hS (fun _ _ h => h) (fun _ h => h) (fun x u t H1 locs1 ht hvm hw hB hz hkp hS1 => ?_)
    have hw : x = v.1 := hw
    subst hw
    exact kk v.1 v.2 r hr H1 locs1 ls (by rw [← ht]; exact hB) hS1 hl
theorem G_sget (g : Gd p s m args meth c w nL cc own) {pc : Nat} {L : List (Nat × Value)} {st : List Value} {M : Mem} {o : Option ρ} {idx i : Nat} {n2 d2 : String} {v : Value} (hl0 : Cond.fieldLink own idx "java/lang/String" n2 d2 ∈ TT) (hE : va_OF "java/lang/String" n2 d2 v (wad w (1000 + i)) (wA w) s s.heap) (d : decode cc pc = .ok (.getfield idx, 3)) (kk : Go p l e R s m args below meth c w nL k n Qf o (pc + 3) L (v :: st) M) : Go p l e R s m args below meth c w nL k n Qf o pc L (.ref (wad w (1000 + i)) :: st) M :=
  fun r hr H locs ls hP hS hl => vk_getf g.1 g.2.1 hE hS g.2.2.2.1 (g.2.2.2.2.1 _ hl0) (fun _ h => h) d (kk r hr H locs ls hP hS hl)
theorem G_gets (g : Gd p s m args meth c w nL cc own) {pc : Nat} {L : List (Nat × Value)} {st : List Value} {M : Mem} {o : Option ρ} {idx : Nat} {C2 n2 d2 : String} {v : Value} (hl0 : Cond.fieldLink own idx C2 n2 d2 ∈ TT) (hZ : va_Z C2 n2 d2 v (wA w) s s.heap) (d : decode cc pc = .ok (.getstatic idx, 3)) (kk : Go p l e R s m args below meth c w nL k n Qf o (pc + 3) L (v :: st) M) : Go p l e R s m args below meth c w nL k n Qf o pc L st M :=
  fun r hr H locs ls hP hS hl => va_gets g.1 g.2.1 hZ hS g.2.2.2.1 (g.2.2.2.2.1 _ hl0) (fun _ h => h) d (kk r hr H locs ls hP hS hl)
theorem G_tlen (g : Gd p s m args meth c w nL cc own) {pc : Nat} {L : List (Nat × Value)} {st : List Value} {M : Mem} {o : Option ρ} {t N : Nat} {f : Nat → Value} {ty : FieldType} (v : Int32) (hT : va_T ty t N f (wA w) s s.heap) (hv : Int32.ofNat N = v) (d : decode cc pc = .ok (.arraylength, 1)) (kk : Go p l e R s m args below meth c w nL k n Qf o (pc + 1) L (.int v :: st) M) : Go p l e R s m args below meth c w nL k n Qf o pc L (.ref t :: st) M :=
  fun r hr H locs ls hP hS hl => va_tlen g.1 g.2.1 hT hS hv d (kk r hr H locs ls hP hS hl)
theorem G_tb (g : Gd p s m args meth c w nL cc own) {pc : Nat} {L : List (Nat × Value)} {st : List Value} {M : Mem} {o : Option ρ} {t N : Nat} {f : Nat → Value} {i : Int32} (v : Value) (hT : va_T .byte t N f (wA w) s s.heap) (hin : vp_in i N) (hv : f i.toNatClampNeg = v) (d : decode cc pc = .ok (.baload, 1)) (kk : Go p l e R s m args below meth c w nL k n Qf o (pc + 1) L (v :: st) M) : Go p l e R s m args below meth c w nL k n Qf o pc L (.int i :: .ref t :: st) M :=
  fun r hr H locs ls hP hS hl => va_tb g.1 g.2.1 hT hS hin hv d (kk r hr H locs ls hP hS hl)
end GO
theorem Ct.mono {ρ : Type} {Q : Wc → ρ → Array Value → State → Outcome → State → Prop} {l : Launch} {y : MethodName} {b : ByteArray} {maxL : Nat} {ret : Option FieldType} {rm : Room} {w : Wc} {av : List Value} {M : Mem} {f f2 : Option ρ} (h : ∀ r, f = some r → f2 = some r) (hM : Ct Q l y b maxL ret rm w av M f2) : Ct Q l y b maxL ret rm w av M f := fun r hr => hM r (h r hr)
theorem Ct.go {ρ : Type} {Q : Wc → ρ → Array Value → State → Outcome → State → Prop} {l : Launch} {y : MethodName} {b : ByteArray} {maxL : Nat} {ret : Option FieldType} {rm : Room} {w : Wc} {av : List Value} {M : Mem} {f : Option ρ} (hy : plainName y.cls = true) {L : List (Nat × Value)} (hL : lv_args 0 av = L) (hlen : (lg_sl av).length ≤ maxL)
    (body : ∀ p e s m args below meth c, Gd p s m args meth c w maxL b y.cls → meth.sig.returnType = ret → Go p l e rm s m args below meth c w maxL 0 0 (fun r => MQ below (Q w r) args s rm.cells rm.slots (wA w)) f 0 L [] M) : Ct Q l y b maxL ret rm w av M f := by
  intro r hr
  refine Met.ofW (cc := b) (maxL := maxL) (ret := ret) hy rfl ?_
  intro p e s m args below meth c s₁ B hml hv
  obtain ⟨rfl, hP, hK, hW, hlo, hSx⟩ := hv
  have hts := atoms_spec B.pre
  have hl := lv_entry av hlen
  rw [hL] at hl
  rw [lg_entry_eq]
  exact body p e s m _ below meth c ⟨B.exec, B.bytes, hml, findClass_of_methodNamed B.named, fun x hx => hts x (List.mem_cons_of_mem _ hx), hK, B.notSynchronized, hSx, hW, hlo⟩ B.returns r hr _ [] _ hP va_S.rf hl
end
section
/-! places: what lies where, by the shape of all that the law makes -/
abbrev rmL (n : Nat) : Room := { frames := n, cells := 0, slots := 0, locals := 64 * n }
/-- the class's own places are live -/
def WK (w : Wc) (rr : Nat) : Prop := wZ w = Z0 rr ∧ ∀ p, p < 145 → p ∈ wL w
/-- the reference's own places are live; its row is one of two -/
def WM (w : Wc) (rr : Nat) : Prop := wZ w = Z0 rr ∧ (∀ p, 145 ≤ p → p < 156 → p ∈ wL w) ∧ (rr = 146 ∨ rr = 147)
theorem WK.z {w : Wc} {rr : Nat} (hw : WK w rr) : wZ w = Z0 rr := hw.1
theorem WK.k {w : Wc} {rr : Nat} (hw : WK w rr) {q k : Nat} (h : (Z0 rr q).1 = k) : (wZ w q).1 = k := by rw [hw.1]; exact h
theorem WK.n {w : Wc} {rr : Nat} (hw : WK w rr) {q n : Nat} (h : (Z0 rr q).2.1 = n) : (wZ w q).2.1 = n := by rw [hw.1]; exact h
theorem WK.r {w : Wc} {rr : Nat} (hw : WK w rr) {q k q2 : Nat} (h : (Z0 rr q).2.2 k = some q2) : (wZ w q).2.2 k = some q2 := by rw [hw.1]; exact h
theorem WM.z {w : Wc} {rr : Nat} (hw : WM w rr) : wZ w = Z0 rr := hw.1
theorem WM.k {w : Wc} {rr : Nat} (hw : WM w rr) {q k : Nat} (h : (Z0 rr q).1 = k) : (wZ w q).1 = k := by rw [hw.1]; exact h
theorem WM.n {w : Wc} {rr : Nat} (hw : WM w rr) {q n : Nat} (h : (Z0 rr q).2.1 = n) : (wZ w q).2.1 = n := by rw [hw.1]; exact h
theorem WM.r {w : Wc} {rr : Nat} (hw : WM w rr) {q k q2 : Nat} (h : (Z0 rr q).2.2 k = some q2) : (wZ w q).2.2 k = some q2 := by rw [hw.1]; exact h
theorem WK.m {w : Wc} {rr : Nat} (hw : WK w rr) (p : Nat) (h : p < 145) : p ∈ wL w := hw.2 p h
theorem WM.mm {w : Wc} {rr : Nat} (hw : WM w rr) (p : Nat) (h : 145 ≤ p) (h2 : p < 156) : p ∈ wL w := hw.2.1 p h h2
theorem WM.rr {w : Wc} {rr : Nat} (_ : WM w rr) : (Z0 rr 145).2.2 6 = some rr := rfl
theorem WM.mr {w : Wc} {rr : Nat} (hw : WM w rr) : rr ∈ wL w := by rcases hw.2.2 with h | h <;> (rw [h]; exact hw.2.1 _ (by decide) (by decide))
theorem WM.kr {w : Wc} {rr : Nat} (hw : WM w rr) : (wZ w rr).1 = 20 := by rw [hw.1]; rcases hw.2.2 with h | h <;> (subst h; rfl)
theorem WM.nr {w : Wc} {rr : Nat} (hw : WM w rr) : (wZ w rr).2.1 = 405 := by rw [hw.1]; rcases hw.2.2 with h | h <;> (subst h; rfl)
theorem zk0 (rr : Nat) : (Z0 rr 0).1 = 9 := rfl
theorem zr0_0 (rr : Nat) : (Z0 rr 0).2.2 0 = some 1 := rfl
theorem zr0_1 (rr : Nat) : (Z0 rr 0).2.2 1 = some 3 := rfl
theorem zr0_2 (rr : Nat) : (Z0 rr 0).2.2 2 = some 5 := rfl
theorem zr0_3 (rr : Nat) : (Z0 rr 0).2.2 3 = some 10 := rfl
theorem zr0_4 (rr : Nat) : (Z0 rr 0).2.2 4 = some 23 := rfl
theorem zr0_5 (rr : Nat) : (Z0 rr 0).2.2 5 = some 24 := rfl
theorem zr0_6 (rr : Nat) : (Z0 rr 0).2.2 6 = some 130 := rfl
theorem zr0_8 (rr : Nat) : (Z0 rr 0).2.2 8 = some 143 := rfl
theorem zk1 (rr : Nat) : (Z0 rr 1).1 = 7 := rfl
theorem zr1_0 (rr : Nat) : (Z0 rr 1).2.2 0 = some 2 := rfl
theorem zk2 (rr : Nat) : (Z0 rr 2).1 = 21 := rfl
theorem zn2 (rr : Nat) : (Z0 rr 2).2.1 = 500 := rfl
theorem zk3 (rr : Nat) : (Z0 rr 3).1 = 6 := rfl
theorem zr3_4 (rr : Nat) : (Z0 rr 3).2.2 4 = some 4 := rfl
theorem zk4 (rr : Nat) : (Z0 rr 4).1 = 20 := rfl
theorem zn4 (rr : Nat) : (Z0 rr 4).2.1 = 16 := rfl
theorem zk5 (rr : Nat) : (Z0 rr 5).1 = 4 := rfl
theorem zr5_0 (rr : Nat) : (Z0 rr 5).2.2 0 = some 6 := rfl
theorem zr5_1 (rr : Nat) : (Z0 rr 5).2.2 1 = some 7 := rfl
theorem zr5_2 (rr : Nat) : (Z0 rr 5).2.2 2 = some 8 := rfl
theorem zr5_3 (rr : Nat) : (Z0 rr 5).2.2 3 = some 9 := rfl
theorem zk6 (rr : Nat) : (Z0 rr 6).1 = 20 := rfl
theorem zn6 (rr : Nat) : (Z0 rr 6).2.1 = 20 := rfl
theorem zk7 (rr : Nat) : (Z0 rr 7).1 = 20 := rfl
theorem zn7 (rr : Nat) : (Z0 rr 7).2.1 = 20 := rfl
theorem zk8 (rr : Nat) : (Z0 rr 8).1 = 20 := rfl
theorem zn8 (rr : Nat) : (Z0 rr 8).2.1 = 20 := rfl
theorem zk9 (rr : Nat) : (Z0 rr 9).1 = 20 := rfl
theorem zn9 (rr : Nat) : (Z0 rr 9).2.1 = 20 := rfl
theorem zk10 (rr : Nat) : (Z0 rr 10).1 = 5 := rfl
theorem zr10_0 (rr : Nat) : (Z0 rr 10).2.2 0 = some 11 := rfl
theorem zr10_1 (rr : Nat) : (Z0 rr 10).2.2 1 = some 12 := rfl
theorem zr10_3 (rr : Nat) : (Z0 rr 10).2.2 3 = some 13 := rfl
theorem zr10_4 (rr : Nat) : (Z0 rr 10).2.2 4 = some 15 := rfl
theorem zr10_5 (rr : Nat) : (Z0 rr 10).2.2 5 = some 19 := rfl
theorem zk11 (rr : Nat) : (Z0 rr 11).1 = 1 := rfl
theorem zk12 (rr : Nat) : (Z0 rr 12).1 = 20 := rfl
theorem zn12 (rr : Nat) : (Z0 rr 12).2.1 = 16 := rfl
theorem zk13 (rr : Nat) : (Z0 rr 13).1 = 8 := rfl
theorem zr13_0 (rr : Nat) : (Z0 rr 13).2.2 0 = some 14 := rfl
theorem zk14 (rr : Nat) : (Z0 rr 14).1 = 20 := rfl
theorem zn14 (rr : Nat) : (Z0 rr 14).2.1 = 8 := rfl
theorem zk15 (rr : Nat) : (Z0 rr 15).1 = 3 := rfl
theorem zr15_1 (rr : Nat) : (Z0 rr 15).2.2 1 = some 16 := rfl
theorem zr15_2 (rr : Nat) : (Z0 rr 15).2.2 2 = some 17 := rfl
theorem zr15_3 (rr : Nat) : (Z0 rr 15).2.2 3 = some 18 := rfl
theorem zk16 (rr : Nat) : (Z0 rr 16).1 = 20 := rfl
theorem zn16 (rr : Nat) : (Z0 rr 16).2.1 = 30 := rfl
theorem zk17 (rr : Nat) : (Z0 rr 17).1 = 20 := rfl
theorem zn17 (rr : Nat) : (Z0 rr 17).2.1 = 30 := rfl
theorem zk18 (rr : Nat) : (Z0 rr 18).1 = 20 := rfl
theorem zn18 (rr : Nat) : (Z0 rr 18).2.1 = 30 := rfl
theorem zk19 (rr : Nat) : (Z0 rr 19).1 = 3 := rfl
theorem zr19_1 (rr : Nat) : (Z0 rr 19).2.2 1 = some 20 := rfl
theorem zr19_2 (rr : Nat) : (Z0 rr 19).2.2 2 = some 21 := rfl
theorem zr19_3 (rr : Nat) : (Z0 rr 19).2.2 3 = some 22 := rfl
theorem zk20 (rr : Nat) : (Z0 rr 20).1 = 20 := rfl
theorem zn20 (rr : Nat) : (Z0 rr 20).2.1 = 90 := rfl
theorem zk21 (rr : Nat) : (Z0 rr 21).1 = 20 := rfl
theorem zn21 (rr : Nat) : (Z0 rr 21).2.1 = 90 := rfl
theorem zk22 (rr : Nat) : (Z0 rr 22).1 = 20 := rfl
theorem zn22 (rr : Nat) : (Z0 rr 22).2.1 = 90 := rfl
theorem zk23 (rr : Nat) : (Z0 rr 23).1 = 1 := rfl
theorem zk24 (rr : Nat) : (Z0 rr 24).1 = 0 := rfl
theorem zr24_0 (rr : Nat) : (Z0 rr 24).2.2 0 = some 25 := rfl
theorem zk25 (rr : Nat) : (Z0 rr 25).1 = 24 := rfl
theorem zn25 (rr : Nat) : (Z0 rr 25).2.1 = 8 := rfl
theorem zk26 (rr : Nat) : (Z0 rr 26).1 = 5 := rfl
theorem zr26_0 (rr : Nat) : (Z0 rr 26).2.2 0 = some 27 := rfl
theorem zr26_1 (rr : Nat) : (Z0 rr 26).2.2 1 = some 28 := rfl
theorem zr26_3 (rr : Nat) : (Z0 rr 26).2.2 3 = some 29 := rfl
theorem zr26_4 (rr : Nat) : (Z0 rr 26).2.2 4 = some 31 := rfl
theorem zr26_5 (rr : Nat) : (Z0 rr 26).2.2 5 = some 35 := rfl
theorem zk27 (rr : Nat) : (Z0 rr 27).1 = 1 := rfl
theorem zk28 (rr : Nat) : (Z0 rr 28).1 = 20 := rfl
theorem zn28 (rr : Nat) : (Z0 rr 28).2.1 = 16 := rfl
theorem zk29 (rr : Nat) : (Z0 rr 29).1 = 8 := rfl
theorem zr29_0 (rr : Nat) : (Z0 rr 29).2.2 0 = some 30 := rfl
theorem zk30 (rr : Nat) : (Z0 rr 30).1 = 20 := rfl
theorem zn30 (rr : Nat) : (Z0 rr 30).2.1 = 8 := rfl
theorem zk31 (rr : Nat) : (Z0 rr 31).1 = 3 := rfl
theorem zr31_1 (rr : Nat) : (Z0 rr 31).2.2 1 = some 32 := rfl
theorem zr31_2 (rr : Nat) : (Z0 rr 31).2.2 2 = some 33 := rfl
theorem zr31_3 (rr : Nat) : (Z0 rr 31).2.2 3 = some 34 := rfl
theorem zk32 (rr : Nat) : (Z0 rr 32).1 = 20 := rfl
theorem zn32 (rr : Nat) : (Z0 rr 32).2.1 = 30 := rfl
theorem zk33 (rr : Nat) : (Z0 rr 33).1 = 20 := rfl
theorem zn33 (rr : Nat) : (Z0 rr 33).2.1 = 30 := rfl
theorem zk34 (rr : Nat) : (Z0 rr 34).1 = 20 := rfl
theorem zn34 (rr : Nat) : (Z0 rr 34).2.1 = 30 := rfl
theorem zk35 (rr : Nat) : (Z0 rr 35).1 = 3 := rfl
theorem zr35_1 (rr : Nat) : (Z0 rr 35).2.2 1 = some 36 := rfl
theorem zr35_2 (rr : Nat) : (Z0 rr 35).2.2 2 = some 37 := rfl
theorem zr35_3 (rr : Nat) : (Z0 rr 35).2.2 3 = some 38 := rfl
theorem zk36 (rr : Nat) : (Z0 rr 36).1 = 20 := rfl
theorem zn36 (rr : Nat) : (Z0 rr 36).2.1 = 90 := rfl
theorem zk37 (rr : Nat) : (Z0 rr 37).1 = 20 := rfl
theorem zn37 (rr : Nat) : (Z0 rr 37).2.1 = 90 := rfl
theorem zk38 (rr : Nat) : (Z0 rr 38).1 = 20 := rfl
theorem zn38 (rr : Nat) : (Z0 rr 38).2.1 = 90 := rfl
theorem zk39 (rr : Nat) : (Z0 rr 39).1 = 5 := rfl
theorem zr39_0 (rr : Nat) : (Z0 rr 39).2.2 0 = some 40 := rfl
theorem zr39_1 (rr : Nat) : (Z0 rr 39).2.2 1 = some 41 := rfl
theorem zr39_3 (rr : Nat) : (Z0 rr 39).2.2 3 = some 42 := rfl
theorem zr39_4 (rr : Nat) : (Z0 rr 39).2.2 4 = some 44 := rfl
theorem zr39_5 (rr : Nat) : (Z0 rr 39).2.2 5 = some 48 := rfl
theorem zk40 (rr : Nat) : (Z0 rr 40).1 = 1 := rfl
theorem zk41 (rr : Nat) : (Z0 rr 41).1 = 20 := rfl
theorem zn41 (rr : Nat) : (Z0 rr 41).2.1 = 16 := rfl
theorem zk42 (rr : Nat) : (Z0 rr 42).1 = 8 := rfl
theorem zr42_0 (rr : Nat) : (Z0 rr 42).2.2 0 = some 43 := rfl
theorem zk43 (rr : Nat) : (Z0 rr 43).1 = 20 := rfl
theorem zn43 (rr : Nat) : (Z0 rr 43).2.1 = 8 := rfl
theorem zk44 (rr : Nat) : (Z0 rr 44).1 = 3 := rfl
theorem zr44_1 (rr : Nat) : (Z0 rr 44).2.2 1 = some 45 := rfl
theorem zr44_2 (rr : Nat) : (Z0 rr 44).2.2 2 = some 46 := rfl
theorem zr44_3 (rr : Nat) : (Z0 rr 44).2.2 3 = some 47 := rfl
theorem zk45 (rr : Nat) : (Z0 rr 45).1 = 20 := rfl
theorem zn45 (rr : Nat) : (Z0 rr 45).2.1 = 30 := rfl
theorem zk46 (rr : Nat) : (Z0 rr 46).1 = 20 := rfl
theorem zn46 (rr : Nat) : (Z0 rr 46).2.1 = 30 := rfl
theorem zk47 (rr : Nat) : (Z0 rr 47).1 = 20 := rfl
theorem zn47 (rr : Nat) : (Z0 rr 47).2.1 = 30 := rfl
theorem zk48 (rr : Nat) : (Z0 rr 48).1 = 3 := rfl
theorem zr48_1 (rr : Nat) : (Z0 rr 48).2.2 1 = some 49 := rfl
theorem zr48_2 (rr : Nat) : (Z0 rr 48).2.2 2 = some 50 := rfl
theorem zr48_3 (rr : Nat) : (Z0 rr 48).2.2 3 = some 51 := rfl
theorem zk49 (rr : Nat) : (Z0 rr 49).1 = 20 := rfl
theorem zn49 (rr : Nat) : (Z0 rr 49).2.1 = 90 := rfl
theorem zk50 (rr : Nat) : (Z0 rr 50).1 = 20 := rfl
theorem zn50 (rr : Nat) : (Z0 rr 50).2.1 = 90 := rfl
theorem zk51 (rr : Nat) : (Z0 rr 51).1 = 20 := rfl
theorem zn51 (rr : Nat) : (Z0 rr 51).2.1 = 90 := rfl
theorem zk52 (rr : Nat) : (Z0 rr 52).1 = 5 := rfl
theorem zr52_0 (rr : Nat) : (Z0 rr 52).2.2 0 = some 53 := rfl
theorem zr52_1 (rr : Nat) : (Z0 rr 52).2.2 1 = some 54 := rfl
theorem zr52_3 (rr : Nat) : (Z0 rr 52).2.2 3 = some 55 := rfl
theorem zr52_4 (rr : Nat) : (Z0 rr 52).2.2 4 = some 57 := rfl
theorem zr52_5 (rr : Nat) : (Z0 rr 52).2.2 5 = some 61 := rfl
theorem zk53 (rr : Nat) : (Z0 rr 53).1 = 1 := rfl
theorem zk54 (rr : Nat) : (Z0 rr 54).1 = 20 := rfl
theorem zn54 (rr : Nat) : (Z0 rr 54).2.1 = 16 := rfl
theorem zk55 (rr : Nat) : (Z0 rr 55).1 = 8 := rfl
theorem zr55_0 (rr : Nat) : (Z0 rr 55).2.2 0 = some 56 := rfl
theorem zk56 (rr : Nat) : (Z0 rr 56).1 = 20 := rfl
theorem zn56 (rr : Nat) : (Z0 rr 56).2.1 = 8 := rfl
theorem zk57 (rr : Nat) : (Z0 rr 57).1 = 3 := rfl
theorem zr57_1 (rr : Nat) : (Z0 rr 57).2.2 1 = some 58 := rfl
theorem zr57_2 (rr : Nat) : (Z0 rr 57).2.2 2 = some 59 := rfl
theorem zr57_3 (rr : Nat) : (Z0 rr 57).2.2 3 = some 60 := rfl
theorem zk58 (rr : Nat) : (Z0 rr 58).1 = 20 := rfl
theorem zn58 (rr : Nat) : (Z0 rr 58).2.1 = 30 := rfl
theorem zk59 (rr : Nat) : (Z0 rr 59).1 = 20 := rfl
theorem zn59 (rr : Nat) : (Z0 rr 59).2.1 = 30 := rfl
theorem zk60 (rr : Nat) : (Z0 rr 60).1 = 20 := rfl
theorem zn60 (rr : Nat) : (Z0 rr 60).2.1 = 30 := rfl
theorem zk61 (rr : Nat) : (Z0 rr 61).1 = 3 := rfl
theorem zr61_1 (rr : Nat) : (Z0 rr 61).2.2 1 = some 62 := rfl
theorem zr61_2 (rr : Nat) : (Z0 rr 61).2.2 2 = some 63 := rfl
theorem zr61_3 (rr : Nat) : (Z0 rr 61).2.2 3 = some 64 := rfl
theorem zk62 (rr : Nat) : (Z0 rr 62).1 = 20 := rfl
theorem zn62 (rr : Nat) : (Z0 rr 62).2.1 = 90 := rfl
theorem zk63 (rr : Nat) : (Z0 rr 63).1 = 20 := rfl
theorem zn63 (rr : Nat) : (Z0 rr 63).2.1 = 90 := rfl
theorem zk64 (rr : Nat) : (Z0 rr 64).1 = 20 := rfl
theorem zn64 (rr : Nat) : (Z0 rr 64).2.1 = 90 := rfl
theorem zk65 (rr : Nat) : (Z0 rr 65).1 = 5 := rfl
theorem zr65_0 (rr : Nat) : (Z0 rr 65).2.2 0 = some 66 := rfl
theorem zr65_1 (rr : Nat) : (Z0 rr 65).2.2 1 = some 67 := rfl
theorem zr65_3 (rr : Nat) : (Z0 rr 65).2.2 3 = some 68 := rfl
theorem zr65_4 (rr : Nat) : (Z0 rr 65).2.2 4 = some 70 := rfl
theorem zr65_5 (rr : Nat) : (Z0 rr 65).2.2 5 = some 74 := rfl
theorem zk66 (rr : Nat) : (Z0 rr 66).1 = 1 := rfl
theorem zk67 (rr : Nat) : (Z0 rr 67).1 = 20 := rfl
theorem zn67 (rr : Nat) : (Z0 rr 67).2.1 = 16 := rfl
theorem zk68 (rr : Nat) : (Z0 rr 68).1 = 8 := rfl
theorem zr68_0 (rr : Nat) : (Z0 rr 68).2.2 0 = some 69 := rfl
theorem zk69 (rr : Nat) : (Z0 rr 69).1 = 20 := rfl
theorem zn69 (rr : Nat) : (Z0 rr 69).2.1 = 8 := rfl
theorem zk70 (rr : Nat) : (Z0 rr 70).1 = 3 := rfl
theorem zr70_1 (rr : Nat) : (Z0 rr 70).2.2 1 = some 71 := rfl
theorem zr70_2 (rr : Nat) : (Z0 rr 70).2.2 2 = some 72 := rfl
theorem zr70_3 (rr : Nat) : (Z0 rr 70).2.2 3 = some 73 := rfl
theorem zk71 (rr : Nat) : (Z0 rr 71).1 = 20 := rfl
theorem zn71 (rr : Nat) : (Z0 rr 71).2.1 = 30 := rfl
theorem zk72 (rr : Nat) : (Z0 rr 72).1 = 20 := rfl
theorem zn72 (rr : Nat) : (Z0 rr 72).2.1 = 30 := rfl
theorem zk73 (rr : Nat) : (Z0 rr 73).1 = 20 := rfl
theorem zn73 (rr : Nat) : (Z0 rr 73).2.1 = 30 := rfl
theorem zk74 (rr : Nat) : (Z0 rr 74).1 = 3 := rfl
theorem zr74_1 (rr : Nat) : (Z0 rr 74).2.2 1 = some 75 := rfl
theorem zr74_2 (rr : Nat) : (Z0 rr 74).2.2 2 = some 76 := rfl
theorem zr74_3 (rr : Nat) : (Z0 rr 74).2.2 3 = some 77 := rfl
theorem zk75 (rr : Nat) : (Z0 rr 75).1 = 20 := rfl
theorem zn75 (rr : Nat) : (Z0 rr 75).2.1 = 90 := rfl
theorem zk76 (rr : Nat) : (Z0 rr 76).1 = 20 := rfl
theorem zn76 (rr : Nat) : (Z0 rr 76).2.1 = 90 := rfl
theorem zk77 (rr : Nat) : (Z0 rr 77).1 = 20 := rfl
theorem zn77 (rr : Nat) : (Z0 rr 77).2.1 = 90 := rfl
theorem zk78 (rr : Nat) : (Z0 rr 78).1 = 5 := rfl
theorem zr78_0 (rr : Nat) : (Z0 rr 78).2.2 0 = some 79 := rfl
theorem zr78_1 (rr : Nat) : (Z0 rr 78).2.2 1 = some 80 := rfl
theorem zr78_3 (rr : Nat) : (Z0 rr 78).2.2 3 = some 81 := rfl
theorem zr78_4 (rr : Nat) : (Z0 rr 78).2.2 4 = some 83 := rfl
theorem zr78_5 (rr : Nat) : (Z0 rr 78).2.2 5 = some 87 := rfl
theorem zk79 (rr : Nat) : (Z0 rr 79).1 = 1 := rfl
theorem zk80 (rr : Nat) : (Z0 rr 80).1 = 20 := rfl
theorem zn80 (rr : Nat) : (Z0 rr 80).2.1 = 16 := rfl
theorem zk81 (rr : Nat) : (Z0 rr 81).1 = 8 := rfl
theorem zr81_0 (rr : Nat) : (Z0 rr 81).2.2 0 = some 82 := rfl
theorem zk82 (rr : Nat) : (Z0 rr 82).1 = 20 := rfl
theorem zn82 (rr : Nat) : (Z0 rr 82).2.1 = 8 := rfl
theorem zk83 (rr : Nat) : (Z0 rr 83).1 = 3 := rfl
theorem zr83_1 (rr : Nat) : (Z0 rr 83).2.2 1 = some 84 := rfl
theorem zr83_2 (rr : Nat) : (Z0 rr 83).2.2 2 = some 85 := rfl
theorem zr83_3 (rr : Nat) : (Z0 rr 83).2.2 3 = some 86 := rfl
theorem zk84 (rr : Nat) : (Z0 rr 84).1 = 20 := rfl
theorem zn84 (rr : Nat) : (Z0 rr 84).2.1 = 30 := rfl
theorem zk85 (rr : Nat) : (Z0 rr 85).1 = 20 := rfl
theorem zn85 (rr : Nat) : (Z0 rr 85).2.1 = 30 := rfl
theorem zk86 (rr : Nat) : (Z0 rr 86).1 = 20 := rfl
theorem zn86 (rr : Nat) : (Z0 rr 86).2.1 = 30 := rfl
theorem zk87 (rr : Nat) : (Z0 rr 87).1 = 3 := rfl
theorem zr87_1 (rr : Nat) : (Z0 rr 87).2.2 1 = some 88 := rfl
theorem zr87_2 (rr : Nat) : (Z0 rr 87).2.2 2 = some 89 := rfl
theorem zr87_3 (rr : Nat) : (Z0 rr 87).2.2 3 = some 90 := rfl
theorem zk88 (rr : Nat) : (Z0 rr 88).1 = 20 := rfl
theorem zn88 (rr : Nat) : (Z0 rr 88).2.1 = 90 := rfl
theorem zk89 (rr : Nat) : (Z0 rr 89).1 = 20 := rfl
theorem zn89 (rr : Nat) : (Z0 rr 89).2.1 = 90 := rfl
theorem zk90 (rr : Nat) : (Z0 rr 90).1 = 20 := rfl
theorem zn90 (rr : Nat) : (Z0 rr 90).2.1 = 90 := rfl
theorem zk91 (rr : Nat) : (Z0 rr 91).1 = 5 := rfl
theorem zr91_0 (rr : Nat) : (Z0 rr 91).2.2 0 = some 92 := rfl
theorem zr91_1 (rr : Nat) : (Z0 rr 91).2.2 1 = some 93 := rfl
theorem zr91_3 (rr : Nat) : (Z0 rr 91).2.2 3 = some 94 := rfl
theorem zr91_4 (rr : Nat) : (Z0 rr 91).2.2 4 = some 96 := rfl
theorem zr91_5 (rr : Nat) : (Z0 rr 91).2.2 5 = some 100 := rfl
theorem zk92 (rr : Nat) : (Z0 rr 92).1 = 1 := rfl
theorem zk93 (rr : Nat) : (Z0 rr 93).1 = 20 := rfl
theorem zn93 (rr : Nat) : (Z0 rr 93).2.1 = 16 := rfl
theorem zk94 (rr : Nat) : (Z0 rr 94).1 = 8 := rfl
theorem zr94_0 (rr : Nat) : (Z0 rr 94).2.2 0 = some 95 := rfl
theorem zk95 (rr : Nat) : (Z0 rr 95).1 = 20 := rfl
theorem zn95 (rr : Nat) : (Z0 rr 95).2.1 = 8 := rfl
theorem zk96 (rr : Nat) : (Z0 rr 96).1 = 3 := rfl
theorem zr96_1 (rr : Nat) : (Z0 rr 96).2.2 1 = some 97 := rfl
theorem zr96_2 (rr : Nat) : (Z0 rr 96).2.2 2 = some 98 := rfl
theorem zr96_3 (rr : Nat) : (Z0 rr 96).2.2 3 = some 99 := rfl
theorem zk97 (rr : Nat) : (Z0 rr 97).1 = 20 := rfl
theorem zn97 (rr : Nat) : (Z0 rr 97).2.1 = 30 := rfl
theorem zk98 (rr : Nat) : (Z0 rr 98).1 = 20 := rfl
theorem zn98 (rr : Nat) : (Z0 rr 98).2.1 = 30 := rfl
theorem zk99 (rr : Nat) : (Z0 rr 99).1 = 20 := rfl
theorem zn99 (rr : Nat) : (Z0 rr 99).2.1 = 30 := rfl
theorem zk100 (rr : Nat) : (Z0 rr 100).1 = 3 := rfl
theorem zr100_1 (rr : Nat) : (Z0 rr 100).2.2 1 = some 101 := rfl
theorem zr100_2 (rr : Nat) : (Z0 rr 100).2.2 2 = some 102 := rfl
theorem zr100_3 (rr : Nat) : (Z0 rr 100).2.2 3 = some 103 := rfl
theorem zk101 (rr : Nat) : (Z0 rr 101).1 = 20 := rfl
theorem zn101 (rr : Nat) : (Z0 rr 101).2.1 = 90 := rfl
theorem zk102 (rr : Nat) : (Z0 rr 102).1 = 20 := rfl
theorem zn102 (rr : Nat) : (Z0 rr 102).2.1 = 90 := rfl
theorem zk103 (rr : Nat) : (Z0 rr 103).1 = 20 := rfl
theorem zn103 (rr : Nat) : (Z0 rr 103).2.1 = 90 := rfl
theorem zk104 (rr : Nat) : (Z0 rr 104).1 = 5 := rfl
theorem zr104_0 (rr : Nat) : (Z0 rr 104).2.2 0 = some 105 := rfl
theorem zr104_1 (rr : Nat) : (Z0 rr 104).2.2 1 = some 106 := rfl
theorem zr104_3 (rr : Nat) : (Z0 rr 104).2.2 3 = some 107 := rfl
theorem zr104_4 (rr : Nat) : (Z0 rr 104).2.2 4 = some 109 := rfl
theorem zr104_5 (rr : Nat) : (Z0 rr 104).2.2 5 = some 113 := rfl
theorem zk105 (rr : Nat) : (Z0 rr 105).1 = 1 := rfl
theorem zk106 (rr : Nat) : (Z0 rr 106).1 = 20 := rfl
theorem zn106 (rr : Nat) : (Z0 rr 106).2.1 = 16 := rfl
theorem zk107 (rr : Nat) : (Z0 rr 107).1 = 8 := rfl
theorem zr107_0 (rr : Nat) : (Z0 rr 107).2.2 0 = some 108 := rfl
theorem zk108 (rr : Nat) : (Z0 rr 108).1 = 20 := rfl
theorem zn108 (rr : Nat) : (Z0 rr 108).2.1 = 8 := rfl
theorem zk109 (rr : Nat) : (Z0 rr 109).1 = 3 := rfl
theorem zr109_1 (rr : Nat) : (Z0 rr 109).2.2 1 = some 110 := rfl
theorem zr109_2 (rr : Nat) : (Z0 rr 109).2.2 2 = some 111 := rfl
theorem zr109_3 (rr : Nat) : (Z0 rr 109).2.2 3 = some 112 := rfl
theorem zk110 (rr : Nat) : (Z0 rr 110).1 = 20 := rfl
theorem zn110 (rr : Nat) : (Z0 rr 110).2.1 = 30 := rfl
theorem zk111 (rr : Nat) : (Z0 rr 111).1 = 20 := rfl
theorem zn111 (rr : Nat) : (Z0 rr 111).2.1 = 30 := rfl
theorem zk112 (rr : Nat) : (Z0 rr 112).1 = 20 := rfl
theorem zn112 (rr : Nat) : (Z0 rr 112).2.1 = 30 := rfl
theorem zk113 (rr : Nat) : (Z0 rr 113).1 = 3 := rfl
theorem zr113_1 (rr : Nat) : (Z0 rr 113).2.2 1 = some 114 := rfl
theorem zr113_2 (rr : Nat) : (Z0 rr 113).2.2 2 = some 115 := rfl
theorem zr113_3 (rr : Nat) : (Z0 rr 113).2.2 3 = some 116 := rfl
theorem zk114 (rr : Nat) : (Z0 rr 114).1 = 20 := rfl
theorem zn114 (rr : Nat) : (Z0 rr 114).2.1 = 90 := rfl
theorem zk115 (rr : Nat) : (Z0 rr 115).1 = 20 := rfl
theorem zn115 (rr : Nat) : (Z0 rr 115).2.1 = 90 := rfl
theorem zk116 (rr : Nat) : (Z0 rr 116).1 = 20 := rfl
theorem zn116 (rr : Nat) : (Z0 rr 116).2.1 = 90 := rfl
theorem zk117 (rr : Nat) : (Z0 rr 117).1 = 5 := rfl
theorem zr117_0 (rr : Nat) : (Z0 rr 117).2.2 0 = some 118 := rfl
theorem zr117_1 (rr : Nat) : (Z0 rr 117).2.2 1 = some 119 := rfl
theorem zr117_3 (rr : Nat) : (Z0 rr 117).2.2 3 = some 120 := rfl
theorem zr117_4 (rr : Nat) : (Z0 rr 117).2.2 4 = some 122 := rfl
theorem zr117_5 (rr : Nat) : (Z0 rr 117).2.2 5 = some 126 := rfl
theorem zk118 (rr : Nat) : (Z0 rr 118).1 = 1 := rfl
theorem zk119 (rr : Nat) : (Z0 rr 119).1 = 20 := rfl
theorem zn119 (rr : Nat) : (Z0 rr 119).2.1 = 16 := rfl
theorem zk120 (rr : Nat) : (Z0 rr 120).1 = 8 := rfl
theorem zr120_0 (rr : Nat) : (Z0 rr 120).2.2 0 = some 121 := rfl
theorem zk121 (rr : Nat) : (Z0 rr 121).1 = 20 := rfl
theorem zn121 (rr : Nat) : (Z0 rr 121).2.1 = 8 := rfl
theorem zk122 (rr : Nat) : (Z0 rr 122).1 = 3 := rfl
theorem zr122_1 (rr : Nat) : (Z0 rr 122).2.2 1 = some 123 := rfl
theorem zr122_2 (rr : Nat) : (Z0 rr 122).2.2 2 = some 124 := rfl
theorem zr122_3 (rr : Nat) : (Z0 rr 122).2.2 3 = some 125 := rfl
theorem zk123 (rr : Nat) : (Z0 rr 123).1 = 20 := rfl
theorem zn123 (rr : Nat) : (Z0 rr 123).2.1 = 30 := rfl
theorem zk124 (rr : Nat) : (Z0 rr 124).1 = 20 := rfl
theorem zn124 (rr : Nat) : (Z0 rr 124).2.1 = 30 := rfl
theorem zk125 (rr : Nat) : (Z0 rr 125).1 = 20 := rfl
theorem zn125 (rr : Nat) : (Z0 rr 125).2.1 = 30 := rfl
theorem zk126 (rr : Nat) : (Z0 rr 126).1 = 3 := rfl
theorem zr126_1 (rr : Nat) : (Z0 rr 126).2.2 1 = some 127 := rfl
theorem zr126_2 (rr : Nat) : (Z0 rr 126).2.2 2 = some 128 := rfl
theorem zr126_3 (rr : Nat) : (Z0 rr 126).2.2 3 = some 129 := rfl
theorem zk127 (rr : Nat) : (Z0 rr 127).1 = 20 := rfl
theorem zn127 (rr : Nat) : (Z0 rr 127).2.1 = 90 := rfl
theorem zk128 (rr : Nat) : (Z0 rr 128).1 = 20 := rfl
theorem zn128 (rr : Nat) : (Z0 rr 128).2.1 = 90 := rfl
theorem zk129 (rr : Nat) : (Z0 rr 129).1 = 20 := rfl
theorem zn129 (rr : Nat) : (Z0 rr 129).2.1 = 90 := rfl
theorem zk130 (rr : Nat) : (Z0 rr 130).1 = 5 := rfl
theorem zr130_0 (rr : Nat) : (Z0 rr 130).2.2 0 = some 131 := rfl
theorem zr130_1 (rr : Nat) : (Z0 rr 130).2.2 1 = some 132 := rfl
theorem zr130_3 (rr : Nat) : (Z0 rr 130).2.2 3 = some 133 := rfl
theorem zr130_4 (rr : Nat) : (Z0 rr 130).2.2 4 = some 135 := rfl
theorem zr130_5 (rr : Nat) : (Z0 rr 130).2.2 5 = some 139 := rfl
theorem zk131 (rr : Nat) : (Z0 rr 131).1 = 1 := rfl
theorem zk132 (rr : Nat) : (Z0 rr 132).1 = 20 := rfl
theorem zn132 (rr : Nat) : (Z0 rr 132).2.1 = 16 := rfl
theorem zk133 (rr : Nat) : (Z0 rr 133).1 = 8 := rfl
theorem zr133_0 (rr : Nat) : (Z0 rr 133).2.2 0 = some 134 := rfl
theorem zk134 (rr : Nat) : (Z0 rr 134).1 = 20 := rfl
theorem zn134 (rr : Nat) : (Z0 rr 134).2.1 = 8 := rfl
theorem zk135 (rr : Nat) : (Z0 rr 135).1 = 3 := rfl
theorem zr135_1 (rr : Nat) : (Z0 rr 135).2.2 1 = some 136 := rfl
theorem zr135_2 (rr : Nat) : (Z0 rr 135).2.2 2 = some 137 := rfl
theorem zr135_3 (rr : Nat) : (Z0 rr 135).2.2 3 = some 138 := rfl
theorem zk136 (rr : Nat) : (Z0 rr 136).1 = 20 := rfl
theorem zn136 (rr : Nat) : (Z0 rr 136).2.1 = 30 := rfl
theorem zk137 (rr : Nat) : (Z0 rr 137).1 = 20 := rfl
theorem zn137 (rr : Nat) : (Z0 rr 137).2.1 = 30 := rfl
theorem zk138 (rr : Nat) : (Z0 rr 138).1 = 20 := rfl
theorem zn138 (rr : Nat) : (Z0 rr 138).2.1 = 30 := rfl
theorem zk139 (rr : Nat) : (Z0 rr 139).1 = 3 := rfl
theorem zr139_1 (rr : Nat) : (Z0 rr 139).2.2 1 = some 140 := rfl
theorem zr139_2 (rr : Nat) : (Z0 rr 139).2.2 2 = some 141 := rfl
theorem zr139_3 (rr : Nat) : (Z0 rr 139).2.2 3 = some 142 := rfl
theorem zk140 (rr : Nat) : (Z0 rr 140).1 = 20 := rfl
theorem zn140 (rr : Nat) : (Z0 rr 140).2.1 = 90 := rfl
theorem zk141 (rr : Nat) : (Z0 rr 141).1 = 20 := rfl
theorem zn141 (rr : Nat) : (Z0 rr 141).2.1 = 90 := rfl
theorem zk142 (rr : Nat) : (Z0 rr 142).1 = 20 := rfl
theorem zn142 (rr : Nat) : (Z0 rr 142).2.1 = 90 := rfl
theorem zk143 (rr : Nat) : (Z0 rr 143).1 = 2 := rfl
theorem zr143_0 (rr : Nat) : (Z0 rr 143).2.2 0 = some 144 := rfl
theorem zk144 (rr : Nat) : (Z0 rr 144).1 = 21 := rfl
theorem zn144 (rr : Nat) : (Z0 rr 144).2.1 = 360 := rfl
theorem zk145 (rr : Nat) : (Z0 rr 145).1 = 10 := rfl
theorem zr145_0 (rr : Nat) : (Z0 rr 145).2.2 0 = some 146 := rfl
theorem zr145_1 (rr : Nat) : (Z0 rr 145).2.2 1 = some 147 := rfl
theorem zr145_2 (rr : Nat) : (Z0 rr 145).2.2 2 = some 148 := rfl
theorem zr145_3 (rr : Nat) : (Z0 rr 145).2.2 3 = some 149 := rfl
theorem zr145_4 (rr : Nat) : (Z0 rr 145).2.2 4 = some 150 := rfl
theorem zr145_5 (rr : Nat) : (Z0 rr 145).2.2 5 = some 151 := rfl
theorem zr145_12 (rr : Nat) : (Z0 rr 145).2.2 12 = some 152 := rfl
theorem zr145_14 (rr : Nat) : (Z0 rr 145).2.2 14 = some 153 := rfl
theorem zr145_24 (rr : Nat) : (Z0 rr 145).2.2 24 = some 154 := rfl
theorem zr145_25 (rr : Nat) : (Z0 rr 145).2.2 25 = some 155 := rfl
theorem zk146 (rr : Nat) : (Z0 rr 146).1 = 20 := rfl
theorem zn146 (rr : Nat) : (Z0 rr 146).2.1 = 405 := rfl
theorem zk147 (rr : Nat) : (Z0 rr 147).1 = 20 := rfl
theorem zn147 (rr : Nat) : (Z0 rr 147).2.1 = 405 := rfl
theorem zk148 (rr : Nat) : (Z0 rr 148).1 = 20 := rfl
theorem zn148 (rr : Nat) : (Z0 rr 148).2.1 = 405 := rfl
theorem zk149 (rr : Nat) : (Z0 rr 149).1 = 20 := rfl
theorem zn149 (rr : Nat) : (Z0 rr 149).2.1 = 405 := rfl
theorem zk150 (rr : Nat) : (Z0 rr 150).1 = 20 := rfl
theorem zn150 (rr : Nat) : (Z0 rr 150).2.1 = 405 := rfl
theorem zk151 (rr : Nat) : (Z0 rr 151).1 = 20 := rfl
theorem zn151 (rr : Nat) : (Z0 rr 151).2.1 = 3240 := rfl
theorem zk152 (rr : Nat) : (Z0 rr 152).1 = 20 := rfl
theorem zn152 (rr : Nat) : (Z0 rr 152).2.1 = 400 := rfl
theorem zk153 (rr : Nat) : (Z0 rr 153).1 = 20 := rfl
theorem zn153 (rr : Nat) : (Z0 rr 153).2.1 = 500 := rfl
theorem zk154 (rr : Nat) : (Z0 rr 154).1 = 20 := rfl
theorem zn154 (rr : Nat) : (Z0 rr 154).2.1 = 60 := rfl
theorem zk155 (rr : Nat) : (Z0 rr 155).1 = 25 := rfl
theorem zn155 (rr : Nat) : (Z0 rr 155).2.1 = 9 := rfl
theorem zk156 (rr : Nat) : (Z0 rr 156).1 = 22 := rfl
theorem zn156 (rr : Nat) : (Z0 rr 156).2.1 = 1 := rfl
theorem zk157 (rr : Nat) : (Z0 rr 157).1 = 23 := rfl
theorem zn157 (rr : Nat) : (Z0 rr 157).2.1 = 0 := rfl
theorem st_lt0 {b : Nat} (h : b ∈ stL) : b < 145 := (show ∀ b ∈ stL, b < 145 by decide +kernel) b h
theorem st_k0 {b rr : Nat} (h : b ∈ stL) : (Z0 rr (b)).1 = 5 := (show ∀ b ∈ stL, (zl.getD (b) (99, 0, [])).1 = 5 by decide +kernel) b h
theorem st_r0_0 {b : Nat} (h : b ∈ stL) (rr : Nat) : (Z0 rr (b)).2.2 0 = some (b + 1) := by
  have h1 := (show ∀ b ∈ stL, (zl.getD (b) (99, 0, [])).2.2.getD 0 none = some (b + 1) by decide +kernel) b h
  have h2 := st_lt0 h
  show (if b = 145 ∧ 0 = 6 then some rr else _) = _
  rw [if_neg (by omega)]
  exact h1
theorem st_r0_1 {b : Nat} (h : b ∈ stL) (rr : Nat) : (Z0 rr (b)).2.2 1 = some (b + 2) := by
  have h1 := (show ∀ b ∈ stL, (zl.getD (b) (99, 0, [])).2.2.getD 1 none = some (b + 2) by decide +kernel) b h
  have h2 := st_lt0 h
  show (if b = 145 ∧ 1 = 6 then some rr else _) = _
  rw [if_neg (by omega)]
  exact h1
theorem st_r0_3 {b : Nat} (h : b ∈ stL) (rr : Nat) : (Z0 rr (b)).2.2 3 = some (b + 3) := by
  have h1 := (show ∀ b ∈ stL, (zl.getD (b) (99, 0, [])).2.2.getD 3 none = some (b + 3) by decide +kernel) b h
  have h2 := st_lt0 h
  show (if b = 145 ∧ 3 = 6 then some rr else _) = _
  rw [if_neg (by omega)]
  exact h1
theorem st_r0_4 {b : Nat} (h : b ∈ stL) (rr : Nat) : (Z0 rr (b)).2.2 4 = some (b + 5) := by
  have h1 := (show ∀ b ∈ stL, (zl.getD (b) (99, 0, [])).2.2.getD 4 none = some (b + 5) by decide +kernel) b h
  have h2 := st_lt0 h
  show (if b = 145 ∧ 4 = 6 then some rr else _) = _
  rw [if_neg (by omega)]
  exact h1
theorem st_r0_5 {b : Nat} (h : b ∈ stL) (rr : Nat) : (Z0 rr (b)).2.2 5 = some (b + 9) := by
  have h1 := (show ∀ b ∈ stL, (zl.getD (b) (99, 0, [])).2.2.getD 5 none = some (b + 9) by decide +kernel) b h
  have h2 := st_lt0 h
  show (if b = 145 ∧ 5 = 6 then some rr else _) = _
  rw [if_neg (by omega)]
  exact h1
theorem st_lt1 {b : Nat} (h : b ∈ stL) : b + 1 < 145 := (show ∀ b ∈ stL, b + 1 < 145 by decide +kernel) b h
theorem st_k1 {b rr : Nat} (h : b ∈ stL) : (Z0 rr (b + 1)).1 = 1 := (show ∀ b ∈ stL, (zl.getD (b + 1) (99, 0, [])).1 = 1 by decide +kernel) b h
theorem st_in1 {b : Nat} (h : b ∈ stL) : b + 1 ∈ kiL := (show ∀ b ∈ stL, b + 1 ∈ kiL by decide +kernel) b h
theorem st_lt2 {b : Nat} (h : b ∈ stL) : b + 2 < 145 := (show ∀ b ∈ stL, b + 2 < 145 by decide +kernel) b h
theorem st_k2 {b rr : Nat} (h : b ∈ stL) : (Z0 rr (b + 2)).1 = 20 := (show ∀ b ∈ stL, (zl.getD (b + 2) (99, 0, [])).1 = 20 by decide +kernel) b h
theorem st_lt3 {b : Nat} (h : b ∈ stL) : b + 3 < 145 := (show ∀ b ∈ stL, b + 3 < 145 by decide +kernel) b h
theorem st_k3 {b rr : Nat} (h : b ∈ stL) : (Z0 rr (b + 3)).1 = 8 := (show ∀ b ∈ stL, (zl.getD (b + 3) (99, 0, [])).1 = 8 by decide +kernel) b h
theorem st_r3_0 {b : Nat} (h : b ∈ stL) (rr : Nat) : (Z0 rr (b + 3)).2.2 0 = some (b + 4) := by
  have h1 := (show ∀ b ∈ stL, (zl.getD (b + 3) (99, 0, [])).2.2.getD 0 none = some (b + 4) by decide +kernel) b h
  have h2 := st_lt3 h
  show (if b + 3 = 145 ∧ 0 = 6 then some rr else _) = _
  rw [if_neg (by omega)]
  exact h1
theorem st_in3 {b : Nat} (h : b ∈ stL) : b + 3 ∈ wbL := (show ∀ b ∈ stL, b + 3 ∈ wbL by decide +kernel) b h
theorem st_lt4 {b : Nat} (h : b ∈ stL) : b + 4 < 145 := (show ∀ b ∈ stL, b + 4 < 145 by decide +kernel) b h
theorem st_k4 {b rr : Nat} (h : b ∈ stL) : (Z0 rr (b + 4)).1 = 20 := (show ∀ b ∈ stL, (zl.getD (b + 4) (99, 0, [])).1 = 20 by decide +kernel) b h
theorem st_lt5 {b : Nat} (h : b ∈ stL) : b + 5 < 145 := (show ∀ b ∈ stL, b + 5 < 145 by decide +kernel) b h
theorem st_k5 {b rr : Nat} (h : b ∈ stL) : (Z0 rr (b + 5)).1 = 3 := (show ∀ b ∈ stL, (zl.getD (b + 5) (99, 0, [])).1 = 3 by decide +kernel) b h
theorem st_r5_1 {b : Nat} (h : b ∈ stL) (rr : Nat) : (Z0 rr (b + 5)).2.2 1 = some (b + 6) := by
  have h1 := (show ∀ b ∈ stL, (zl.getD (b + 5) (99, 0, [])).2.2.getD 1 none = some (b + 6) by decide +kernel) b h
  have h2 := st_lt5 h
  show (if b + 5 = 145 ∧ 1 = 6 then some rr else _) = _
  rw [if_neg (by omega)]
  exact h1
theorem st_r5_2 {b : Nat} (h : b ∈ stL) (rr : Nat) : (Z0 rr (b + 5)).2.2 2 = some (b + 7) := by
  have h1 := (show ∀ b ∈ stL, (zl.getD (b + 5) (99, 0, [])).2.2.getD 2 none = some (b + 7) by decide +kernel) b h
  have h2 := st_lt5 h
  show (if b + 5 = 145 ∧ 2 = 6 then some rr else _) = _
  rw [if_neg (by omega)]
  exact h1
theorem st_r5_3 {b : Nat} (h : b ∈ stL) (rr : Nat) : (Z0 rr (b + 5)).2.2 3 = some (b + 8) := by
  have h1 := (show ∀ b ∈ stL, (zl.getD (b + 5) (99, 0, [])).2.2.getD 3 none = some (b + 8) by decide +kernel) b h
  have h2 := st_lt5 h
  show (if b + 5 = 145 ∧ 3 = 6 then some rr else _) = _
  rw [if_neg (by omega)]
  exact h1
theorem st_in5 {b : Nat} (h : b ∈ stL) : b + 5 ∈ saL := (show ∀ b ∈ stL, b + 5 ∈ saL by decide +kernel) b h
theorem st_lt6 {b : Nat} (h : b ∈ stL) : b + 6 < 145 := (show ∀ b ∈ stL, b + 6 < 145 by decide +kernel) b h
theorem st_k6 {b rr : Nat} (h : b ∈ stL) : (Z0 rr (b + 6)).1 = 20 := (show ∀ b ∈ stL, (zl.getD (b + 6) (99, 0, [])).1 = 20 by decide +kernel) b h
theorem st_lt7 {b : Nat} (h : b ∈ stL) : b + 7 < 145 := (show ∀ b ∈ stL, b + 7 < 145 by decide +kernel) b h
theorem st_k7 {b rr : Nat} (h : b ∈ stL) : (Z0 rr (b + 7)).1 = 20 := (show ∀ b ∈ stL, (zl.getD (b + 7) (99, 0, [])).1 = 20 by decide +kernel) b h
theorem st_lt8 {b : Nat} (h : b ∈ stL) : b + 8 < 145 := (show ∀ b ∈ stL, b + 8 < 145 by decide +kernel) b h
theorem st_k8 {b rr : Nat} (h : b ∈ stL) : (Z0 rr (b + 8)).1 = 20 := (show ∀ b ∈ stL, (zl.getD (b + 8) (99, 0, [])).1 = 20 by decide +kernel) b h
theorem st_lt9 {b : Nat} (h : b ∈ stL) : b + 9 < 145 := (show ∀ b ∈ stL, b + 9 < 145 by decide +kernel) b h
theorem st_k9 {b rr : Nat} (h : b ∈ stL) : (Z0 rr (b + 9)).1 = 3 := (show ∀ b ∈ stL, (zl.getD (b + 9) (99, 0, [])).1 = 3 by decide +kernel) b h
theorem st_r9_1 {b : Nat} (h : b ∈ stL) (rr : Nat) : (Z0 rr (b + 9)).2.2 1 = some (b + 10) := by
  have h1 := (show ∀ b ∈ stL, (zl.getD (b + 9) (99, 0, [])).2.2.getD 1 none = some (b + 10) by decide +kernel) b h
  have h2 := st_lt9 h
  show (if b + 9 = 145 ∧ 1 = 6 then some rr else _) = _
  rw [if_neg (by omega)]
  exact h1
theorem st_r9_2 {b : Nat} (h : b ∈ stL) (rr : Nat) : (Z0 rr (b + 9)).2.2 2 = some (b + 11) := by
  have h1 := (show ∀ b ∈ stL, (zl.getD (b + 9) (99, 0, [])).2.2.getD 2 none = some (b + 11) by decide +kernel) b h
  have h2 := st_lt9 h
  show (if b + 9 = 145 ∧ 2 = 6 then some rr else _) = _
  rw [if_neg (by omega)]
  exact h1
theorem st_r9_3 {b : Nat} (h : b ∈ stL) (rr : Nat) : (Z0 rr (b + 9)).2.2 3 = some (b + 12) := by
  have h1 := (show ∀ b ∈ stL, (zl.getD (b + 9) (99, 0, [])).2.2.getD 3 none = some (b + 12) by decide +kernel) b h
  have h2 := st_lt9 h
  show (if b + 9 = 145 ∧ 3 = 6 then some rr else _) = _
  rw [if_neg (by omega)]
  exact h1
theorem st_in9 {b : Nat} (h : b ∈ stL) : b + 9 ∈ saL := (show ∀ b ∈ stL, b + 9 ∈ saL by decide +kernel) b h
theorem st_lt10 {b : Nat} (h : b ∈ stL) : b + 10 < 145 := (show ∀ b ∈ stL, b + 10 < 145 by decide +kernel) b h
theorem st_k10 {b rr : Nat} (h : b ∈ stL) : (Z0 rr (b + 10)).1 = 20 := (show ∀ b ∈ stL, (zl.getD (b + 10) (99, 0, [])).1 = 20 by decide +kernel) b h
theorem st_lt11 {b : Nat} (h : b ∈ stL) : b + 11 < 145 := (show ∀ b ∈ stL, b + 11 < 145 by decide +kernel) b h
theorem st_k11 {b rr : Nat} (h : b ∈ stL) : (Z0 rr (b + 11)).1 = 20 := (show ∀ b ∈ stL, (zl.getD (b + 11) (99, 0, [])).1 = 20 by decide +kernel) b h
theorem st_lt12 {b : Nat} (h : b ∈ stL) : b + 12 < 145 := (show ∀ b ∈ stL, b + 12 < 145 by decide +kernel) b h
theorem st_k12 {b rr : Nat} (h : b ∈ stL) : (Z0 rr (b + 12)).1 = 20 := (show ∀ b ∈ stL, (zl.getD (b + 12) (99, 0, [])).1 = 20 by decide +kernel) b h
theorem ki_lt0 {b : Nat} (h : b ∈ kiL) : b < 145 := (show ∀ b ∈ kiL, b < 145 by decide +kernel) b h
theorem ki_k0 {b rr : Nat} (h : b ∈ kiL) : (Z0 rr (b)).1 = 1 := (show ∀ b ∈ kiL, (zl.getD (b) (99, 0, [])).1 = 1 by decide +kernel) b h
theorem wb_lt0 {b : Nat} (h : b ∈ wbL) : b < 145 := (show ∀ b ∈ wbL, b < 145 by decide +kernel) b h
theorem wb_k0 {b rr : Nat} (h : b ∈ wbL) : (Z0 rr (b)).1 = 8 := (show ∀ b ∈ wbL, (zl.getD (b) (99, 0, [])).1 = 8 by decide +kernel) b h
theorem wb_r0_0 {b : Nat} (h : b ∈ wbL) (rr : Nat) : (Z0 rr (b)).2.2 0 = some (b + 1) := by
  have h1 := (show ∀ b ∈ wbL, (zl.getD (b) (99, 0, [])).2.2.getD 0 none = some (b + 1) by decide +kernel) b h
  have h2 := wb_lt0 h
  show (if b = 145 ∧ 0 = 6 then some rr else _) = _
  rw [if_neg (by omega)]
  exact h1
theorem wb_lt1 {b : Nat} (h : b ∈ wbL) : b + 1 < 145 := (show ∀ b ∈ wbL, b + 1 < 145 by decide +kernel) b h
theorem wb_k1 {b rr : Nat} (h : b ∈ wbL) : (Z0 rr (b + 1)).1 = 20 := (show ∀ b ∈ wbL, (zl.getD (b + 1) (99, 0, [])).1 = 20 by decide +kernel) b h
theorem sa_lt0 {b : Nat} (h : b ∈ saL) : b < 145 := (show ∀ b ∈ saL, b < 145 by decide +kernel) b h
theorem sa_k0 {b rr : Nat} (h : b ∈ saL) : (Z0 rr (b)).1 = 3 := (show ∀ b ∈ saL, (zl.getD (b) (99, 0, [])).1 = 3 by decide +kernel) b h
theorem sa_r0_1 {b : Nat} (h : b ∈ saL) (rr : Nat) : (Z0 rr (b)).2.2 1 = some (b + 1) := by
  have h1 := (show ∀ b ∈ saL, (zl.getD (b) (99, 0, [])).2.2.getD 1 none = some (b + 1) by decide +kernel) b h
  have h2 := sa_lt0 h
  show (if b = 145 ∧ 1 = 6 then some rr else _) = _
  rw [if_neg (by omega)]
  exact h1
theorem sa_r0_2 {b : Nat} (h : b ∈ saL) (rr : Nat) : (Z0 rr (b)).2.2 2 = some (b + 2) := by
  have h1 := (show ∀ b ∈ saL, (zl.getD (b) (99, 0, [])).2.2.getD 2 none = some (b + 2) by decide +kernel) b h
  have h2 := sa_lt0 h
  show (if b = 145 ∧ 2 = 6 then some rr else _) = _
  rw [if_neg (by omega)]
  exact h1
theorem sa_r0_3 {b : Nat} (h : b ∈ saL) (rr : Nat) : (Z0 rr (b)).2.2 3 = some (b + 3) := by
  have h1 := (show ∀ b ∈ saL, (zl.getD (b) (99, 0, [])).2.2.getD 3 none = some (b + 3) by decide +kernel) b h
  have h2 := sa_lt0 h
  show (if b = 145 ∧ 3 = 6 then some rr else _) = _
  rw [if_neg (by omega)]
  exact h1
theorem sa_lt1 {b : Nat} (h : b ∈ saL) : b + 1 < 145 := (show ∀ b ∈ saL, b + 1 < 145 by decide +kernel) b h
theorem sa_k1 {b rr : Nat} (h : b ∈ saL) : (Z0 rr (b + 1)).1 = 20 := (show ∀ b ∈ saL, (zl.getD (b + 1) (99, 0, [])).1 = 20 by decide +kernel) b h
theorem sa_lt2 {b : Nat} (h : b ∈ saL) : b + 2 < 145 := (show ∀ b ∈ saL, b + 2 < 145 by decide +kernel) b h
theorem sa_k2 {b rr : Nat} (h : b ∈ saL) : (Z0 rr (b + 2)).1 = 20 := (show ∀ b ∈ saL, (zl.getD (b + 2) (99, 0, [])).1 = 20 by decide +kernel) b h
theorem sa_lt3 {b : Nat} (h : b ∈ saL) : b + 3 < 145 := (show ∀ b ∈ saL, b + 3 < 145 by decide +kernel) b h
theorem sa_k3 {b rr : Nat} (h : b ∈ saL) : (Z0 rr (b + 3)).1 = 20 := (show ∀ b ∈ saL, (zl.getD (b + 3) (99, 0, [])).1 = 20 by decide +kernel) b h
theorem b2i_fit (b : Bool) : fits .boolean (.int (b2i b)) = true := by cases b <;> rfl
end
section
/-! the texts' own methods: length, charAt -/
abbrev b_Str_length : ByteArray := prog_19_method_54_code
abbrev y_Str_length : MethodName := ⟨"java/lang/String", "length", "()I"⟩
abbrev b_Str_charAt : ByteArray := prog_19_method_56_code
abbrev y_Str_charAt : MethodName := ⟨"java/lang/String", "charAt", "(I)C"⟩
abbrev b_Str_coder : ByteArray := prog_19_method_152_code
abbrev y_Str_coder : MethodName := ⟨"java/lang/String", "coder", "()B"⟩
abbrev b_Str_isLatin1 : ByteArray := prog_19_method_154_code
abbrev y_Str_isLatin1 : MethodName := ⟨"java/lang/String", "isLatin1", "()Z"⟩
abbrev b_Str_checkIndex : ByteArray := prog_19_method_155_code
abbrev y_Str_checkIndex : MethodName := ⟨"java/lang/String", "checkIndex", "(II)V"⟩
abbrev b_La_charAt : ByteArray := prog_20_method_2_code
abbrev y_La_charAt : MethodName := ⟨"java/lang/StringLatin1", "charAt", "([BI)C"⟩
abbrev b_Pc_checkIndex : ByteArray := prog_24_method_11_code
abbrev y_Pc_checkIndex : MethodName := ⟨"jdk/internal/util/Preconditions", "checkIndex", "(IILjava/util/function/BiFunction;)I"⟩
theorem d_Str_length_0 : decode b_Str_length 0 = .ok (.aload_n 0, 1) := by decide +kernel
theorem d_Str_length_1 : decode b_Str_length 1 = .ok (.getfield 9, 3) := by decide +kernel
theorem d_Str_length_4 : decode b_Str_length 4 = .ok (.arraylength, 1) := by decide +kernel
theorem d_Str_length_5 : decode b_Str_length 5 = .ok (.aload_n 0, 1) := by decide +kernel
theorem d_Str_length_6 : decode b_Str_length 6 = .ok (.invokevirtual 335, 3) := by decide +kernel
theorem d_Str_length_9 : decode b_Str_length 9 = .ok (.ishr, 1) := by decide +kernel
theorem d_Str_length_10 : decode b_Str_length 10 = .ok (.ireturn, 1) := by decide +kernel
theorem d_Str_charAt_0 : decode b_Str_charAt 0 = .ok (.aload_n 0, 1) := by decide +kernel
theorem d_Str_charAt_1 : decode b_Str_charAt 1 = .ok (.invokevirtual 492, 3) := by decide +kernel
theorem d_Str_charAt_4 : decode b_Str_charAt 4 = .ok (.ifCond .eq 12, 3) := by decide +kernel
theorem d_Str_charAt_7 : decode b_Str_charAt 7 = .ok (.aload_n 0, 1) := by decide +kernel
theorem d_Str_charAt_8 : decode b_Str_charAt 8 = .ok (.getfield 9, 3) := by decide +kernel
theorem d_Str_charAt_11 : decode b_Str_charAt 11 = .ok (.iload_n 1, 1) := by decide +kernel
theorem d_Str_charAt_12 : decode b_Str_charAt 12 = .ok (.invokestatic 495, 3) := by decide +kernel
theorem d_Str_charAt_15 : decode b_Str_charAt 15 = .ok (.ireturn, 1) := by decide +kernel
theorem d_Str_charAt_16 : decode b_Str_charAt 16 = .ok (.aload_n 0, 1) := by decide +kernel
theorem d_Str_charAt_17 : decode b_Str_charAt 17 = .ok (.getfield 9, 3) := by decide +kernel
theorem d_Str_charAt_20 : decode b_Str_charAt 20 = .ok (.iload_n 1, 1) := by decide +kernel
theorem d_Str_charAt_21 : decode b_Str_charAt 21 = .ok (.invokestatic 498, 3) := by decide +kernel
theorem d_Str_charAt_24 : decode b_Str_charAt 24 = .ok (.ireturn, 1) := by decide +kernel
theorem d_Str_coder_0 : decode b_Str_coder 0 = .ok (.getstatic 38, 3) := by decide +kernel
theorem d_Str_coder_3 : decode b_Str_coder 3 = .ok (.ifCond .eq 10, 3) := by decide +kernel
theorem d_Str_coder_6 : decode b_Str_coder 6 = .ok (.aload_n 0, 1) := by decide +kernel
theorem d_Str_coder_7 : decode b_Str_coder 7 = .ok (.getfield 15, 3) := by decide +kernel
theorem d_Str_coder_10 : decode b_Str_coder 10 = .ok (.goto 4, 3) := by decide +kernel
theorem d_Str_coder_13 : decode b_Str_coder 13 = .ok (.iconst 1, 1) := by decide +kernel
theorem d_Str_coder_14 : decode b_Str_coder 14 = .ok (.ireturn, 1) := by decide +kernel
theorem d_Str_isLatin1_0 : decode b_Str_isLatin1 0 = .ok (.getstatic 38, 3) := by decide +kernel
theorem d_Str_isLatin1_3 : decode b_Str_isLatin1 3 = .ok (.ifCond .eq 14, 3) := by decide +kernel
theorem d_Str_isLatin1_6 : decode b_Str_isLatin1 6 = .ok (.aload_n 0, 1) := by decide +kernel
theorem d_Str_isLatin1_7 : decode b_Str_isLatin1 7 = .ok (.getfield 15, 3) := by decide +kernel
theorem d_Str_isLatin1_10 : decode b_Str_isLatin1 10 = .ok (.ifCond .ne 7, 3) := by decide +kernel
theorem d_Str_isLatin1_13 : decode b_Str_isLatin1 13 = .ok (.iconst 1, 1) := by decide +kernel
theorem d_Str_isLatin1_14 : decode b_Str_isLatin1 14 = .ok (.goto 4, 3) := by decide +kernel
theorem d_Str_isLatin1_17 : decode b_Str_isLatin1 17 = .ok (.iconst 0, 1) := by decide +kernel
theorem d_Str_isLatin1_18 : decode b_Str_isLatin1 18 = .ok (.ireturn, 1) := by decide +kernel
theorem d_Str_checkIndex_0 : decode b_Str_checkIndex 0 = .ok (.iload_n 0, 1) := by decide +kernel
theorem d_Str_checkIndex_1 : decode b_Str_checkIndex 1 = .ok (.iload_n 1, 1) := by decide +kernel
theorem d_Str_checkIndex_2 : decode b_Str_checkIndex 2 = .ok (.getstatic 1053, 3) := by decide +kernel
theorem d_Str_checkIndex_5 : decode b_Str_checkIndex 5 = .ok (.invokestatic 1059, 3) := by decide +kernel
theorem d_Str_checkIndex_8 : decode b_Str_checkIndex 8 = .ok (.pop, 1) := by decide +kernel
theorem d_Str_checkIndex_9 : decode b_Str_checkIndex 9 = .ok (.return_, 1) := by decide +kernel
theorem d_La_charAt_0 : decode b_La_charAt 0 = .ok (.iload_n 1, 1) := by decide +kernel
theorem d_La_charAt_1 : decode b_La_charAt 1 = .ok (.aload_n 0, 1) := by decide +kernel
theorem d_La_charAt_2 : decode b_La_charAt 2 = .ok (.arraylength, 1) := by decide +kernel
theorem d_La_charAt_3 : decode b_La_charAt 3 = .ok (.invokestatic 9, 3) := by decide +kernel
theorem d_La_charAt_6 : decode b_La_charAt 6 = .ok (.aload_n 0, 1) := by decide +kernel
theorem d_La_charAt_7 : decode b_La_charAt 7 = .ok (.iload_n 1, 1) := by decide +kernel
theorem d_La_charAt_8 : decode b_La_charAt 8 = .ok (.baload, 1) := by decide +kernel
theorem d_La_charAt_9 : decode b_La_charAt 9 = .ok (.sipush 255, 3) := by decide +kernel
theorem d_La_charAt_12 : decode b_La_charAt 12 = .ok (.iand, 1) := by decide +kernel
theorem d_La_charAt_13 : decode b_La_charAt 13 = .ok (.i2c, 1) := by decide +kernel
theorem d_La_charAt_14 : decode b_La_charAt 14 = .ok (.ireturn, 1) := by decide +kernel
theorem d_Pc_checkIndex_0 : decode b_Pc_checkIndex 0 = .ok (.iload_n 0, 1) := by decide +kernel
theorem d_Pc_checkIndex_1 : decode b_Pc_checkIndex 1 = .ok (.ifCond .lt 8, 3) := by decide +kernel
theorem d_Pc_checkIndex_4 : decode b_Pc_checkIndex 4 = .ok (.iload_n 0, 1) := by decide +kernel
theorem d_Pc_checkIndex_5 : decode b_Pc_checkIndex 5 = .ok (.iload_n 1, 1) := by decide +kernel
theorem d_Pc_checkIndex_6 : decode b_Pc_checkIndex 6 = .ok (.if_icmp .lt 10, 3) := by decide +kernel
theorem d_Pc_checkIndex_9 : decode b_Pc_checkIndex 9 = .ok (.aload_n 2, 1) := by decide +kernel
theorem d_Pc_checkIndex_10 : decode b_Pc_checkIndex 10 = .ok (.iload_n 0, 1) := by decide +kernel
theorem d_Pc_checkIndex_11 : decode b_Pc_checkIndex 11 = .ok (.iload_n 1, 1) := by decide +kernel
theorem d_Pc_checkIndex_12 : decode b_Pc_checkIndex 12 = .ok (.invokestatic 95, 3) := by decide +kernel
theorem d_Pc_checkIndex_15 : decode b_Pc_checkIndex 15 = .ok (.athrow, 1) := by decide +kernel
theorem d_Pc_checkIndex_16 : decode b_Pc_checkIndex 16 = .ok (.iload_n 0, 1) := by decide +kernel
theorem d_Pc_checkIndex_17 : decode b_Pc_checkIndex 17 = .ok (.ireturn, 1) := by decide +kernel
theorem cj_len_coder : CV "java/lang/String" 335 y_Str_coder b_Str_coder 1 (some .byte) 0 := ⟨TT_in (i := 894) (by decide +kernel) (by decide +kernel), TT_in (i := 895) (by decide +kernel) (by decide +kernel), TT_in (i := 896) (by decide +kernel) (by decide +kernel), TT_in (i := 105) (by decide +kernel) (by decide +kernel), TT_in (i := 897) (by decide +kernel) (by decide +kernel), ⟨by decide +kernel, by decide +kernel, by decide +kernel⟩⟩
theorem cj_chr_lat : CV "java/lang/String" 492 y_Str_isLatin1 b_Str_isLatin1 1 (some .boolean) 0 := ⟨TT_in (i := 904) (by decide +kernel) (by decide +kernel), TT_in (i := 905) (by decide +kernel) (by decide +kernel), TT_in (i := 906) (by decide +kernel) (by decide +kernel), TT_in (i := 105) (by decide +kernel) (by decide +kernel), TT_in (i := 907) (by decide +kernel) (by decide +kernel), ⟨by decide +kernel, by decide +kernel, by decide +kernel⟩⟩
theorem cj_chr_la : CS "java/lang/String" 495 y_La_charAt b_La_charAt 2 (some .char) 2 := ⟨TT_in (i := 908) (by decide +kernel) (by decide +kernel), TT_in (i := 909) (by decide +kernel) (by decide +kernel), TT_in (i := 106) (by decide +kernel) (by decide +kernel), TT_in (i := 910) (by decide +kernel) (by decide +kernel), ⟨by decide +kernel, by decide +kernel, by decide +kernel⟩⟩
theorem cj_la_chk : CS "java/lang/StringLatin1" 9 y_Str_checkIndex b_Str_checkIndex 2 none 2 := ⟨TT_in (i := 911) (by decide +kernel) (by decide +kernel), TT_in (i := 912) (by decide +kernel) (by decide +kernel), TT_in (i := 105) (by decide +kernel) (by decide +kernel), TT_in (i := 913) (by decide +kernel) (by decide +kernel), ⟨by decide +kernel, by decide +kernel, by decide +kernel⟩⟩
theorem cj_chk_pc : CS "java/lang/String" 1059 y_Pc_checkIndex b_Pc_checkIndex 3 (some .int) 3 := ⟨TT_in (i := 916) (by decide +kernel) (by decide +kernel), TT_in (i := 917) (by decide +kernel) (by decide +kernel), TT_in (i := 107) (by decide +kernel) (by decide +kernel), TT_in (i := 918) (by decide +kernel) (by decide +kernel), ⟨by decide +kernel, by decide +kernel, by decide +kernel⟩⟩
theorem fl_val : Cond.fieldLink "java/lang/String" 9 "java/lang/String" "value" "[B" ∈ TT := TT_in (i := 1976) (by decide +kernel) (by decide +kernel)
theorem fl_cod : Cond.fieldLink "java/lang/String" 15 "java/lang/String" "coder" "B" ∈ TT := TT_in (i := 1977) (by decide +kernel) (by decide +kernel)
theorem fl_cmp : Cond.fieldLink "java/lang/String" 38 "java/lang/String" "COMPACT_STRINGS" "Z" ∈ TT := TT_in (i := 898) (by decide +kernel) (by decide +kernel)
theorem fl_fmt : Cond.fieldLink "java/lang/String" 1053 "jdk/internal/util/Preconditions" "SIOOBE_FORMATTER" "Ljava/util/function/BiFunction;" ∈ TT := TT_in (i := 914) (by decide +kernel) (by decide +kernel)
theorem lenS_lt : ∀ i, i < 20 → lenS i < 2 ^ 31 := by decide +kernel
theorem bytS_ch : ∀ i, i < 20 → ∀ j, j < lenS i → ((bytS i j &&& 255).toUInt32 % 65536).toInt32 = bytS i j ∧ narrow .char (.int (bytS i j)) = .int (bytS i j) := by decide +kernel
theorem bytS_nar : ∀ i, i < 20 → ∀ j, j < lenS i → ((bytS i j).toUInt32 % 65536).toInt32 = bytS i j := by decide +kernel
def f_Str_length (i : Nat) (M : Mem) : Option (Int32 × Mem) := some (nI (lenS i), M)
def f_Str_charAt (i : Nat) (k : Int32) (M : Mem) : Option (Int32 × Mem) := grd (inB k (lenS i)) (some (bytS i k.toNatClampNeg, M))
set_option maxHeartbeats 4000000 in
set_option maxRecDepth 100000 in
theorem c_Str_coder (l : Launch) {w : Wc} (i : Nat) (hi : i < 20) (M : Mem) : Ct QI l y_Str_coder b_Str_coder 1 (some .byte) (rmL 0) w [.ref (wad w (1000 + i))] M (some (0, M)) := by
  refine Ct.go (by decide) (L := [(0, .ref (wad w (1000 + i)))]) rfl (Nat.le_of_ble_eq_true rfl) (fun p0 e s m args below meth c g hret => ?_)
  obtain ⟨hO, hcod, hval, hT⟩ := g.2.2.2.2.2.2.2.1.1 i hi
  refine G_gets g (pc := 0) fl_cmp g.2.2.2.2.2.2.2.1.2.2.2.2.2.1 d_Str_coder_0 ?_
  refine G_ifF_eq g (pc := 3) (off := 10) 13 (by decide) d_Str_coder_3 (by decide) ?_
  refine G_aload_n g (pc := 6) 0 d_Str_coder_6 rfl rfl ?_
  refine G_sget g (pc := 7) fl_cod hcod d_Str_coder_7 ?_
  refine G_goto g (pc := 10) 14 d_Str_coder_10 (by decide) ?_
  exact G_nreturn g (pc := 14) hret rfl (Nat.le_of_ble_eq_true rfl) (Nat.le_of_ble_eq_true rfl) d_Str_coder_14
set_option maxHeartbeats 4000000 in
set_option maxRecDepth 100000 in
theorem c_Str_length0 (l : Launch) {w : Wc} (i : Nat) (hi : i < 20) (M : Mem) : Ct QI l y_Str_length b_Str_length 1 (some .int) (rmL 1) w [.ref (wad w (1000 + i))] M (bnd (some ((0 : Int32), M)) (fun (x : Int32) (M1 : Mem) => some (nI (lenS i) >>> (x &&& 31), M1))) := by
  refine Ct.go (by decide) (L := [(0, .ref (wad w (1000 + i)))]) rfl (Nat.le_of_ble_eq_true rfl) (fun p0 e s m args below meth c g hret => ?_)
  obtain ⟨hO, hcod, hval, hT⟩ := g.2.2.2.2.2.2.2.1.1 i hi
  refine G_aload_n g (pc := 0) 0 d_Str_length_0 rfl rfl ?_
  refine G_sget g (pc := 1) fl_val hval d_Str_length_1 ?_
  refine G_tlen g (pc := 4) (nI (lenS i)) hT rfl d_Str_length_4 ?_
  refine G_aload_n g (pc := 5) 0 d_Str_length_5 rfl rfl ?_
  refine G_cStr g (pc := 6) (As := []) (st := [.int (nI (lenS i))]) cj_len_coder rfl (c_Str_coder l i hi M) hi rfl ⟨Nat.le_of_ble_eq_true rfl, Nat.le_of_ble_eq_true rfl⟩ ⟨Nat.le_of_ble_eq_true rfl, Nat.le_of_ble_eq_true rfl⟩ (Nat.le_of_ble_eq_true rfl) d_Str_length_6 (fun x M1 => ?_)
  refine G_ishr g (pc := 9) d_Str_length_9 ?_
  exact G_ireturn g (pc := 10) hret (Nat.le_of_ble_eq_true rfl) (Nat.le_of_ble_eq_true rfl) d_Str_length_10
theorem c_Str_length (l : Launch) {w : Wc} (i : Nat) (hi : i < 20) (M : Mem) : Ct QI l y_Str_length b_Str_length 1 (some .int) (rmL 1) w [.ref (wad w (1000 + i))] M (f_Str_length i M) := by
  refine Ct.mono (fun r hr => ?_) (c_Str_length0 l i hi M)
  have h1 : nI (lenS i) >>> ((0 : Int32) &&& 31) = nI (lenS i) := Int32.toInt_inj.mp (by rw [pk_shr _ _ 0 (by decide)]; simp)
  show some (nI (lenS i) >>> ((0 : Int32) &&& 31), M) = some r
  rw [h1]
  exact hr
set_option maxHeartbeats 4000000 in
set_option maxRecDepth 100000 in
theorem c_Str_isLatin1 (l : Launch) {w : Wc} (i : Nat) (hi : i < 20) (M : Mem) : Ct QI l y_Str_isLatin1 b_Str_isLatin1 1 (some .boolean) (rmL 0) w [.ref (wad w (1000 + i))] M (some (1, M)) := by
  refine Ct.go (by decide) (L := [(0, .ref (wad w (1000 + i)))]) rfl (Nat.le_of_ble_eq_true rfl) (fun p0 e s m args below meth c g hret => ?_)
  obtain ⟨hO, hcod, hval, hT⟩ := g.2.2.2.2.2.2.2.1.1 i hi
  refine G_gets g (pc := 0) fl_cmp g.2.2.2.2.2.2.2.1.2.2.2.2.2.1 d_Str_isLatin1_0 ?_
  refine G_ifF_eq g (pc := 3) (off := 14) 17 (by decide) d_Str_isLatin1_3 (by decide) ?_
  refine G_aload_n g (pc := 6) 0 d_Str_isLatin1_6 rfl rfl ?_
  refine G_sget g (pc := 7) fl_cod hcod d_Str_isLatin1_7 ?_
  refine G_ifF_ne g (pc := 10) (off := 7) 17 (by decide) d_Str_isLatin1_10 (by decide) ?_
  refine G_iconst g (pc := 13) (1 : Int32) d_Str_isLatin1_13 rfl ?_
  refine G_goto g (pc := 14) 18 d_Str_isLatin1_14 (by decide) ?_
  exact G_nreturn g (pc := 18) hret rfl (Nat.le_of_ble_eq_true rfl) (Nat.le_of_ble_eq_true rfl) d_Str_isLatin1_18
set_option maxHeartbeats 4000000 in
set_option maxRecDepth 100000 in
theorem c_Pc_checkIndex (l : Launch) {w : Wc} (x y : Int32) (v : Value) (hv : v = .null ∨ ∃ t, v = .ref t) (M : Mem) : Ct QI l y_Pc_checkIndex b_Pc_checkIndex 3 (some .int) (rmL 0) w [.int x, .int y, v] M (if x < 0 then none else if x < y then some (x, M) else none) := by
  have hL : lv_args 0 [.int x, .int y, v] = [(0, .int x), (1, .int y), (2, v)] := by rcases hv with rfl | ⟨t, rfl⟩ <;> rfl
  have hs : (lg_sl [.int x, .int y, v]).length ≤ 3 := by rcases hv with rfl | ⟨t, rfl⟩ <;> exact Nat.le_of_ble_eq_true rfl
  refine Ct.go (by decide) hL hs (fun p0 e s m args below meth c g hret => ?_)
  refine G_iload_n g (pc := 0) 0 d_Pc_checkIndex_0 rfl rfl ?_
  refine G_if_lt g (pc := 1) 9 d_Pc_checkIndex_1 (by decide) G_none ?_
  refine G_iload_n g (pc := 4) 0 d_Pc_checkIndex_4 rfl rfl ?_
  refine G_iload_n g (pc := 5) 1 d_Pc_checkIndex_5 rfl rfl ?_
  refine G_icmp_lt g (pc := 6) 16 d_Pc_checkIndex_6 (by decide) ?_ G_none
  refine G_iload_n g (pc := 16) 0 d_Pc_checkIndex_16 rfl rfl ?_
  exact G_ireturn g (pc := 17) hret (Nat.le_of_ble_eq_true rfl) (Nat.le_of_ble_eq_true rfl) d_Pc_checkIndex_17
set_option maxHeartbeats 4000000 in
set_option maxRecDepth 100000 in
theorem c_Str_checkIndex (l : Launch) {w : Wc} (x y : Int32) (M : Mem) : Ct QV l y_Str_checkIndex b_Str_checkIndex 2 none (rmL 1) w [.int x, .int y] M (bnd (if x < 0 then none else if x < y then some (x, M) else none) (fun _ M1 => some M1)) := by
  refine Ct.go (by decide) (L := [(0, .int x), (1, .int y)]) rfl (Nat.le_of_ble_eq_true rfl) (fun p0 e s m args below meth c g hret => ?_)
  refine G_iload_n g (pc := 0) 0 d_Str_checkIndex_0 rfl rfl ?_
  refine G_iload_n g (pc := 1) 1 d_Str_checkIndex_1 rfl rfl ?_
  have key : ∀ v : Value, (v = .null ∨ ∃ t, v = .ref t) → Go p0 l e (rmL 1) s m args below meth c w 2 0 0 (fun r => MQ below (QV w r) args s (rmL 1).cells (rmL 1).slots (wA w)) (bnd (if x < 0 then none else if x < y then some (x, M) else none) (fun _ M1 => some M1)) (2 + 3) [(0, .int x), (1, .int y)] (v :: .int y :: .int x :: []) M := by
    intro v hv
    refine G_cSI g (pc := 5) (As := [.int x, .int y, v]) (st := []) cj_chk_pc (c_Pc_checkIndex l x y v hv M) rfl ⟨Nat.le_of_ble_eq_true rfl, Nat.le_of_ble_eq_true rfl⟩ ⟨Nat.le_of_ble_eq_true rfl, Nat.le_of_ble_eq_true rfl⟩ (Nat.le_of_ble_eq_true rfl) d_Str_checkIndex_5 (fun z M1 => ?_)
    refine G_pop g (pc := 8) d_Str_checkIndex_8 rfl ?_
    exact G_return g (pc := 9) hret (Nat.le_of_ble_eq_true rfl) (Nat.le_of_ble_eq_true rfl) d_Str_checkIndex_9
  rcases g.2.2.2.2.2.2.2.1.2.2.2.2.2.2.1 with hz | ⟨t, hz⟩
  · exact G_gets g (pc := 2) fl_fmt hz d_Str_checkIndex_2 (key _ (Or.inl rfl))
  · exact G_gets g (pc := 2) fl_fmt hz d_Str_checkIndex_2 (key _ (Or.inr ⟨t, rfl⟩))
set_option maxHeartbeats 4000000 in
set_option maxRecDepth 100000 in
theorem c_La_charAt (l : Launch) {w : Wc} (i : Nat) (hi : i < 20) (k : Int32) (M : Mem) : Ct QI l y_La_charAt b_La_charAt 2 (some .char) (rmL 2) w [.ref (wad w (2000 + i)), .int k] M (f_Str_charAt i k M) := by
  refine Ct.go (by decide) (L := [(0, .ref (wad w (2000 + i))), (1, .int k)]) rfl (Nat.le_of_ble_eq_true rfl) (fun p0 e s m args below meth c g hret => ?_)
  obtain ⟨hO, hcod, hval, hT⟩ := g.2.2.2.2.2.2.2.1.1 i hi
  intro r hr
  obtain ⟨h0, h1⟩ := grd_some hr
  have hin := inB_of h0
  unfold inB at h0
  simp only [Bool.and_eq_true, Bool.not_eq_true', decide_eq_false_iff_not, decide_eq_true_eq] at h0
  have hlt : k.toNatClampNeg < lenS i := h0.2
  have hkn : k < nI (lenS i) := by
    have hL := lenS_lt i hi
    obtain ⟨j, hj, rfl⟩ := vp_in_of hin hL
    exact nI_lt hj hL
  obtain ⟨hb1, hb2⟩ := bytS_ch i hi _ hlt
  have e1 : (bnd (if k < 0 then none else if k < nI (lenS i) then some (k, M) else none) (fun _ M1 => some M1)) = some M := by rw [if_neg h0.1, if_pos hkn]; rfl
  have key : Go p0 l e (rmL 2) s m args below meth c w 2 0 0 (fun r => MQ below (QI w r) args s (rmL 2).cells (rmL 2).slots (wA w)) (bndM (bnd (if k < 0 then none else if k < nI (lenS i) then some (k, M) else none) (fun _ M1 => some M1)) (fun M1 => some (bytS i k.toNatClampNeg, M1))) 0 [(0, .ref (wad w (2000 + i))), (1, .int k)] [] M := by
    refine G_iload_n g (pc := 0) 1 d_La_charAt_0 rfl rfl ?_
    refine G_aload_n g (pc := 1) 0 d_La_charAt_1 rfl rfl ?_
    refine G_tlen g (pc := 2) (nI (lenS i)) hT rfl d_La_charAt_2 ?_
    refine G_cSV g (pc := 3) (As := [.int k, .int (nI (lenS i))]) (st := []) cj_la_chk (c_Str_checkIndex l k (nI (lenS i)) M) rfl ⟨Nat.le_of_ble_eq_true rfl, Nat.le_of_ble_eq_true rfl⟩ ⟨Nat.le_of_ble_eq_true rfl, Nat.le_of_ble_eq_true rfl⟩ (Nat.le_of_ble_eq_true rfl) d_La_charAt_3 (fun M1 => ?_)
    refine G_aload_n g (pc := 6) 0 d_La_charAt_6 rfl rfl ?_
    refine G_iload_n g (pc := 7) 1 d_La_charAt_7 rfl rfl ?_
    refine G_tb g (pc := 8) _ hT hin rfl d_La_charAt_8 ?_
    refine G_sipush g (pc := 9) (255 : Int32) d_La_charAt_9 rfl ?_
    refine G_iand g (pc := 12) d_La_charAt_12 ?_
    refine G_i2c g (pc := 13) d_La_charAt_13 ?_
    rw [hb1]
    exact G_nreturn g (pc := 14) hret hb2 (Nat.le_of_ble_eq_true rfl) (Nat.le_of_ble_eq_true rfl) d_La_charAt_14
  exact key r (by rw [e1]; exact h1)
theorem f_Str_charAt_nar {i : Nat} (hi : i < 20) {k : Int32} {M : Mem} {v : Int32 × Mem} (hv : f_Str_charAt i k M = some v) : narrow .char (.int v.1) = .int v.1 := by
  obtain ⟨h0, h1⟩ := grd_some hv
  unfold inB at h0
  simp only [Bool.and_eq_true, Bool.not_eq_true', decide_eq_false_iff_not, decide_eq_true_eq] at h0
  rw [← Option.some.inj h1]
  exact (bytS_ch i hi _ h0.2).2
def narB (x : Int32) : Bool := decide ((x.toUInt32 % 65536).toInt32 = x)
theorem narB_of {x : Int32} (h : narB x = true) : narrow .char (.int x) = .int x := by
  have h2 : (x.toUInt32 % 65536).toInt32 = x := of_decide_eq_true h
  have h3 := pk_nc x
  rw [h2] at h3
  exact h3
set_option maxHeartbeats 4000000 in
set_option maxRecDepth 100000 in
theorem c_Str_charAt0 (l : Launch) {w : Wc} (i : Nat) (hi : i < 20) (k : Int32) (M : Mem) : Ct QI l y_Str_charAt b_Str_charAt 2 (some .char) (rmL 3) w [.ref (wad w (1000 + i)), .int k] M (bnd (some ((1 : Int32), M)) (fun x M1 => if x = 0 then none else bnd (f_Str_charAt i k M1) (fun x M2 => grd (narB x) (some (x, M2))))) := by
  refine Ct.go (by decide) (L := [(0, .ref (wad w (1000 + i))), (1, .int k)]) rfl (Nat.le_of_ble_eq_true rfl) (fun p0 e s m args below meth c g hret => ?_)
  obtain ⟨hO, hcod, hval, hT⟩ := g.2.2.2.2.2.2.2.1.1 i hi
  refine G_aload_n g (pc := 0) 0 d_Str_charAt_0 rfl rfl ?_
  refine G_cStr g (pc := 1) (As := []) (st := []) cj_chr_lat rfl (c_Str_isLatin1 l i hi M) hi rfl ⟨Nat.le_of_ble_eq_true rfl, Nat.le_of_ble_eq_true rfl⟩ ⟨Nat.le_of_ble_eq_true rfl, Nat.le_of_ble_eq_true rfl⟩ (Nat.le_of_ble_eq_true rfl) d_Str_charAt_1 (fun x M1 => ?_)
  refine G_if_eq g (pc := 4) 16 d_Str_charAt_4 (by decide) (G_none (M := M1)) ?_
  refine G_aload_n g (pc := 7) 0 d_Str_charAt_7 rfl rfl ?_
  refine G_sget g (pc := 8) fl_val hval d_Str_charAt_8 ?_
  refine G_iload_n g (pc := 11) 1 d_Str_charAt_11 rfl rfl ?_
  refine G_cSI2 g (pc := 12) (As := [.ref (wad w (2000 + i)), .int k]) (st := []) cj_chr_la (c_La_charAt l i hi k M1) rfl ⟨Nat.le_of_ble_eq_true rfl, Nat.le_of_ble_eq_true rfl⟩ ⟨Nat.le_of_ble_eq_true rfl, Nat.le_of_ble_eq_true rfl⟩ (Nat.le_of_ble_eq_true rfl) d_Str_charAt_12 (fun x M2 => ?_)
  intro r hr
  obtain ⟨hg, hr⟩ := grd_some hr
  exact G_nreturn g (pc := 15) hret (narB_of hg) (Nat.le_of_ble_eq_true rfl) (Nat.le_of_ble_eq_true rfl) d_Str_charAt_15 r hr
theorem c_Str_charAt (l : Launch) {w : Wc} (i : Nat) (hi : i < 20) (k : Int32) (M : Mem) : Ct QI l y_Str_charAt b_Str_charAt 2 (some .char) (rmL 3) w [.ref (wad w (1000 + i)), .int k] M (f_Str_charAt i k M) := by
  refine Ct.mono (fun r hr => ?_) (c_Str_charAt0 l i hi k M)
  show (if (1 : Int32) = 0 then none else bnd (f_Str_charAt i k M) (fun x M2 => grd (narB x) (some (x, M2)))) = some r
  rw [if_neg (by decide), hr]
  have h2 : narB r.1 = true := by
    obtain ⟨h0, h1⟩ := grd_some hr
    unfold inB at h0
    simp only [Bool.and_eq_true, Bool.not_eq_true', decide_eq_false_iff_not, decide_eq_true_eq] at h0
    have h3 := bytS_nar i hi _ h0.2
    rw [← Option.some.inj h1]
    exact decide_eq_true h3
  exact grd_t h2
end
