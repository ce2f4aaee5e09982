section
-- ===== PART A: goes FIRST, ahead of the names: the tables' words, and 'selects' of the private methods out of them =====
/-- a private method of a class that the tables say can be made, by its rows of tables_1 -/
def lw_okq (q : MethodName × Nat) : Prop := (q.1.cls ≠ "java/lang/invoke/MethodHandle" ∧ q.1.cls ≠ "java/lang/invoke/VarHandle") ∧ Cond.instantiable q.1.cls q.2 ∈ tables_1 ∧ Cond.privateMethod q.1 ∈ tables_1 ∧ Cond.instanceMethod q.1 ∈ tables_1
theorem lw_p0 : lw_okq (⟨"KiteLogger$Samples", "placeOf", "(I)I"⟩, 7) := ⟨⟨by decide +kernel, by decide +kernel⟩, List.mem_of_getElem? (i := 234) (by decide +kernel), List.mem_of_getElem? (i := 542) (by decide +kernel), List.mem_of_getElem? (i := 543) (by decide +kernel)⟩
theorem lw_p1 : lw_okq (⟨"KiteLogger$Kite", "fly", "(I)V"⟩, 13) := ⟨⟨by decide +kernel, by decide +kernel⟩, List.mem_of_getElem? (i := 155) (by decide +kernel), List.mem_of_getElem? (i := 615) (by decide +kernel), List.mem_of_getElem? (i := 616) (by decide +kernel)⟩
theorem lw_p2 : lw_okq (⟨"KiteLogger$Kite", "fall", "(I)V"⟩, 13) := ⟨⟨by decide +kernel, by decide +kernel⟩, List.mem_of_getElem? (i := 155) (by decide +kernel), List.mem_of_getElem? (i := 623) (by decide +kernel), List.mem_of_getElem? (i := 624) (by decide +kernel)⟩
theorem lw_p3 : lw_okq (⟨"KiteLogger$Kite", "landOnGround", "()V"⟩, 13) := ⟨⟨by decide +kernel, by decide +kernel⟩, List.mem_of_getElem? (i := 155) (by decide +kernel), List.mem_of_getElem? (i := 629) (by decide +kernel), List.mem_of_getElem? (i := 630) (by decide +kernel)⟩
theorem lw_p4 : lw_okq (⟨"KiteLogger$Output", "addSign", "(C)V"⟩, 2) := ⟨⟨by decide +kernel, by decide +kernel⟩, List.mem_of_getElem? (i := 327) (by decide +kernel), List.mem_of_getElem? (i := 651) (by decide +kernel), List.mem_of_getElem? (i := 652) (by decide +kernel)⟩
theorem lw_p5 : lw_okq (⟨"KiteLogger$Output", "addNumber", "(I)V"⟩, 2) := ⟨⟨by decide +kernel, by decide +kernel⟩, List.mem_of_getElem? (i := 327) (by decide +kernel), List.mem_of_getElem? (i := 656) (by decide +kernel), List.mem_of_getElem? (i := 657) (by decide +kernel)⟩
theorem lw_p6 : lw_okq (⟨"KiteLogger", "refuseLength", "(I)V"⟩, 9) := ⟨⟨by decide +kernel, by decide +kernel⟩, List.mem_of_getElem? (i := 25) (by decide +kernel), List.mem_of_getElem? (i := 696) (by decide +kernel), List.mem_of_getElem? (i := 697) (by decide +kernel)⟩
theorem lw_p7 : lw_okq (⟨"java/lang/Throwable", "fillInStackTrace", "(I)Ljava/lang/Throwable;"⟩, 6) := ⟨⟨by decide +kernel, by decide +kernel⟩, List.mem_of_getElem? (i := 738) (by decide +kernel), List.mem_of_getElem? (i := 736) (by decide +kernel), List.mem_of_getElem? (i := 737) (by decide +kernel)⟩
theorem lw_p8 : lw_okq (⟨"KiteLogger$TextReader", "byteAt", "(I)I"⟩, 10) := ⟨⟨by decide +kernel, by decide +kernel⟩, List.mem_of_getElem? (i := 33) (by decide +kernel), List.mem_of_getElem? (i := 779) (by decide +kernel), List.mem_of_getElem? (i := 780) (by decide +kernel)⟩
theorem lw_p9 : lw_okq (⟨"KiteLogger$StationPlan", "readKite", "(LKiteLogger$TextReader;)Z"⟩, 6) := ⟨⟨by decide +kernel, by decide +kernel⟩, List.mem_of_getElem? (i := 79) (by decide +kernel), List.mem_of_getElem? (i := 791) (by decide +kernel), List.mem_of_getElem? (i := 792) (by decide +kernel)⟩
theorem lw_p10 : lw_okq (⟨"KiteLogger$StationPlan", "readGusts", "(LKiteLogger$TextReader;)Z"⟩, 6) := ⟨⟨by decide +kernel, by decide +kernel⟩, List.mem_of_getElem? (i := 79) (by decide +kernel), List.mem_of_getElem? (i := 869) (by decide +kernel), List.mem_of_getElem? (i := 870) (by decide +kernel)⟩
theorem lw_p11 : lw_okq (⟨"KiteLogger$StationPlan", "readInterval", "(LKiteLogger$TextReader;)Z"⟩, 6) := ⟨⟨by decide +kernel, by decide +kernel⟩, List.mem_of_getElem? (i := 79) (by decide +kernel), List.mem_of_getElem? (i := 880) (by decide +kernel), List.mem_of_getElem? (i := 881) (by decide +kernel)⟩
theorem lw_p12 : lw_okq (⟨"KiteLogger", "change", "(III)I"⟩, 9) := ⟨⟨by decide +kernel, by decide +kernel⟩, List.mem_of_getElem? (i := 25) (by decide +kernel), List.mem_of_getElem? (i := 1011) (by decide +kernel), List.mem_of_getElem? (i := 1012) (by decide +kernel)⟩
theorem lw_p13 : lw_okq (⟨"KiteLogger$Station", "isForbidden", "(II)Z"⟩, 9) := ⟨⟨by decide +kernel, by decide +kernel⟩, List.mem_of_getElem? (i := 149) (by decide +kernel), List.mem_of_getElem? (i := 1023) (by decide +kernel), List.mem_of_getElem? (i := 1024) (by decide +kernel)⟩
theorem lw_p14 : lw_okq (⟨"KiteLogger$History", "placeAt", "(I)LKiteLogger$Station;"⟩, 3) := ⟨⟨by decide +kernel, by decide +kernel⟩, List.mem_of_getElem? (i := 307) (by decide +kernel), List.mem_of_getElem? (i := 1048) (by decide +kernel), List.mem_of_getElem? (i := 1049) (by decide +kernel)⟩
theorem lw_p15 : lw_okq (⟨"KiteLogger$Station", "changeInterval", "(I)I"⟩, 9) := ⟨⟨by decide +kernel, by decide +kernel⟩, List.mem_of_getElem? (i := 149) (by decide +kernel), List.mem_of_getElem? (i := 1074) (by decide +kernel), List.mem_of_getElem? (i := 1075) (by decide +kernel)⟩
def lw_privs_1 : List (MethodName × Nat) := [(⟨"KiteLogger$Samples", "placeOf", "(I)I"⟩, 7), (⟨"KiteLogger$Kite", "fly", "(I)V"⟩, 13), (⟨"KiteLogger$Kite", "fall", "(I)V"⟩, 13), (⟨"KiteLogger$Kite", "landOnGround", "()V"⟩, 13), (⟨"KiteLogger$Output", "addSign", "(C)V"⟩, 2), (⟨"KiteLogger$Output", "addNumber", "(I)V"⟩, 2), (⟨"KiteLogger", "refuseLength", "(I)V"⟩, 9), (⟨"java/lang/Throwable", "fillInStackTrace", "(I)Ljava/lang/Throwable;"⟩, 6), (⟨"KiteLogger$TextReader", "byteAt", "(I)I"⟩, 10), (⟨"KiteLogger$StationPlan", "readKite", "(LKiteLogger$TextReader;)Z"⟩, 6), (⟨"KiteLogger$StationPlan", "readGusts", "(LKiteLogger$TextReader;)Z"⟩, 6), (⟨"KiteLogger$StationPlan", "readInterval", "(LKiteLogger$TextReader;)Z"⟩, 6), (⟨"KiteLogger", "change", "(III)I"⟩, 9), (⟨"KiteLogger$Station", "isForbidden", "(II)Z"⟩, 9), (⟨"KiteLogger$History", "placeAt", "(I)LKiteLogger$Station;"⟩, 3), (⟨"KiteLogger$Station", "changeInterval", "(I)I"⟩, 9)]
theorem lw_r1 : ∀ q ∈ lw_privs_1, lw_okq q := List.forall_mem_cons.mpr ⟨lw_p0, List.forall_mem_cons.mpr ⟨lw_p1, List.forall_mem_cons.mpr ⟨lw_p2, List.forall_mem_cons.mpr ⟨lw_p3, List.forall_mem_cons.mpr ⟨lw_p4, List.forall_mem_cons.mpr ⟨lw_p5, List.forall_mem_cons.mpr ⟨lw_p6, List.forall_mem_cons.mpr ⟨lw_p7, List.forall_mem_cons.mpr ⟨lw_p8, List.forall_mem_cons.mpr ⟨lw_p9, List.forall_mem_cons.mpr ⟨lw_p10, List.forall_mem_cons.mpr ⟨lw_p11, List.forall_mem_cons.mpr ⟨lw_p12, List.forall_mem_cons.mpr ⟨lw_p13, List.forall_mem_cons.mpr ⟨lw_p14, List.forall_mem_cons.mpr ⟨lw_p15, fun _ h => absurd h List.not_mem_nil⟩⟩⟩⟩⟩⟩⟩⟩⟩⟩⟩⟩⟩⟩⟩⟩
theorem lw_p16 : lw_okq (⟨"KiteLogger$Station", "moveSamples", "()I"⟩, 9) := ⟨⟨by decide +kernel, by decide +kernel⟩, List.mem_of_getElem? (i := 149) (by decide +kernel), List.mem_of_getElem? (i := 1083) (by decide +kernel), List.mem_of_getElem? (i := 1084) (by decide +kernel)⟩
theorem lw_p17 : lw_okq (⟨"KiteLogger$Station", "passMany", "(I)I"⟩, 9) := ⟨⟨by decide +kernel, by decide +kernel⟩, List.mem_of_getElem? (i := 149) (by decide +kernel), List.mem_of_getElem? (i := 1096) (by decide +kernel), List.mem_of_getElem? (i := 1097) (by decide +kernel)⟩
theorem lw_p18 : lw_okq (⟨"KiteLogger$Station", "passOne", "()V"⟩, 9) := ⟨⟨by decide +kernel, by decide +kernel⟩, List.mem_of_getElem? (i := 149) (by decide +kernel), List.mem_of_getElem? (i := 1100) (by decide +kernel), List.mem_of_getElem? (i := 1101) (by decide +kernel)⟩
theorem lw_p19 : lw_okq (⟨"KiteLogger$Script", "readBlock", "(LKiteLogger$TextReader;I)Z"⟩, 6) := ⟨⟨by decide +kernel, by decide +kernel⟩, List.mem_of_getElem? (i := 122) (by decide +kernel), List.mem_of_getElem? (i := 1173) (by decide +kernel), List.mem_of_getElem? (i := 1174) (by decide +kernel)⟩
theorem lw_p20 : lw_okq (⟨"KiteLogger$Script", "readCommand", "(LKiteLogger$TextReader;I)Z"⟩, 6) := ⟨⟨by decide +kernel, by decide +kernel⟩, List.mem_of_getElem? (i := 122) (by decide +kernel), List.mem_of_getElem? (i := 1177) (by decide +kernel), List.mem_of_getElem? (i := 1178) (by decide +kernel)⟩
theorem lw_p21 : lw_okq (⟨"KiteLogger$Script", "readNumbers", "(LKiteLogger$TextReader;II)Z"⟩, 6) := ⟨⟨by decide +kernel, by decide +kernel⟩, List.mem_of_getElem? (i := 122) (by decide +kernel), List.mem_of_getElem? (i := 1201) (by decide +kernel), List.mem_of_getElem? (i := 1202) (by decide +kernel)⟩
theorem lw_p22 : lw_okq (⟨"KiteLogger$Script", "readBody", "(LKiteLogger$TextReader;I)Z"⟩, 6) := ⟨⟨by decide +kernel, by decide +kernel⟩, List.mem_of_getElem? (i := 122) (by decide +kernel), List.mem_of_getElem? (i := 1206) (by decide +kernel), List.mem_of_getElem? (i := 1207) (by decide +kernel)⟩
theorem lw_p23 : lw_okq (⟨"KiteLoggerModel", "begin", "(III)V"⟩, 28) := ⟨⟨by decide +kernel, by decide +kernel⟩, List.mem_of_getElem? (i := 1252) (by decide +kernel), List.mem_of_getElem? (i := 1269) (by decide +kernel), List.mem_of_getElem? (i := 1270) (by decide +kernel)⟩
theorem lw_p24 : lw_okq (⟨"KiteLoggerModel", "addGust", "(I)V"⟩, 28) := ⟨⟨by decide +kernel, by decide +kernel⟩, List.mem_of_getElem? (i := 1252) (by decide +kernel), List.mem_of_getElem? (i := 1273) (by decide +kernel), List.mem_of_getElem? (i := 1274) (by decide +kernel)⟩
theorem lw_p25 : lw_okq (⟨"KiteLoggerModel", "lacks", "(Z)Z"⟩, 28) := ⟨⟨by decide +kernel, by decide +kernel⟩, List.mem_of_getElem? (i := 1252) (by decide +kernel), List.mem_of_getElem? (i := 1381) (by decide +kernel), List.mem_of_getElem? (i := 1382) (by decide +kernel)⟩
theorem lw_p26 : lw_okq (⟨"KiteLoggerModel", "gustOf", "(I)I"⟩, 28) := ⟨⟨by decide +kernel, by decide +kernel⟩, List.mem_of_getElem? (i := 1252) (by decide +kernel), List.mem_of_getElem? (i := 1385) (by decide +kernel), List.mem_of_getElem? (i := 1386) (by decide +kernel)⟩
theorem lw_p27 : lw_okq (⟨"KiteLoggerModel", "windNow", "(I)I"⟩, 28) := ⟨⟨by decide +kernel, by decide +kernel⟩, List.mem_of_getElem? (i := 1252) (by decide +kernel), List.mem_of_getElem? (i := 1393) (by decide +kernel), List.mem_of_getElem? (i := 1394) (by decide +kernel)⟩
theorem lw_p28 : lw_okq (⟨"KiteLoggerModel", "greatest", "()I"⟩, 28) := ⟨⟨by decide +kernel, by decide +kernel⟩, List.mem_of_getElem? (i := 1252) (by decide +kernel), List.mem_of_getElem? (i := 1409) (by decide +kernel), List.mem_of_getElem? (i := 1410) (by decide +kernel)⟩
theorem lw_p29 : lw_okq (⟨"KiteLoggerModel", "is", "(I)Z"⟩, 28) := ⟨⟨by decide +kernel, by decide +kernel⟩, List.mem_of_getElem? (i := 1252) (by decide +kernel), List.mem_of_getElem? (i := 1427) (by decide +kernel), List.mem_of_getElem? (i := 1428) (by decide +kernel)⟩
theorem lw_p30 : lw_okq (⟨"KiteLoggerModel", "load", "(I)I"⟩, 28) := ⟨⟨by decide +kernel, by decide +kernel⟩, List.mem_of_getElem? (i := 1252) (by decide +kernel), List.mem_of_getElem? (i := 1467) (by decide +kernel), List.mem_of_getElem? (i := 1468) (by decide +kernel)⟩
theorem lw_p31 : lw_okq (⟨"KiteLoggerModel", "logged", "(II)I"⟩, 28) := ⟨⟨by decide +kernel, by decide +kernel⟩, List.mem_of_getElem? (i := 1252) (by decide +kernel), List.mem_of_getElem? (i := 1503) (by decide +kernel), List.mem_of_getElem? (i := 1504) (by decide +kernel)⟩
def lw_privs_2 : List (MethodName × Nat) := [(⟨"KiteLogger$Station", "moveSamples", "()I"⟩, 9), (⟨"KiteLogger$Station", "passMany", "(I)I"⟩, 9), (⟨"KiteLogger$Station", "passOne", "()V"⟩, 9), (⟨"KiteLogger$Script", "readBlock", "(LKiteLogger$TextReader;I)Z"⟩, 6), (⟨"KiteLogger$Script", "readCommand", "(LKiteLogger$TextReader;I)Z"⟩, 6), (⟨"KiteLogger$Script", "readNumbers", "(LKiteLogger$TextReader;II)Z"⟩, 6), (⟨"KiteLogger$Script", "readBody", "(LKiteLogger$TextReader;I)Z"⟩, 6), (⟨"KiteLoggerModel", "begin", "(III)V"⟩, 28), (⟨"KiteLoggerModel", "addGust", "(I)V"⟩, 28), (⟨"KiteLoggerModel", "lacks", "(Z)Z"⟩, 28), (⟨"KiteLoggerModel", "gustOf", "(I)I"⟩, 28), (⟨"KiteLoggerModel", "windNow", "(I)I"⟩, 28), (⟨"KiteLoggerModel", "greatest", "()I"⟩, 28), (⟨"KiteLoggerModel", "is", "(I)Z"⟩, 28), (⟨"KiteLoggerModel", "load", "(I)I"⟩, 28), (⟨"KiteLoggerModel", "logged", "(II)I"⟩, 28)]
theorem lw_r2 : ∀ q ∈ lw_privs_2, lw_okq q := List.forall_mem_cons.mpr ⟨lw_p16, List.forall_mem_cons.mpr ⟨lw_p17, List.forall_mem_cons.mpr ⟨lw_p18, List.forall_mem_cons.mpr ⟨lw_p19, List.forall_mem_cons.mpr ⟨lw_p20, List.forall_mem_cons.mpr ⟨lw_p21, List.forall_mem_cons.mpr ⟨lw_p22, List.forall_mem_cons.mpr ⟨lw_p23, List.forall_mem_cons.mpr ⟨lw_p24, List.forall_mem_cons.mpr ⟨lw_p25, List.forall_mem_cons.mpr ⟨lw_p26, List.forall_mem_cons.mpr ⟨lw_p27, List.forall_mem_cons.mpr ⟨lw_p28, List.forall_mem_cons.mpr ⟨lw_p29, List.forall_mem_cons.mpr ⟨lw_p30, List.forall_mem_cons.mpr ⟨lw_p31, fun _ h => absurd h List.not_mem_nil⟩⟩⟩⟩⟩⟩⟩⟩⟩⟩⟩⟩⟩⟩⟩⟩
theorem lw_p32 : lw_okq (⟨"KiteLoggerModel", "archived", "(II)I"⟩, 28) := ⟨⟨by decide +kernel, by decide +kernel⟩, List.mem_of_getElem? (i := 1252) (by decide +kernel), List.mem_of_getElem? (i := 1527) (by decide +kernel), List.mem_of_getElem? (i := 1528) (by decide +kernel)⟩
theorem lw_p33 : lw_okq (⟨"KiteLoggerModel", "ofArchive", "(II)I"⟩, 28) := ⟨⟨by decide +kernel, by decide +kernel⟩, List.mem_of_getElem? (i := 1252) (by decide +kernel), List.mem_of_getElem? (i := 1531) (by decide +kernel), List.mem_of_getElem? (i := 1532) (by decide +kernel)⟩
theorem lw_p34 : lw_okq (⟨"KiteLoggerModel", "countBetween", "(II)I"⟩, 28) := ⟨⟨by decide +kernel, by decide +kernel⟩, List.mem_of_getElem? (i := 1252) (by decide +kernel), List.mem_of_getElem? (i := 1547) (by decide +kernel), List.mem_of_getElem? (i := 1548) (by decide +kernel)⟩
theorem lw_p35 : lw_okq (⟨"KiteLoggerModel", "disorder", "(II)I"⟩, 28) := ⟨⟨by decide +kernel, by decide +kernel⟩, List.mem_of_getElem? (i := 1252) (by decide +kernel), List.mem_of_getElem? (i := 1574) (by decide +kernel), List.mem_of_getElem? (i := 1575) (by decide +kernel)⟩
theorem lw_p36 : lw_okq (⟨"KiteLoggerModel", "whyNotLaunch", "()I"⟩, 28) := ⟨⟨by decide +kernel, by decide +kernel⟩, List.mem_of_getElem? (i := 1252) (by decide +kernel), List.mem_of_getElem? (i := 1582) (by decide +kernel), List.mem_of_getElem? (i := 1583) (by decide +kernel)⟩
theorem lw_p37 : lw_okq (⟨"KiteLoggerModel", "putAside", "()V"⟩, 28) := ⟨⟨by decide +kernel, by decide +kernel⟩, List.mem_of_getElem? (i := 1252) (by decide +kernel), List.mem_of_getElem? (i := 1590) (by decide +kernel), List.mem_of_getElem? (i := 1591) (by decide +kernel)⟩
theorem lw_p38 : lw_okq (⟨"KiteLoggerModel", "pass", "(I)V"⟩, 28) := ⟨⟨by decide +kernel, by decide +kernel⟩, List.mem_of_getElem? (i := 1252) (by decide +kernel), List.mem_of_getElem? (i := 1598) (by decide +kernel), List.mem_of_getElem? (i := 1599) (by decide +kernel)⟩
theorem lw_p39 : lw_okq (⟨"KiteLoggerModel", "passTick", "()V"⟩, 28) := ⟨⟨by decide +kernel, by decide +kernel⟩, List.mem_of_getElem? (i := 1252) (by decide +kernel), List.mem_of_getElem? (i := 1602) (by decide +kernel), List.mem_of_getElem? (i := 1603) (by decide +kernel)⟩
theorem lw_p40 : lw_okq (⟨"KiteLoggerModel", "fly", "()V"⟩, 28) := ⟨⟨by decide +kernel, by decide +kernel⟩, List.mem_of_getElem? (i := 1252) (by decide +kernel), List.mem_of_getElem? (i := 1606) (by decide +kernel), List.mem_of_getElem? (i := 1607) (by decide +kernel)⟩
theorem lw_p41 : lw_okq (⟨"KiteLoggerModel", "bufferWind", "(I)V"⟩, 28) := ⟨⟨by decide +kernel, by decide +kernel⟩, List.mem_of_getElem? (i := 1252) (by decide +kernel), List.mem_of_getElem? (i := 1610) (by decide +kernel), List.mem_of_getElem? (i := 1611) (by decide +kernel)⟩
theorem lw_p42 : lw_okq (⟨"KiteLoggerModel", "strain", "(I)V"⟩, 28) := ⟨⟨by decide +kernel, by decide +kernel⟩, List.mem_of_getElem? (i := 1252) (by decide +kernel), List.mem_of_getElem? (i := 1614) (by decide +kernel), List.mem_of_getElem? (i := 1615) (by decide +kernel)⟩
theorem lw_p43 : lw_okq (⟨"KiteLoggerModel", "snap", "(I)V"⟩, 28) := ⟨⟨by decide +kernel, by decide +kernel⟩, List.mem_of_getElem? (i := 1252) (by decide +kernel), List.mem_of_getElem? (i := 1618) (by decide +kernel), List.mem_of_getElem? (i := 1619) (by decide +kernel)⟩
theorem lw_p44 : lw_okq (⟨"KiteLoggerModel", "climb", "(I)V"⟩, 28) := ⟨⟨by decide +kernel, by decide +kernel⟩, List.mem_of_getElem? (i := 1252) (by decide +kernel), List.mem_of_getElem? (i := 1622) (by decide +kernel), List.mem_of_getElem? (i := 1623) (by decide +kernel)⟩
theorem lw_p45 : lw_okq (⟨"KiteLoggerModel", "makeSample", "()V"⟩, 28) := ⟨⟨by decide +kernel, by decide +kernel⟩, List.mem_of_getElem? (i := 1252) (by decide +kernel), List.mem_of_getElem? (i := 1629) (by decide +kernel), List.mem_of_getElem? (i := 1630) (by decide +kernel)⟩
theorem lw_p46 : lw_okq (⟨"KiteLoggerModel", "laidBack", "(I)I"⟩, 28) := ⟨⟨by decide +kernel, by decide +kernel⟩, List.mem_of_getElem? (i := 1252) (by decide +kernel), List.mem_of_getElem? (i := 1633) (by decide +kernel), List.mem_of_getElem? (i := 1634) (by decide +kernel)⟩
theorem lw_p47 : lw_okq (⟨"KiteLoggerModel", "untilSnap", "()I"⟩, 28) := ⟨⟨by decide +kernel, by decide +kernel⟩, List.mem_of_getElem? (i := 1252) (by decide +kernel), List.mem_of_getElem? (i := 1641) (by decide +kernel), List.mem_of_getElem? (i := 1642) (by decide +kernel)⟩
def lw_privs_3 : List (MethodName × Nat) := [(⟨"KiteLoggerModel", "archived", "(II)I"⟩, 28), (⟨"KiteLoggerModel", "ofArchive", "(II)I"⟩, 28), (⟨"KiteLoggerModel", "countBetween", "(II)I"⟩, 28), (⟨"KiteLoggerModel", "disorder", "(II)I"⟩, 28), (⟨"KiteLoggerModel", "whyNotLaunch", "()I"⟩, 28), (⟨"KiteLoggerModel", "putAside", "()V"⟩, 28), (⟨"KiteLoggerModel", "pass", "(I)V"⟩, 28), (⟨"KiteLoggerModel", "passTick", "()V"⟩, 28), (⟨"KiteLoggerModel", "fly", "()V"⟩, 28), (⟨"KiteLoggerModel", "bufferWind", "(I)V"⟩, 28), (⟨"KiteLoggerModel", "strain", "(I)V"⟩, 28), (⟨"KiteLoggerModel", "snap", "(I)V"⟩, 28), (⟨"KiteLoggerModel", "climb", "(I)V"⟩, 28), (⟨"KiteLoggerModel", "makeSample", "()V"⟩, 28), (⟨"KiteLoggerModel", "laidBack", "(I)I"⟩, 28), (⟨"KiteLoggerModel", "untilSnap", "()I"⟩, 28)]
theorem lw_r3 : ∀ q ∈ lw_privs_3, lw_okq q := List.forall_mem_cons.mpr ⟨lw_p32, List.forall_mem_cons.mpr ⟨lw_p33, List.forall_mem_cons.mpr ⟨lw_p34, List.forall_mem_cons.mpr ⟨lw_p35, List.forall_mem_cons.mpr ⟨lw_p36, List.forall_mem_cons.mpr ⟨lw_p37, List.forall_mem_cons.mpr ⟨lw_p38, List.forall_mem_cons.mpr ⟨lw_p39, List.forall_mem_cons.mpr ⟨lw_p40, List.forall_mem_cons.mpr ⟨lw_p41, List.forall_mem_cons.mpr ⟨lw_p42, List.forall_mem_cons.mpr ⟨lw_p43, List.forall_mem_cons.mpr ⟨lw_p44, List.forall_mem_cons.mpr ⟨lw_p45, List.forall_mem_cons.mpr ⟨lw_p46, List.forall_mem_cons.mpr ⟨lw_p47, fun _ h => absurd h List.not_mem_nil⟩⟩⟩⟩⟩⟩⟩⟩⟩⟩⟩⟩⟩⟩⟩⟩
theorem lw_p48 : lw_okq (⟨"KiteLoggerModel", "greatestGust", "()I"⟩, 28) := ⟨⟨by decide +kernel, by decide +kernel⟩, List.mem_of_getElem? (i := 1252) (by decide +kernel), List.mem_of_getElem? (i := 1649) (by decide +kernel), List.mem_of_getElem? (i := 1650) (by decide +kernel)⟩
theorem lw_p49 : lw_okq (⟨"KiteLoggerModel", "keep", "()V"⟩, 28) := ⟨⟨by decide +kernel, by decide +kernel⟩, List.mem_of_getElem? (i := 1252) (by decide +kernel), List.mem_of_getElem? (i := 1657) (by decide +kernel), List.mem_of_getElem? (i := 1658) (by decide +kernel)⟩
theorem lw_p50 : lw_okq (⟨"KiteLoggerModel", "doLaunch", "()I"⟩, 28) := ⟨⟨by decide +kernel, by decide +kernel⟩, List.mem_of_getElem? (i := 1252) (by decide +kernel), List.mem_of_getElem? (i := 1661) (by decide +kernel), List.mem_of_getElem? (i := 1662) (by decide +kernel)⟩
theorem lw_p51 : lw_okq (⟨"KiteLoggerModel", "ends", "(I)I"⟩, 28) := ⟨⟨by decide +kernel, by decide +kernel⟩, List.mem_of_getElem? (i := 1252) (by decide +kernel), List.mem_of_getElem? (i := 1665) (by decide +kernel), List.mem_of_getElem? (i := 1666) (by decide +kernel)⟩
theorem lw_p52 : lw_okq (⟨"KiteLoggerModel", "record", "()V"⟩, 28) := ⟨⟨by decide +kernel, by decide +kernel⟩, List.mem_of_getElem? (i := 1252) (by decide +kernel), List.mem_of_getElem? (i := 1669) (by decide +kernel), List.mem_of_getElem? (i := 1670) (by decide +kernel)⟩
theorem lw_p53 : lw_okq (⟨"KiteLoggerModel", "doOut", "(I)I"⟩, 28) := ⟨⟨by decide +kernel, by decide +kernel⟩, List.mem_of_getElem? (i := 1252) (by decide +kernel), List.mem_of_getElem? (i := 1677) (by decide +kernel), List.mem_of_getElem? (i := 1678) (by decide +kernel)⟩
theorem lw_p54 : lw_okq (⟨"KiteLoggerModel", "doIn", "(I)I"⟩, 28) := ⟨⟨by decide +kernel, by decide +kernel⟩, List.mem_of_getElem? (i := 1252) (by decide +kernel), List.mem_of_getElem? (i := 1685) (by decide +kernel), List.mem_of_getElem? (i := 1686) (by decide +kernel)⟩
theorem lw_p55 : lw_okq (⟨"KiteLoggerModel", "doBridle", "(II)I"⟩, 28) := ⟨⟨by decide +kernel, by decide +kernel⟩, List.mem_of_getElem? (i := 1252) (by decide +kernel), List.mem_of_getElem? (i := 1693) (by decide +kernel), List.mem_of_getElem? (i := 1694) (by decide +kernel)⟩
theorem lw_p56 : lw_okq (⟨"KiteLoggerModel", "doEvery", "(I)I"⟩, 28) := ⟨⟨by decide +kernel, by decide +kernel⟩, List.mem_of_getElem? (i := 1252) (by decide +kernel), List.mem_of_getElem? (i := 1701) (by decide +kernel), List.mem_of_getElem? (i := 1702) (by decide +kernel)⟩
theorem lw_p57 : lw_okq (⟨"KiteLoggerModel", "doSearch", "(I)I"⟩, 28) := ⟨⟨by decide +kernel, by decide +kernel⟩, List.mem_of_getElem? (i := 1252) (by decide +kernel), List.mem_of_getElem? (i := 1709) (by decide +kernel), List.mem_of_getElem? (i := 1710) (by decide +kernel)⟩
theorem lw_p58 : lw_okq (⟨"KiteLoggerModel", "doArchive", "()I"⟩, 28) := ⟨⟨by decide +kernel, by decide +kernel⟩, List.mem_of_getElem? (i := 1252) (by decide +kernel), List.mem_of_getElem? (i := 1717) (by decide +kernel), List.mem_of_getElem? (i := 1718) (by decide +kernel)⟩
theorem lw_p59 : lw_okq (⟨"KiteLoggerModel", "doWait", "(I)I"⟩, 28) := ⟨⟨by decide +kernel, by decide +kernel⟩, List.mem_of_getElem? (i := 1252) (by decide +kernel), List.mem_of_getElem? (i := 1725) (by decide +kernel), List.mem_of_getElem? (i := 1726) (by decide +kernel)⟩
theorem lw_p60 : lw_okq (⟨"KiteLoggerModel", "write", "(I)V"⟩, 28) := ⟨⟨by decide +kernel, by decide +kernel⟩, List.mem_of_getElem? (i := 1252) (by decide +kernel), List.mem_of_getElem? (i := 1733) (by decide +kernel), List.mem_of_getElem? (i := 1734) (by decide +kernel)⟩
theorem lw_p61 : lw_okq (⟨"KiteLoggerModel", "writeNumber", "(I)V"⟩, 28) := ⟨⟨by decide +kernel, by decide +kernel⟩, List.mem_of_getElem? (i := 1252) (by decide +kernel), List.mem_of_getElem? (i := 1737) (by decide +kernel), List.mem_of_getElem? (i := 1738) (by decide +kernel)⟩
theorem lw_p62 : lw_okq (⟨"KiteLoggerModel", "isLength", "(I)Z"⟩, 28) := ⟨⟨by decide +kernel, by decide +kernel⟩, List.mem_of_getElem? (i := 1252) (by decide +kernel), List.mem_of_getElem? (i := 1777) (by decide +kernel), List.mem_of_getElem? (i := 1778) (by decide +kernel)⟩
theorem lw_p63 : lw_okq (⟨"KiteLoggerModel", "startText", "(I)V"⟩, 28) := ⟨⟨by decide +kernel, by decide +kernel⟩, List.mem_of_getElem? (i := 1252) (by decide +kernel), List.mem_of_getElem? (i := 1781) (by decide +kernel), List.mem_of_getElem? (i := 1782) (by decide +kernel)⟩
def lw_privs_4 : List (MethodName × Nat) := [(⟨"KiteLoggerModel", "greatestGust", "()I"⟩, 28), (⟨"KiteLoggerModel", "keep", "()V"⟩, 28), (⟨"KiteLoggerModel", "doLaunch", "()I"⟩, 28), (⟨"KiteLoggerModel", "ends", "(I)I"⟩, 28), (⟨"KiteLoggerModel", "record", "()V"⟩, 28), (⟨"KiteLoggerModel", "doOut", "(I)I"⟩, 28), (⟨"KiteLoggerModel", "doIn", "(I)I"⟩, 28), (⟨"KiteLoggerModel", "doBridle", "(II)I"⟩, 28), (⟨"KiteLoggerModel", "doEvery", "(I)I"⟩, 28), (⟨"KiteLoggerModel", "doSearch", "(I)I"⟩, 28), (⟨"KiteLoggerModel", "doArchive", "()I"⟩, 28), (⟨"KiteLoggerModel", "doWait", "(I)I"⟩, 28), (⟨"KiteLoggerModel", "write", "(I)V"⟩, 28), (⟨"KiteLoggerModel", "writeNumber", "(I)V"⟩, 28), (⟨"KiteLoggerModel", "isLength", "(I)Z"⟩, 28), (⟨"KiteLoggerModel", "startText", "(I)V"⟩, 28)]
theorem lw_r4 : ∀ q ∈ lw_privs_4, lw_okq q := List.forall_mem_cons.mpr ⟨lw_p48, List.forall_mem_cons.mpr ⟨lw_p49, List.forall_mem_cons.mpr ⟨lw_p50, List.forall_mem_cons.mpr ⟨lw_p51, List.forall_mem_cons.mpr ⟨lw_p52, List.forall_mem_cons.mpr ⟨lw_p53, List.forall_mem_cons.mpr ⟨lw_p54, List.forall_mem_cons.mpr ⟨lw_p55, List.forall_mem_cons.mpr ⟨lw_p56, List.forall_mem_cons.mpr ⟨lw_p57, List.forall_mem_cons.mpr ⟨lw_p58, List.forall_mem_cons.mpr ⟨lw_p59, List.forall_mem_cons.mpr ⟨lw_p60, List.forall_mem_cons.mpr ⟨lw_p61, List.forall_mem_cons.mpr ⟨lw_p62, List.forall_mem_cons.mpr ⟨lw_p63, fun _ h => absurd h List.not_mem_nil⟩⟩⟩⟩⟩⟩⟩⟩⟩⟩⟩⟩⟩⟩⟩⟩
theorem lw_p64 : lw_okq (⟨"KiteLoggerModel", "scan", "()V"⟩, 28) := ⟨⟨by decide +kernel, by decide +kernel⟩, List.mem_of_getElem? (i := 1252) (by decide +kernel), List.mem_of_getElem? (i := 1785) (by decide +kernel), List.mem_of_getElem? (i := 1786) (by decide +kernel)⟩
theorem lw_p65 : lw_okq (⟨"KiteLoggerModel", "byteAt", "(I)I"⟩, 28) := ⟨⟨by decide +kernel, by decide +kernel⟩, List.mem_of_getElem? (i := 1252) (by decide +kernel), List.mem_of_getElem? (i := 1789) (by decide +kernel), List.mem_of_getElem? (i := 1790) (by decide +kernel)⟩
theorem lw_p66 : lw_okq (⟨"KiteLoggerModel", "isLetter", "(I)Z"⟩, 28) := ⟨⟨by decide +kernel, by decide +kernel⟩, List.mem_of_getElem? (i := 1252) (by decide +kernel), List.mem_of_getElem? (i := 1793) (by decide +kernel), List.mem_of_getElem? (i := 1794) (by decide +kernel)⟩
theorem lw_p67 : lw_okq (⟨"KiteLoggerModel", "isDigit", "(I)Z"⟩, 28) := ⟨⟨by decide +kernel, by decide +kernel⟩, List.mem_of_getElem? (i := 1252) (by decide +kernel), List.mem_of_getElem? (i := 1797) (by decide +kernel), List.mem_of_getElem? (i := 1798) (by decide +kernel)⟩
theorem lw_p68 : lw_okq (⟨"KiteLoggerModel", "readStation", "()V"⟩, 28) := ⟨⟨by decide +kernel, by decide +kernel⟩, List.mem_of_getElem? (i := 1252) (by decide +kernel), List.mem_of_getElem? (i := 1801) (by decide +kernel), List.mem_of_getElem? (i := 1802) (by decide +kernel)⟩
theorem lw_p69 : lw_okq (⟨"KiteLoggerModel", "isWord", "(Ljava/lang/String;)Z"⟩, 28) := ⟨⟨by decide +kernel, by decide +kernel⟩, List.mem_of_getElem? (i := 1252) (by decide +kernel), List.mem_of_getElem? (i := 1806) (by decide +kernel), List.mem_of_getElem? (i := 1807) (by decide +kernel)⟩
theorem lw_p70 : lw_okq (⟨"KiteLoggerModel", "check", "(ZI)V"⟩, 28) := ⟨⟨by decide +kernel, by decide +kernel⟩, List.mem_of_getElem? (i := 1252) (by decide +kernel), List.mem_of_getElem? (i := 1812) (by decide +kernel), List.mem_of_getElem? (i := 1813) (by decide +kernel)⟩
theorem lw_p71 : lw_okq (⟨"KiteLoggerModel", "advance", "()V"⟩, 28) := ⟨⟨by decide +kernel, by decide +kernel⟩, List.mem_of_getElem? (i := 1252) (by decide +kernel), List.mem_of_getElem? (i := 1816) (by decide +kernel), List.mem_of_getElem? (i := 1817) (by decide +kernel)⟩
theorem lw_p72 : lw_okq (⟨"KiteLoggerModel", "readNumber", "(II)I"⟩, 28) := ⟨⟨by decide +kernel, by decide +kernel⟩, List.mem_of_getElem? (i := 1252) (by decide +kernel), List.mem_of_getElem? (i := 1820) (by decide +kernel), List.mem_of_getElem? (i := 1821) (by decide +kernel)⟩
theorem lw_p73 : lw_okq (⟨"KiteLoggerModel", "look", "(II)I"⟩, 28) := ⟨⟨by decide +kernel, by decide +kernel⟩, List.mem_of_getElem? (i := 1252) (by decide +kernel), List.mem_of_getElem? (i := 1824) (by decide +kernel), List.mem_of_getElem? (i := 1825) (by decide +kernel)⟩
theorem lw_p74 : lw_okq (⟨"KiteLoggerModel", "value", "()I"⟩, 28) := ⟨⟨by decide +kernel, by decide +kernel⟩, List.mem_of_getElem? (i := 1252) (by decide +kernel), List.mem_of_getElem? (i := 1828) (by decide +kernel), List.mem_of_getElem? (i := 1829) (by decide +kernel)⟩
theorem lw_p75 : lw_okq (⟨"KiteLoggerModel", "expect", "(I)V"⟩, 28) := ⟨⟨by decide +kernel, by decide +kernel⟩, List.mem_of_getElem? (i := 1252) (by decide +kernel), List.mem_of_getElem? (i := 1833) (by decide +kernel), List.mem_of_getElem? (i := 1834) (by decide +kernel)⟩
theorem lw_p76 : lw_okq (⟨"KiteLoggerModel", "isSymbol", "(I)Z"⟩, 28) := ⟨⟨by decide +kernel, by decide +kernel⟩, List.mem_of_getElem? (i := 1252) (by decide +kernel), List.mem_of_getElem? (i := 1837) (by decide +kernel), List.mem_of_getElem? (i := 1838) (by decide +kernel)⟩
theorem lw_p77 : lw_okq (⟨"KiteLoggerModel", "readGust", "()V"⟩, 28) := ⟨⟨by decide +kernel, by decide +kernel⟩, List.mem_of_getElem? (i := 1252) (by decide +kernel), List.mem_of_getElem? (i := 1842) (by decide +kernel), List.mem_of_getElem? (i := 1843) (by decide +kernel)⟩
theorem lw_p78 : lw_okq (⟨"KiteLoggerModel", "isFaulty", "()Z"⟩, 28) := ⟨⟨by decide +kernel, by decide +kernel⟩, List.mem_of_getElem? (i := 1252) (by decide +kernel), List.mem_of_getElem? (i := 1847) (by decide +kernel), List.mem_of_getElem? (i := 1848) (by decide +kernel)⟩
theorem lw_p79 : lw_okq (⟨"KiteLoggerModel", "finish", "()I"⟩, 28) := ⟨⟨by decide +kernel, by decide +kernel⟩, List.mem_of_getElem? (i := 1252) (by decide +kernel), List.mem_of_getElem? (i := 1851) (by decide +kernel), List.mem_of_getElem? (i := 1852) (by decide +kernel)⟩
def lw_privs_5 : List (MethodName × Nat) := [(⟨"KiteLoggerModel", "scan", "()V"⟩, 28), (⟨"KiteLoggerModel", "byteAt", "(I)I"⟩, 28), (⟨"KiteLoggerModel", "isLetter", "(I)Z"⟩, 28), (⟨"KiteLoggerModel", "isDigit", "(I)Z"⟩, 28), (⟨"KiteLoggerModel", "readStation", "()V"⟩, 28), (⟨"KiteLoggerModel", "isWord", "(Ljava/lang/String;)Z"⟩, 28), (⟨"KiteLoggerModel", "check", "(ZI)V"⟩, 28), (⟨"KiteLoggerModel", "advance", "()V"⟩, 28), (⟨"KiteLoggerModel", "readNumber", "(II)I"⟩, 28), (⟨"KiteLoggerModel", "look", "(II)I"⟩, 28), (⟨"KiteLoggerModel", "value", "()I"⟩, 28), (⟨"KiteLoggerModel", "expect", "(I)V"⟩, 28), (⟨"KiteLoggerModel", "isSymbol", "(I)Z"⟩, 28), (⟨"KiteLoggerModel", "readGust", "()V"⟩, 28), (⟨"KiteLoggerModel", "isFaulty", "()Z"⟩, 28), (⟨"KiteLoggerModel", "finish", "()I"⟩, 28)]
theorem lw_r5 : ∀ q ∈ lw_privs_5, lw_okq q := List.forall_mem_cons.mpr ⟨lw_p64, List.forall_mem_cons.mpr ⟨lw_p65, List.forall_mem_cons.mpr ⟨lw_p66, List.forall_mem_cons.mpr ⟨lw_p67, List.forall_mem_cons.mpr ⟨lw_p68, List.forall_mem_cons.mpr ⟨lw_p69, List.forall_mem_cons.mpr ⟨lw_p70, List.forall_mem_cons.mpr ⟨lw_p71, List.forall_mem_cons.mpr ⟨lw_p72, List.forall_mem_cons.mpr ⟨lw_p73, List.forall_mem_cons.mpr ⟨lw_p74, List.forall_mem_cons.mpr ⟨lw_p75, List.forall_mem_cons.mpr ⟨lw_p76, List.forall_mem_cons.mpr ⟨lw_p77, List.forall_mem_cons.mpr ⟨lw_p78, List.forall_mem_cons.mpr ⟨lw_p79, fun _ h => absurd h List.not_mem_nil⟩⟩⟩⟩⟩⟩⟩⟩⟩⟩⟩⟩⟩⟩⟩⟩
theorem lw_p80 : lw_okq (⟨"KiteLoggerModel", "readOrder", "(I)V"⟩, 28) := ⟨⟨by decide +kernel, by decide +kernel⟩, List.mem_of_getElem? (i := 1252) (by decide +kernel), List.mem_of_getElem? (i := 1859) (by decide +kernel), List.mem_of_getElem? (i := 1860) (by decide +kernel)⟩
theorem lw_p81 : lw_okq (⟨"KiteLoggerModel", "orderHere", "()I"⟩, 28) := ⟨⟨by decide +kernel, by decide +kernel⟩, List.mem_of_getElem? (i := 1252) (by decide +kernel), List.mem_of_getElem? (i := 1863) (by decide +kernel), List.mem_of_getElem? (i := 1864) (by decide +kernel)⟩
theorem lw_p82 : lw_okq (⟨"KiteLoggerModel", "readRepeat", "(II)V"⟩, 28) := ⟨⟨by decide +kernel, by decide +kernel⟩, List.mem_of_getElem? (i := 1252) (by decide +kernel), List.mem_of_getElem? (i := 1867) (by decide +kernel), List.mem_of_getElem? (i := 1868) (by decide +kernel)⟩
theorem lw_p83 : lw_okq (⟨"KiteLoggerModel", "readFirst", "(I)I"⟩, 28) := ⟨⟨by decide +kernel, by decide +kernel⟩, List.mem_of_getElem? (i := 1252) (by decide +kernel), List.mem_of_getElem? (i := 1871) (by decide +kernel), List.mem_of_getElem? (i := 1872) (by decide +kernel)⟩
theorem lw_p84 : lw_okq (⟨"KiteLoggerModel", "areDone", "(II)Z"⟩, 28) := ⟨⟨by decide +kernel, by decide +kernel⟩, List.mem_of_getElem? (i := 1252) (by decide +kernel), List.mem_of_getElem? (i := 1875) (by decide +kernel), List.mem_of_getElem? (i := 1876) (by decide +kernel)⟩
theorem lw_p85 : lw_okq (⟨"KiteLoggerModel", "isRepeated", "(I)Z"⟩, 28) := ⟨⟨by decide +kernel, by decide +kernel⟩, List.mem_of_getElem? (i := 1252) (by decide +kernel), List.mem_of_getElem? (i := 1879) (by decide +kernel), List.mem_of_getElem? (i := 1880) (by decide +kernel)⟩
theorem lw_p86 : lw_okq (⟨"KiteLoggerModel", "does", "(I)I"⟩, 28) := ⟨⟨by decide +kernel, by decide +kernel⟩, List.mem_of_getElem? (i := 1252) (by decide +kernel), List.mem_of_getElem? (i := 1883) (by decide +kernel), List.mem_of_getElem? (i := 1884) (by decide +kernel)⟩
def lw_privs_6 : List (MethodName × Nat) := [(⟨"KiteLoggerModel", "readOrder", "(I)V"⟩, 28), (⟨"KiteLoggerModel", "orderHere", "()I"⟩, 28), (⟨"KiteLoggerModel", "readRepeat", "(II)V"⟩, 28), (⟨"KiteLoggerModel", "readFirst", "(I)I"⟩, 28), (⟨"KiteLoggerModel", "areDone", "(II)Z"⟩, 28), (⟨"KiteLoggerModel", "isRepeated", "(I)Z"⟩, 28), (⟨"KiteLoggerModel", "does", "(I)I"⟩, 28)]
theorem lw_r6 : ∀ q ∈ lw_privs_6, lw_okq q := List.forall_mem_cons.mpr ⟨lw_p80, List.forall_mem_cons.mpr ⟨lw_p81, List.forall_mem_cons.mpr ⟨lw_p82, List.forall_mem_cons.mpr ⟨lw_p83, List.forall_mem_cons.mpr ⟨lw_p84, List.forall_mem_cons.mpr ⟨lw_p85, List.forall_mem_cons.mpr ⟨lw_p86, fun _ h => absurd h List.not_mem_nil⟩⟩⟩⟩⟩⟩⟩
def lw_privs : List (MethodName × Nat) := lw_privs_1 ++ (lw_privs_2 ++ (lw_privs_3 ++ (lw_privs_4 ++ (lw_privs_5 ++ (lw_privs_6)))))
def lw_tbl : List Cond := k2_sels lw_privs ++ tables_1
theorem lw_privs_ok : ∀ q ∈ lw_privs, lw_okq q := by
  show ∀ q ∈ lw_privs_1 ++ (lw_privs_2 ++ (lw_privs_3 ++ (lw_privs_4 ++ (lw_privs_5 ++ (lw_privs_6))))), lw_okq q
  exact List.forall_mem_append.mpr ⟨lw_r1, List.forall_mem_append.mpr ⟨lw_r2, List.forall_mem_append.mpr ⟨lw_r3, List.forall_mem_append.mpr ⟨lw_r4, List.forall_mem_append.mpr ⟨lw_r5, lw_r6⟩⟩⟩⟩⟩
/-- the streams that the claim lets the run draw from -/
abbrev lw_cs : List Choice := [Jvm.Choice.named "NaN.bits"]
theorem lw_bits : nanBits ∈ lw_cs := by first | decide | exact List.mem_cons_self | simp [lw_cs, nanBits]
-- ===== end of PART A; then your names; then what follows =====
/-- the tables' words that stay true in every heap: all methods share them -/
def TT : List Cond := lw_tbl.filter goodWord
theorem TT_in {w : Cond} {i : Nat} (h : lw_tbl[i]? = some w) (g : goodWord w = true) : w ∈ TT := List.mem_filter.mpr ⟨List.mem_of_getElem? h, g⟩
theorem TT_good {w : Cond} (h : w ∈ TT) : w ∈ lw_tbl ∧ goodWord w = true := List.mem_filter.mp h
theorem TT_goodIn {x y : Cond} (hy : y ∈ TT) : GoodIn (x :: TT) (y :: TT) := by
  intro w hw
  have hm : w ∈ TT := by
    rcases List.mem_cons.mp hw with rfl | h
    · exact hy
    · exact h
  exact ⟨List.mem_cons_of_mem _ hm, good_of_word (TT_good hm).2⟩
/-- the words of private members of nest mates -/
def isNest : Cond → Bool
  | .fieldLinkNest _ _ _ _ _ _ => true
  | .methodLinkNest _ _ _ _ => true
  | _ => false
def NW : List Cond := lw_tbl.filter isNest
theorem NW_in {w : Cond} {i : Nat} (h : lw_tbl[i]? = some w) (g : isNest w = true) : w ∈ NW := List.mem_filter.mpr ⟨List.mem_of_getElem? h, g⟩
theorem NW_warm {s U : State} (hW : s.WarmedH U.vm) (h : ∀ w ∈ NW, va_Nw w s) : ∀ w ∈ NW, va_Nw w U := by
  intro w hw
  have hn := (List.mem_filter.mp hw).2
  have hs := h w hw
  unfold isNest at hn
  split at hn
  · exact va_Nw.warmF hW hs
  · exact va_Nw.warmM hW hs
  · cases hn
theorem NW_same {u U : State} (hv : u.vm = U.vm) (h : ∀ w ∈ NW, va_Nw w u) : ∀ w ∈ NW, va_Nw w U := by
  intro w hw
  have hn := (List.mem_filter.mp hw).2
  have hs := h w hw
  unfold isNest at hn
  split at hn
  · exact va_Nw.same rfl hv hs
  · exact va_Nw.same rfl hv hs
  · cases hn
end
section
/-! names: classes and their fields, methods and their code -/
def T0 : u_T := fun k => match k with
  | 0 => ("KiteLogger$History", "stations", "[LKiteLogger$Station;", true)
  | 1 => ("KiteLogger$History", "next", "I", false)
  | _ => ("KiteLogger$History", "count", "I", false)
def ty0 : Nat → FieldType := fun k => match k with
  | 0 => .array (.object "KiteLogger$Station")
  | 1 => .int
  | _ => .int
theorem nm0 : ∀ a, a < 3 → ∀ b, b < 3 → a ≠ b → (T0 a).2.1 ≠ (T0 b).2.1 := by decide +kernel
theorem tyk0 : ∀ k, k < 3 → parseFieldDescriptor (T0 k).2.2.1 = some (ty0 k) := by decide +kernel
def T1 : u_T := fun k => match k with
  | 0 => ("KiteLogger$Kite", "mode", "I", false)
  | 1 => ("KiteLogger$Kite", "height", "I", false)
  | 2 => ("KiteLogger$Kite", "tether", "I", false)
  | 3 => ("KiteLogger$Kite", "area", "I", false)
  | 4 => ("KiteLogger$Kite", "limit", "I", false)
  | 5 => ("KiteLogger$Kite", "endurance", "I", false)
  | 6 => ("KiteLogger$Kite", "wear", "I", false)
  | 7 => ("KiteLogger$Kite", "distance", "I", false)
  | 8 => ("KiteLogger$Kite", "beacon", "I", false)
  | 9 => ("KiteLogger$Kite", "flightTime", "I", false)
  | 10 => ("KiteLogger$Kite", "launches", "I", false)
  | 11 => ("KiteLogger$Kite", "snaps", "I", false)
  | _ => ("KiteLogger$Kite", "searches", "I", false)
def ty1 : Nat → FieldType := fun k => match k with
  | 0 => .int
  | 1 => .int
  | 2 => .int
  | 3 => .int
  | 4 => .int
  | 5 => .int
  | 6 => .int
  | 7 => .int
  | 8 => .int
  | 9 => .int
  | 10 => .int
  | 11 => .int
  | _ => .int
theorem nm1 : ∀ a, a < 13 → ∀ b, b < 13 → a ≠ b → (T1 a).2.1 ≠ (T1 b).2.1 := by decide +kernel
theorem tyk1 : ∀ k, k < 13 → parseFieldDescriptor (T1 k).2.2.1 = some (ty1 k) := by decide +kernel
def T2 : u_T := fun k => match k with
  | 0 => ("KiteLogger$Output", "bytes", "[B", true)
  | _ => ("KiteLogger$Output", "length", "I", false)
def ty2 : Nat → FieldType := fun k => match k with
  | 0 => .array (.byte)
  | _ => .int
theorem nm2 : ∀ a, a < 2 → ∀ b, b < 2 → a ≠ b → (T2 a).2.1 ≠ (T2 b).2.1 := by decide +kernel
theorem tyk2 : ∀ k, k < 2 → parseFieldDescriptor (T2 k).2.2.1 = some (ty2 k) := by decide +kernel
def T3 : u_T := fun k => match k with
  | 0 => ("KiteLogger$Samples", "size", "I", true)
  | 1 => ("KiteLogger$Samples", "ticks", "[I", true)
  | 2 => ("KiteLogger$Samples", "heights", "[I", true)
  | 3 => ("KiteLogger$Samples", "gusts", "[I", true)
  | 4 => ("KiteLogger$Samples", "oldest", "I", false)
  | 5 => ("KiteLogger$Samples", "count", "I", false)
  | _ => ("KiteLogger$Samples", "dropped", "I", false)
def ty3 : Nat → FieldType := fun k => match k with
  | 0 => .int
  | 1 => .array (.int)
  | 2 => .array (.int)
  | 3 => .array (.int)
  | 4 => .int
  | 5 => .int
  | _ => .int
theorem nm3 : ∀ a, a < 7 → ∀ b, b < 7 → a ≠ b → (T3 a).2.1 ≠ (T3 b).2.1 := by decide +kernel
theorem tyk3 : ∀ k, k < 7 → parseFieldDescriptor (T3 k).2.2.1 = some (ty3 k) := by decide +kernel
def T4 : u_T := fun k => match k with
  | 0 => ("KiteLogger$Script", "commands", "[I", true)
  | 1 => ("KiteLogger$Script", "firsts", "[I", true)
  | 2 => ("KiteLogger$Script", "seconds", "[I", true)
  | 3 => ("KiteLogger$Script", "ends", "[I", true)
  | 4 => ("KiteLogger$Script", "count", "I", false)
  | _ => ("KiteLogger$Script", "executed", "I", false)
def ty4 : Nat → FieldType := fun k => match k with
  | 0 => .array (.int)
  | 1 => .array (.int)
  | 2 => .array (.int)
  | 3 => .array (.int)
  | 4 => .int
  | _ => .int
theorem nm4 : ∀ a, a < 6 → ∀ b, b < 6 → a ≠ b → (T4 a).2.1 ≠ (T4 b).2.1 := by decide +kernel
theorem tyk4 : ∀ k, k < 6 → parseFieldDescriptor (T4 k).2.2.1 = some (ty4 k) := by decide +kernel
def T5 : u_T := fun k => match k with
  | 0 => ("KiteLogger$Station", "kite", "LKiteLogger$Kite;", true)
  | 1 => ("KiteLogger$Station", "gusts", "[I", true)
  | 2 => ("KiteLogger$Station", "gustCount", "I", false)
  | 3 => ("KiteLogger$Station", "winds", "LKiteLogger$WindBuffer;", true)
  | 4 => ("KiteLogger$Station", "logger", "LKiteLogger$Samples;", true)
  | 5 => ("KiteLogger$Station", "archive", "LKiteLogger$Samples;", true)
  | 6 => ("KiteLogger$Station", "interval", "I", false)
  | 7 => ("KiteLogger$Station", "tick", "I", false)
  | _ => ("KiteLogger$Station", "made", "I", false)
def ty5 : Nat → FieldType := fun k => match k with
  | 0 => .object "KiteLogger$Kite"
  | 1 => .array (.int)
  | 2 => .int
  | 3 => .object "KiteLogger$WindBuffer"
  | 4 => .object "KiteLogger$Samples"
  | 5 => .object "KiteLogger$Samples"
  | 6 => .int
  | 7 => .int
  | _ => .int
theorem nm5 : ∀ a, a < 9 → ∀ b, b < 9 → a ≠ b → (T5 a).2.1 ≠ (T5 b).2.1 := by decide +kernel
theorem tyk5 : ∀ k, k < 9 → parseFieldDescriptor (T5 k).2.2.1 = some (ty5 k) := by decide +kernel
def T6 : u_T := fun k => match k with
  | 0 => ("KiteLogger$StationPlan", "area", "I", false)
  | 1 => ("KiteLogger$StationPlan", "limit", "I", false)
  | 2 => ("KiteLogger$StationPlan", "endurance", "I", false)
  | 3 => ("KiteLogger$StationPlan", "interval", "I", false)
  | 4 => ("KiteLogger$StationPlan", "gusts", "[I", true)
  | _ => ("KiteLogger$StationPlan", "gustCount", "I", false)
def ty6 : Nat → FieldType := fun k => match k with
  | 0 => .int
  | 1 => .int
  | 2 => .int
  | 3 => .int
  | 4 => .array (.int)
  | _ => .int
theorem nm6 : ∀ a, a < 6 → ∀ b, b < 6 → a ≠ b → (T6 a).2.1 ≠ (T6 b).2.1 := by decide +kernel
theorem tyk6 : ∀ k, k < 6 → parseFieldDescriptor (T6 k).2.2.1 = some (ty6 k) := by decide +kernel
def T7 : u_T := fun k => match k with
  | 0 => ("KiteLogger$TextReader", "bytes", "[B", true)
  | 1 => ("KiteLogger$TextReader", "filled", "I", false)
  | 2 => ("KiteLogger$TextReader", "end", "I", false)
  | 3 => ("KiteLogger$TextReader", "kind", "I", false)
  | 4 => ("KiteLogger$TextReader", "start", "I", false)
  | 5 => ("KiteLogger$TextReader", "next", "I", false)
  | 6 => ("KiteLogger$TextReader", "number", "I", false)
  | 7 => ("KiteLogger$TextReader", "taken", "I", false)
  | 8 => ("KiteLogger$TextReader", "errorCode", "I", false)
  | _ => ("KiteLogger$TextReader", "errorOffset", "I", false)
def ty7 : Nat → FieldType := fun k => match k with
  | 0 => .array (.byte)
  | 1 => .int
  | 2 => .int
  | 3 => .int
  | 4 => .int
  | 5 => .int
  | 6 => .int
  | 7 => .int
  | 8 => .int
  | _ => .int
theorem nm7 : ∀ a, a < 10 → ∀ b, b < 10 → a ≠ b → (T7 a).2.1 ≠ (T7 b).2.1 := by decide +kernel
theorem tyk7 : ∀ k, k < 10 → parseFieldDescriptor (T7 k).2.2.1 = some (ty7 k) := by decide +kernel
def T8 : u_T := fun k => match k with
  | 0 => ("KiteLogger$WindBuffer", "winds", "[I", true)
  | 1 => ("KiteLogger$WindBuffer", "oldest", "I", false)
  | _ => ("KiteLogger$WindBuffer", "count", "I", false)
def ty8 : Nat → FieldType := fun k => match k with
  | 0 => .array (.int)
  | 1 => .int
  | _ => .int
theorem nm8 : ∀ a, a < 3 → ∀ b, b < 3 → a ≠ b → (T8 a).2.1 ≠ (T8 b).2.1 := by decide +kernel
theorem tyk8 : ∀ k, k < 3 → parseFieldDescriptor (T8 k).2.2.1 = some (ty8 k) := by decide +kernel
def T9 : u_T := fun k => match k with
  | 0 => ("KiteLogger", "text", "LKiteLogger$TextReader;", true)
  | 1 => ("KiteLogger", "plan", "LKiteLogger$StationPlan;", true)
  | 2 => ("KiteLogger", "script", "LKiteLogger$Script;", true)
  | 3 => ("KiteLogger", "station", "LKiteLogger$Station;", true)
  | 4 => ("KiteLogger", "forecast", "LKiteLogger$Kite;", true)
  | 5 => ("KiteLogger", "history", "LKiteLogger$History;", true)
  | 6 => ("KiteLogger", "snapshot", "LKiteLogger$Station;", true)
  | 7 => ("KiteLogger", "snapshotSaved", "Z", false)
  | _ => ("KiteLogger", "output", "LKiteLogger$Output;", true)
def ty9 : Nat → FieldType := fun k => match k with
  | 0 => .object "KiteLogger$TextReader"
  | 1 => .object "KiteLogger$StationPlan"
  | 2 => .object "KiteLogger$Script"
  | 3 => .object "KiteLogger$Station"
  | 4 => .object "KiteLogger$Kite"
  | 5 => .object "KiteLogger$History"
  | 6 => .object "KiteLogger$Station"
  | 7 => .boolean
  | _ => .object "KiteLogger$Output"
theorem nm9 : ∀ a, a < 9 → ∀ b, b < 9 → a ≠ b → (T9 a).2.1 ≠ (T9 b).2.1 := by decide +kernel
theorem tyk9 : ∀ k, k < 9 → parseFieldDescriptor (T9 k).2.2.1 = some (ty9 k) := by decide +kernel
def T10 : u_T := fun k => match k with
  | 0 => ("KiteLoggerModel", "now", "[I", true)
  | 1 => ("KiteLoggerModel", "draft", "[I", true)
  | 2 => ("KiteLoggerModel", "aside", "[I", true)
  | 3 => ("KiteLoggerModel", "kept", "[I", true)
  | 4 => ("KiteLoggerModel", "snapshot", "[I", true)
  | 5 => ("KiteLoggerModel", "history", "[I", true)
  | 6 => ("KiteLoggerModel", "row", "[I", false)
  | 7 => ("KiteLoggerModel", "undoCount", "I", false)
  | 8 => ("KiteLoggerModel", "thrown", "I", false)
  | 9 => ("KiteLoggerModel", "latestCode", "I", false)
  | 10 => ("KiteLoggerModel", "result", "I", false)
  | 11 => ("KiteLoggerModel", "hasSnapshot", "Z", false)
  | 12 => ("KiteLoggerModel", "output", "[I", true)
  | 13 => ("KiteLoggerModel", "outputLength", "I", false)
  | 14 => ("KiteLoggerModel", "buffer", "[I", true)
  | 15 => ("KiteLoggerModel", "bufferLength", "I", false)
  | 16 => ("KiteLoggerModel", "limit", "I", false)
  | 17 => ("KiteLoggerModel", "next", "I", false)
  | 18 => ("KiteLoggerModel", "beginsAt", "I", false)
  | 19 => ("KiteLoggerModel", "token", "I", false)
  | 20 => ("KiteLoggerModel", "error", "I", false)
  | 21 => ("KiteLoggerModel", "errorAt", "I", false)
  | 22 => ("KiteLoggerModel", "errorPosition", "I", false)
  | 23 => ("KiteLoggerModel", "nested", "I", false)
  | 24 => ("KiteLoggerModel", "orders", "[I", true)
  | 25 => ("KiteLoggerModel", "orderWords", "[Ljava/lang/String;", true)
  | 26 => ("KiteLoggerModel", "orderCount", "I", false)
  | _ => ("KiteLoggerModel", "done", "I", false)
def ty10 : Nat → FieldType := fun k => match k with
  | 0 => .array (.int)
  | 1 => .array (.int)
  | 2 => .array (.int)
  | 3 => .array (.int)
  | 4 => .array (.int)
  | 5 => .array (.int)
  | 6 => .array (.int)
  | 7 => .int
  | 8 => .int
  | 9 => .int
  | 10 => .int
  | 11 => .boolean
  | 12 => .array (.int)
  | 13 => .int
  | 14 => .array (.int)
  | 15 => .int
  | 16 => .int
  | 17 => .int
  | 18 => .int
  | 19 => .int
  | 20 => .int
  | 21 => .int
  | 22 => .int
  | 23 => .int
  | 24 => .array (.int)
  | 25 => .array (.object "java/lang/String")
  | 26 => .int
  | _ => .int
theorem nm10 : ∀ a, a < 28 → ∀ b, b < 28 → a ≠ b → (T10 a).2.1 ≠ (T10 b).2.1 := by decide +kernel
theorem tyk10 : ∀ k, k < 28 → parseFieldDescriptor (T10 k).2.2.1 = some (ty10 k) := by decide +kernel
abbrev vwCl : List vw_C := [("KiteLogger$History", T0, 3), ("KiteLogger$Kite", T1, 13), ("KiteLogger$Output", T2, 2), ("KiteLogger$Samples", T3, 7), ("KiteLogger$Script", T4, 6), ("KiteLogger$Station", T5, 9), ("KiteLogger$StationPlan", T6, 6), ("KiteLogger$TextReader", T7, 10), ("KiteLogger$WindBuffer", T8, 3), ("KiteLogger", T9, 9), ("KiteLoggerModel", T10, 28)]
abbrev b_H_init : ByteArray := prog_2_method_1_code
abbrev y_H_init : MethodName := ⟨"KiteLogger$History", "<init>", "()V"⟩
abbrev b_H_forget : ByteArray := prog_2_method_2_code
abbrev y_H_forget : MethodName := ⟨"KiteLogger$History", "forget", "()V"⟩
abbrev b_H_remember : ByteArray := prog_2_method_3_code
abbrev y_H_remember : MethodName := ⟨"KiteLogger$History", "remember", "(LKiteLogger$Station;)V"⟩
abbrev b_H_takeBack : ByteArray := prog_2_method_4_code
abbrev y_H_takeBack : MethodName := ⟨"KiteLogger$History", "takeBack", "(LKiteLogger$Station;)V"⟩
abbrev b_H_placeAt : ByteArray := prog_2_method_5_code
abbrev y_H_placeAt : MethodName := ⟨"KiteLogger$History", "placeAt", "(I)LKiteLogger$Station;"⟩
abbrev b_K_init : ByteArray := prog_3_method_1_code
abbrev y_K_init : MethodName := ⟨"KiteLogger$Kite", "<init>", "()V"⟩
abbrev b_K_setUp : ByteArray := prog_3_method_2_code
abbrev y_K_setUp : MethodName := ⟨"KiteLogger$Kite", "setUp", "(III)V"⟩
abbrev b_K_copyFrom : ByteArray := prog_3_method_3_code
abbrev y_K_copyFrom : MethodName := ⟨"KiteLogger$Kite", "copyFrom", "(LKiteLogger$Kite;)V"⟩
abbrev b_K_windOver : ByteArray := prog_3_method_4_code
abbrev y_K_windOver : MethodName := ⟨"KiteLogger$Kite", "windOver", "(I)I"⟩
abbrev b_K_loadUnder : ByteArray := prog_3_method_5_code
abbrev y_K_loadUnder : MethodName := ⟨"KiteLogger$Kite", "loadUnder", "(I)I"⟩
abbrev b_K_passTick : ByteArray := prog_3_method_6_code
abbrev y_K_passTick : MethodName := ⟨"KiteLogger$Kite", "passTick", "(I)V"⟩
abbrev b_K_fly : ByteArray := prog_3_method_7_code
abbrev y_K_fly : MethodName := ⟨"KiteLogger$Kite", "fly", "(I)V"⟩
abbrev b_K_fall : ByteArray := prog_3_method_8_code
abbrev y_K_fall : MethodName := ⟨"KiteLogger$Kite", "fall", "(I)V"⟩
abbrev b_K_landOnGround : ByteArray := prog_3_method_9_code
abbrev y_K_landOnGround : MethodName := ⟨"KiteLogger$Kite", "landOnGround", "()V"⟩
abbrev b_K_rise : ByteArray := prog_3_method_10_code
abbrev y_K_rise : MethodName := ⟨"KiteLogger$Kite", "rise", "()I"⟩
abbrev b_K_lengthen : ByteArray := prog_3_method_11_code
abbrev y_K_lengthen : MethodName := ⟨"KiteLogger$Kite", "lengthen", "(I)I"⟩
abbrev b_K_shorten : ByteArray := prog_3_method_12_code
abbrev y_K_shorten : MethodName := ⟨"KiteLogger$Kite", "shorten", "(I)I"⟩
abbrev b_K_renewBridle : ByteArray := prog_3_method_13_code
abbrev y_K_renewBridle : MethodName := ⟨"KiteLogger$Kite", "renewBridle", "(II)I"⟩
abbrev b_K_searchAt : ByteArray := prog_3_method_14_code
abbrev y_K_searchAt : MethodName := ⟨"KiteLogger$Kite", "searchAt", "(I)I"⟩
abbrev b_O_init : ByteArray := prog_4_method_1_code
abbrev y_O_init : MethodName := ⟨"KiteLogger$Output", "<init>", "()V"⟩
abbrev b_O_at : ByteArray := prog_4_method_2_code
abbrev y_O_at : MethodName := ⟨"KiteLogger$Output", "at", "(I)I"⟩
abbrev b_O_writeSamples : ByteArray := prog_4_method_3_code
abbrev y_O_writeSamples : MethodName := ⟨"KiteLogger$Output", "writeSamples", "(LKiteLogger$Samples;)I"⟩
abbrev b_O_addNumber : ByteArray := prog_4_method_4_code
abbrev y_O_addNumber : MethodName := ⟨"KiteLogger$Output", "addNumber", "(I)V"⟩
abbrev b_O_addSign : ByteArray := prog_4_method_5_code
abbrev y_O_addSign : MethodName := ⟨"KiteLogger$Output", "addSign", "(C)V"⟩
abbrev b_S_init : ByteArray := prog_5_method_1_code
abbrev y_S_init : MethodName := ⟨"KiteLogger$Samples", "<init>", "(I)V"⟩
abbrev b_S_setUp : ByteArray := prog_5_method_2_code
abbrev y_S_setUp : MethodName := ⟨"KiteLogger$Samples", "setUp", "()V"⟩
abbrev b_S_empty : ByteArray := prog_5_method_3_code
abbrev y_S_empty : MethodName := ⟨"KiteLogger$Samples", "empty", "()V"⟩
abbrev b_S_copyFrom : ByteArray := prog_5_method_4_code
abbrev y_S_copyFrom : MethodName := ⟨"KiteLogger$Samples", "copyFrom", "(LKiteLogger$Samples;)V"⟩
abbrev b_S_add : ByteArray := prog_5_method_5_code
abbrev y_S_add : MethodName := ⟨"KiteLogger$Samples", "add", "(III)V"⟩
abbrev b_S_placeOf : ByteArray := prog_5_method_6_code
abbrev y_S_placeOf : MethodName := ⟨"KiteLogger$Samples", "placeOf", "(I)I"⟩
abbrev b_S_has : ByteArray := prog_5_method_7_code
abbrev y_S_has : MethodName := ⟨"KiteLogger$Samples", "has", "(I)Z"⟩
abbrev b_S_tickAt : ByteArray := prog_5_method_8_code
abbrev y_S_tickAt : MethodName := ⟨"KiteLogger$Samples", "tickAt", "(I)I"⟩
abbrev b_S_heightAt : ByteArray := prog_5_method_9_code
abbrev y_S_heightAt : MethodName := ⟨"KiteLogger$Samples", "heightAt", "(I)I"⟩
abbrev b_S_gustAt : ByteArray := prog_5_method_10_code
abbrev y_S_gustAt : MethodName := ⟨"KiteLogger$Samples", "gustAt", "(I)I"⟩
abbrev b_S_countBetween : ByteArray := prog_5_method_11_code
abbrev y_S_countBetween : MethodName := ⟨"KiteLogger$Samples", "countBetween", "(II)I"⟩
abbrev b_S_gustsBetween : ByteArray := prog_5_method_12_code
abbrev y_S_gustsBetween : MethodName := ⟨"KiteLogger$Samples", "gustsBetween", "(II)I"⟩
abbrev b_S_highest : ByteArray := prog_5_method_13_code
abbrev y_S_highest : MethodName := ⟨"KiteLogger$Samples", "highest", "()I"⟩
abbrev b_S_lastUntil : ByteArray := prog_5_method_14_code
abbrev y_S_lastUntil : MethodName := ⟨"KiteLogger$Samples", "lastUntil", "(I)I"⟩
abbrev b_S_misplaced : ByteArray := prog_5_method_15_code
abbrev y_S_misplaced : MethodName := ⟨"KiteLogger$Samples", "misplaced", "()I"⟩
abbrev b_C_init : ByteArray := prog_6_method_1_code
abbrev y_C_init : MethodName := ⟨"KiteLogger$Script", "<init>", "()V"⟩
abbrev b_C_read : ByteArray := prog_6_method_2_code
abbrev y_C_read : MethodName := ⟨"KiteLogger$Script", "read", "(LKiteLogger$TextReader;I)Z"⟩
abbrev b_C_readBlock : ByteArray := prog_6_method_3_code
abbrev y_C_readBlock : MethodName := ⟨"KiteLogger$Script", "readBlock", "(LKiteLogger$TextReader;I)Z"⟩
abbrev b_C_readCommand : ByteArray := prog_6_method_4_code
abbrev y_C_readCommand : MethodName := ⟨"KiteLogger$Script", "readCommand", "(LKiteLogger$TextReader;I)Z"⟩
abbrev b_C_readBody : ByteArray := prog_6_method_5_code
abbrev y_C_readBody : MethodName := ⟨"KiteLogger$Script", "readBody", "(LKiteLogger$TextReader;I)Z"⟩
abbrev b_C_readNumbers : ByteArray := prog_6_method_6_code
abbrev y_C_readNumbers : MethodName := ⟨"KiteLogger$Script", "readNumbers", "(LKiteLogger$TextReader;II)Z"⟩
abbrev b_C_commandAt : ByteArray := prog_6_method_7_code
abbrev y_C_commandAt : MethodName := ⟨"KiteLogger$Script", "commandAt", "(LKiteLogger$TextReader;)I"⟩
abbrev b_C_wordOf : ByteArray := prog_6_method_8_code
abbrev y_C_wordOf : MethodName := ⟨"KiteLogger$Script", "wordOf", "(I)Ljava/lang/String;"⟩
abbrev b_C_runBlock : ByteArray := prog_6_method_9_code
abbrev y_C_runBlock : MethodName := ⟨"KiteLogger$Script", "runBlock", "(LKiteLogger$Station;III)Z"⟩
abbrev b_T_init : ByteArray := prog_7_method_1_code
abbrev y_T_init : MethodName := ⟨"KiteLogger$Station", "<init>", "()V"⟩
abbrev b_T_setUp : ByteArray := prog_7_method_2_code
abbrev y_T_setUp : MethodName := ⟨"KiteLogger$Station", "setUp", "(LKiteLogger$StationPlan;)V"⟩
abbrev b_T_copyFrom : ByteArray := prog_7_method_3_code
abbrev y_T_copyFrom : MethodName := ⟨"KiteLogger$Station", "copyFrom", "(LKiteLogger$Station;)V"⟩
abbrev b_T_gustOf : ByteArray := prog_7_method_4_code
abbrev y_T_gustOf : MethodName := ⟨"KiteLogger$Station", "gustOf", "(I)I"⟩
abbrev b_T_greatestGust : ByteArray := prog_7_method_5_code
abbrev y_T_greatestGust : MethodName := ⟨"KiteLogger$Station", "greatestGust", "()I"⟩
abbrev b_T_obstacle : ByteArray := prog_7_method_6_code
abbrev y_T_obstacle : MethodName := ⟨"KiteLogger$Station", "obstacle", "()I"⟩
abbrev b_T_faultOf : ByteArray := prog_7_method_7_code
abbrev y_T_faultOf : MethodName := ⟨"KiteLogger$Station", "faultOf", "(III)I"⟩
abbrev b_T_hasBadNumber : ByteArray := prog_7_method_8_code
abbrev y_T_hasBadNumber : MethodName := ⟨"KiteLogger$Station", "hasBadNumber", "(III)Z"⟩
abbrev b_T_isForbidden : ByteArray := prog_7_method_9_code
abbrev y_T_isForbidden : MethodName := ⟨"KiteLogger$Station", "isForbidden", "(II)Z"⟩
abbrev b_T_perform : ByteArray := prog_7_method_10_code
abbrev y_T_perform : MethodName := ⟨"KiteLogger$Station", "perform", "(III)I"⟩
abbrev b_T_changeInterval : ByteArray := prog_7_method_11_code
abbrev y_T_changeInterval : MethodName := ⟨"KiteLogger$Station", "changeInterval", "(I)I"⟩
abbrev b_T_moveSamples : ByteArray := prog_7_method_12_code
abbrev y_T_moveSamples : MethodName := ⟨"KiteLogger$Station", "moveSamples", "()I"⟩
abbrev b_T_passMany : ByteArray := prog_7_method_13_code
abbrev y_T_passMany : MethodName := ⟨"KiteLogger$Station", "passMany", "(I)I"⟩
abbrev b_T_passOne : ByteArray := prog_7_method_14_code
abbrev y_T_passOne : MethodName := ⟨"KiteLogger$Station", "passOne", "()V"⟩
abbrev b_P_init : ByteArray := prog_8_method_1_code
abbrev y_P_init : MethodName := ⟨"KiteLogger$StationPlan", "<init>", "()V"⟩
abbrev b_P_read : ByteArray := prog_8_method_2_code
abbrev y_P_read : MethodName := ⟨"KiteLogger$StationPlan", "read", "(LKiteLogger$TextReader;I)Z"⟩
abbrev b_P_readKite : ByteArray := prog_8_method_3_code
abbrev y_P_readKite : MethodName := ⟨"KiteLogger$StationPlan", "readKite", "(LKiteLogger$TextReader;)Z"⟩
abbrev b_P_readGusts : ByteArray := prog_8_method_4_code
abbrev y_P_readGusts : MethodName := ⟨"KiteLogger$StationPlan", "readGusts", "(LKiteLogger$TextReader;)Z"⟩
abbrev b_P_readInterval : ByteArray := prog_8_method_5_code
abbrev y_P_readInterval : MethodName := ⟨"KiteLogger$StationPlan", "readInterval", "(LKiteLogger$TextReader;)Z"⟩
abbrev b_X_init : ByteArray := prog_9_method_1_code
abbrev y_X_init : MethodName := ⟨"KiteLogger$TextReader", "<init>", "()V"⟩
abbrev b_X_hasRoomFor : ByteArray := prog_9_method_2_code
abbrev y_X_hasRoomFor : MethodName := ⟨"KiteLogger$TextReader", "hasRoomFor", "(I)Z"⟩
abbrev b_X_appendFour : ByteArray := prog_9_method_3_code
abbrev y_X_appendFour : MethodName := ⟨"KiteLogger$TextReader", "appendFour", "(I)V"⟩
abbrev b_X_begin : ByteArray := prog_9_method_4_code
abbrev y_X_begin : MethodName := ⟨"KiteLogger$TextReader", "begin", "(I)V"⟩
abbrev b_X_byteAt : ByteArray := prog_9_method_5_code
abbrev y_X_byteAt : MethodName := ⟨"KiteLogger$TextReader", "byteAt", "(I)I"⟩
abbrev b_X_isBlank : ByteArray := prog_9_method_6_code
abbrev y_X_isBlank : MethodName := ⟨"KiteLogger$TextReader", "isBlank", "(I)Z"⟩
abbrev b_X_advance : ByteArray := prog_9_method_7_code
abbrev y_X_advance : MethodName := ⟨"KiteLogger$TextReader", "advance", "()V"⟩
abbrev b_X_kindOf : ByteArray := prog_9_method_8_code
abbrev y_X_kindOf : MethodName := ⟨"KiteLogger$TextReader", "kindOf", "(I)I"⟩
abbrev b_X_isAtWord : ByteArray := prog_9_method_9_code
abbrev y_X_isAtWord : MethodName := ⟨"KiteLogger$TextReader", "isAtWord", "(Ljava/lang/String;)Z"⟩
abbrev b_X_fail : ByteArray := prog_9_method_10_code
abbrev y_X_fail : MethodName := ⟨"KiteLogger$TextReader", "fail", "(I)Z"⟩
abbrev b_X_takeWord : ByteArray := prog_9_method_11_code
abbrev y_X_takeWord : MethodName := ⟨"KiteLogger$TextReader", "takeWord", "(Ljava/lang/String;)Z"⟩
abbrev b_X_takeSign : ByteArray := prog_9_method_12_code
abbrev y_X_takeSign : MethodName := ⟨"KiteLogger$TextReader", "takeSign", "(I)Z"⟩
abbrev b_X_checkNumber : ByteArray := prog_9_method_13_code
abbrev y_X_checkNumber : MethodName := ⟨"KiteLogger$TextReader", "checkNumber", "(II)Z"⟩
abbrev b_X_takeNumber : ByteArray := prog_9_method_14_code
abbrev y_X_takeNumber : MethodName := ⟨"KiteLogger$TextReader", "takeNumber", "(II)Z"⟩
abbrev b_B_init : ByteArray := prog_10_method_1_code
abbrev y_B_init : MethodName := ⟨"KiteLogger$WindBuffer", "<init>", "()V"⟩
abbrev b_B_empty : ByteArray := prog_10_method_2_code
abbrev y_B_empty : MethodName := ⟨"KiteLogger$WindBuffer", "empty", "()V"⟩
abbrev b_B_copyFrom : ByteArray := prog_10_method_3_code
abbrev y_B_copyFrom : MethodName := ⟨"KiteLogger$WindBuffer", "copyFrom", "(LKiteLogger$WindBuffer;)V"⟩
abbrev b_B_add : ByteArray := prog_10_method_4_code
abbrev y_B_add : MethodName := ⟨"KiteLogger$WindBuffer", "add", "(I)V"⟩
abbrev b_B_has : ByteArray := prog_10_method_5_code
abbrev y_B_has : MethodName := ⟨"KiteLogger$WindBuffer", "has", "(I)Z"⟩
abbrev b_B_at : ByteArray := prog_10_method_6_code
abbrev y_B_at : MethodName := ⟨"KiteLogger$WindBuffer", "at", "(I)I"⟩
abbrev b_B_greatest : ByteArray := prog_10_method_7_code
abbrev y_B_greatest : MethodName := ⟨"KiteLogger$WindBuffer", "greatest", "()I"⟩
abbrev b_B_sum : ByteArray := prog_10_method_8_code
abbrev y_B_sum : MethodName := ⟨"KiteLogger$WindBuffer", "sum", "()I"⟩
abbrev b_G_init : ByteArray := prog_1_method_1_code
abbrev y_G_init : MethodName := ⟨"KiteLogger", "<init>", "()V"⟩
abbrev b_G_appendText : ByteArray := prog_1_method_2_code
abbrev y_G_appendText : MethodName := ⟨"KiteLogger", "appendText", "(IIIII)I"⟩
abbrev b_G_loadStation : ByteArray := prog_1_method_3_code
abbrev y_G_loadStation : MethodName := ⟨"KiteLogger", "loadStation", "(I)I"⟩
abbrev b_G_errorCode : ByteArray := prog_1_method_4_code
abbrev y_G_errorCode : MethodName := ⟨"KiteLogger", "errorCode", "()I"⟩
abbrev b_G_errorOffset : ByteArray := prog_1_method_5_code
abbrev y_G_errorOffset : MethodName := ⟨"KiteLogger", "errorOffset", "()I"⟩
abbrev b_G_tick : ByteArray := prog_1_method_6_code
abbrev y_G_tick : MethodName := ⟨"KiteLogger", "tick", "()I"⟩
abbrev b_G_patternLength : ByteArray := prog_1_method_7_code
abbrev y_G_patternLength : MethodName := ⟨"KiteLogger", "patternLength", "()I"⟩
abbrev b_G_gust : ByteArray := prog_1_method_8_code
abbrev y_G_gust : MethodName := ⟨"KiteLogger", "gust", "(I)I"⟩
abbrev b_G_windAt : ByteArray := prog_1_method_9_code
abbrev y_G_windAt : MethodName := ⟨"KiteLogger", "windAt", "(I)I"⟩
abbrev b_G_bufferSize : ByteArray := prog_1_method_10_code
abbrev y_G_bufferSize : MethodName := ⟨"KiteLogger", "bufferSize", "()I"⟩
abbrev b_G_bufferedWind : ByteArray := prog_1_method_11_code
abbrev y_G_bufferedWind : MethodName := ⟨"KiteLogger", "bufferedWind", "(I)I"⟩
abbrev b_G_greatestWind : ByteArray := prog_1_method_12_code
abbrev y_G_greatestWind : MethodName := ⟨"KiteLogger", "greatestWind", "()I"⟩
abbrev b_G_meanWind : ByteArray := prog_1_method_13_code
abbrev y_G_meanWind : MethodName := ⟨"KiteLogger", "meanWind", "()D"⟩
abbrev b_G_isLanded : ByteArray := prog_1_method_14_code
abbrev y_G_isLanded : MethodName := ⟨"KiteLogger", "isLanded", "()Z"⟩
abbrev b_G_isFlying : ByteArray := prog_1_method_15_code
abbrev y_G_isFlying : MethodName := ⟨"KiteLogger", "isFlying", "()Z"⟩
abbrev b_G_isFallen : ByteArray := prog_1_method_16_code
abbrev y_G_isFallen : MethodName := ⟨"KiteLogger", "isFallen", "()Z"⟩
abbrev b_G_height : ByteArray := prog_1_method_17_code
abbrev y_G_height : MethodName := ⟨"KiteLogger", "height", "()I"⟩
abbrev b_G_tether : ByteArray := prog_1_method_18_code
abbrev y_G_tether : MethodName := ⟨"KiteLogger", "tether", "()I"⟩
abbrev b_G_area : ByteArray := prog_1_method_19_code
abbrev y_G_area : MethodName := ⟨"KiteLogger", "area", "()I"⟩
abbrev b_G_limit : ByteArray := prog_1_method_20_code
abbrev y_G_limit : MethodName := ⟨"KiteLogger", "limit", "()I"⟩
abbrev b_G_endurance : ByteArray := prog_1_method_21_code
abbrev y_G_endurance : MethodName := ⟨"KiteLogger", "endurance", "()I"⟩
abbrev b_G_wear : ByteArray := prog_1_method_22_code
abbrev y_G_wear : MethodName := ⟨"KiteLogger", "wear", "()I"⟩
abbrev b_G_loadOf : ByteArray := prog_1_method_23_code
abbrev y_G_loadOf : MethodName := ⟨"KiteLogger", "loadOf", "(I)I"⟩
abbrev b_G_flightTime : ByteArray := prog_1_method_24_code
abbrev y_G_flightTime : MethodName := ⟨"KiteLogger", "flightTime", "()I"⟩
abbrev b_G_beaconTime : ByteArray := prog_1_method_25_code
abbrev y_G_beaconTime : MethodName := ⟨"KiteLogger", "beaconTime", "()I"⟩
abbrev b_G_launches : ByteArray := prog_1_method_26_code
abbrev y_G_launches : MethodName := ⟨"KiteLogger", "launches", "()I"⟩
abbrev b_G_snaps : ByteArray := prog_1_method_27_code
abbrev y_G_snaps : MethodName := ⟨"KiteLogger", "snaps", "()I"⟩
abbrev b_G_searches : ByteArray := prog_1_method_28_code
abbrev y_G_searches : MethodName := ⟨"KiteLogger", "searches", "()I"⟩
abbrev b_G_interval : ByteArray := prog_1_method_29_code
abbrev y_G_interval : MethodName := ⟨"KiteLogger", "interval", "()I"⟩
abbrev b_G_loggedCount : ByteArray := prog_1_method_30_code
abbrev y_G_loggedCount : MethodName := ⟨"KiteLogger", "loggedCount", "()I"⟩
abbrev b_G_loggedTick : ByteArray := prog_1_method_31_code
abbrev y_G_loggedTick : MethodName := ⟨"KiteLogger", "loggedTick", "(I)I"⟩
abbrev b_G_loggedHeight : ByteArray := prog_1_method_32_code
abbrev y_G_loggedHeight : MethodName := ⟨"KiteLogger", "loggedHeight", "(I)I"⟩
abbrev b_G_loggedGust : ByteArray := prog_1_method_33_code
abbrev y_G_loggedGust : MethodName := ⟨"KiteLogger", "loggedGust", "(I)I"⟩
abbrev b_G_droppedCount : ByteArray := prog_1_method_34_code
abbrev y_G_droppedCount : MethodName := ⟨"KiteLogger", "droppedCount", "()I"⟩
abbrev b_G_archivedCount : ByteArray := prog_1_method_35_code
abbrev y_G_archivedCount : MethodName := ⟨"KiteLogger", "archivedCount", "()I"⟩
abbrev b_G_archivedTick : ByteArray := prog_1_method_36_code
abbrev y_G_archivedTick : MethodName := ⟨"KiteLogger", "archivedTick", "(I)I"⟩
abbrev b_G_archivedHeight : ByteArray := prog_1_method_37_code
abbrev y_G_archivedHeight : MethodName := ⟨"KiteLogger", "archivedHeight", "(I)I"⟩
abbrev b_G_archivedGust : ByteArray := prog_1_method_38_code
abbrev y_G_archivedGust : MethodName := ⟨"KiteLogger", "archivedGust", "(I)I"⟩
abbrev b_G_archivedBetween : ByteArray := prog_1_method_39_code
abbrev y_G_archivedBetween : MethodName := ⟨"KiteLogger", "archivedBetween", "(II)I"⟩
abbrev b_G_highestArchived : ByteArray := prog_1_method_40_code
abbrev y_G_highestArchived : MethodName := ⟨"KiteLogger", "highestArchived", "()I"⟩
abbrev b_G_archivedBefore : ByteArray := prog_1_method_41_code
abbrev y_G_archivedBefore : MethodName := ⟨"KiteLogger", "archivedBefore", "(I)I"⟩
abbrev b_G_meanGust : ByteArray := prog_1_method_42_code
abbrev y_G_meanGust : MethodName := ⟨"KiteLogger", "meanGust", "(I)D"⟩
abbrev b_G_archivedShare : ByteArray := prog_1_method_43_code
abbrev y_G_archivedShare : MethodName := ⟨"KiteLogger", "archivedShare", "()F"⟩
abbrev b_G_gap : ByteArray := prog_1_method_44_code
abbrev y_G_gap : MethodName := ⟨"KiteLogger", "gap", "()I"⟩
abbrev b_G_launchObstacle : ByteArray := prog_1_method_45_code
abbrev y_G_launchObstacle : MethodName := ⟨"KiteLogger", "launchObstacle", "()I"⟩
abbrev b_G_heightAfter : ByteArray := prog_1_method_46_code
abbrev y_G_heightAfter : MethodName := ⟨"KiteLogger", "heightAfter", "(I)I"⟩
abbrev b_G_ticksToSnap : ByteArray := prog_1_method_47_code
abbrev y_G_ticksToSnap : MethodName := ⟨"KiteLogger", "ticksToSnap", "()I"⟩
abbrev b_G_safeHeight : ByteArray := prog_1_method_48_code
abbrev y_G_safeHeight : MethodName := ⟨"KiteLogger", "safeHeight", "()I"⟩
abbrev b_G_launch : ByteArray := prog_1_method_49_code
abbrev y_G_launch : MethodName := ⟨"KiteLogger", "launch", "()I"⟩
abbrev b_G_payOut : ByteArray := prog_1_method_50_code
abbrev y_G_payOut : MethodName := ⟨"KiteLogger", "payOut", "(I)I"⟩
abbrev b_G_reelIn : ByteArray := prog_1_method_51_code
abbrev y_G_reelIn : MethodName := ⟨"KiteLogger", "reelIn", "(I)I"⟩
abbrev b_G_replaceBridle : ByteArray := prog_1_method_52_code
abbrev y_G_replaceBridle : MethodName := ⟨"KiteLogger", "replaceBridle", "(II)I"⟩
abbrev b_G_setInterval : ByteArray := prog_1_method_53_code
abbrev y_G_setInterval : MethodName := ⟨"KiteLogger", "setInterval", "(I)I"⟩
abbrev b_G_search : ByteArray := prog_1_method_54_code
abbrev y_G_search : MethodName := ⟨"KiteLogger", "search", "(I)I"⟩
abbrev b_G_archive : ByteArray := prog_1_method_55_code
abbrev y_G_archive : MethodName := ⟨"KiteLogger", "archive", "()I"⟩
abbrev b_G_passTicks : ByteArray := prog_1_method_56_code
abbrev y_G_passTicks : MethodName := ⟨"KiteLogger", "passTicks", "(I)I"⟩
abbrev b_G_runScript : ByteArray := prog_1_method_57_code
abbrev y_G_runScript : MethodName := ⟨"KiteLogger", "runScript", "(I)I"⟩
abbrev b_G_writeLogger : ByteArray := prog_1_method_58_code
abbrev y_G_writeLogger : MethodName := ⟨"KiteLogger", "writeLogger", "()I"⟩
abbrev b_G_outputByte : ByteArray := prog_1_method_59_code
abbrev y_G_outputByte : MethodName := ⟨"KiteLogger", "outputByte", "(I)I"⟩
abbrev b_G_undoableCount : ByteArray := prog_1_method_60_code
abbrev y_G_undoableCount : MethodName := ⟨"KiteLogger", "undoableCount", "()I"⟩
abbrev b_G_undo : ByteArray := prog_1_method_61_code
abbrev y_G_undo : MethodName := ⟨"KiteLogger", "undo", "()I"⟩
abbrev b_G_saveSnapshot : ByteArray := prog_1_method_62_code
abbrev y_G_saveSnapshot : MethodName := ⟨"KiteLogger", "saveSnapshot", "()V"⟩
abbrev b_G_restoreSnapshot : ByteArray := prog_1_method_63_code
abbrev y_G_restoreSnapshot : MethodName := ⟨"KiteLogger", "restoreSnapshot", "()I"⟩
abbrev b_G_change : ByteArray := prog_1_method_64_code
abbrev y_G_change : MethodName := ⟨"KiteLogger", "change", "(III)I"⟩
abbrev b_G_refuseLength : ByteArray := prog_1_method_65_code
abbrev y_G_refuseLength : MethodName := ⟨"KiteLogger", "refuseLength", "(I)V"⟩
abbrev b_G_refuseOutside : ByteArray := prog_1_method_66_code
abbrev y_G_refuseOutside : MethodName := ⟨"KiteLogger", "refuseOutside", "(III)V"⟩
abbrev b_G_refuseMissing : ByteArray := prog_1_method_67_code
abbrev y_G_refuseMissing : MethodName := ⟨"KiteLogger", "refuseMissing", "(LKiteLogger$Samples;I)V"⟩
abbrev b_G_isOutside : ByteArray := prog_1_method_68_code
abbrev y_G_isOutside : MethodName := ⟨"KiteLogger", "isOutside", "(III)Z"⟩
abbrev b_G_meanOf : ByteArray := prog_1_method_69_code
abbrev y_G_meanOf : MethodName := ⟨"KiteLogger", "meanOf", "(II)D"⟩
abbrev b_G_valueAt : ByteArray := prog_1_method_70_code
abbrev y_G_valueAt : MethodName := ⟨"KiteLogger", "valueAt", "([II)I"⟩
abbrev b_G_putAt : ByteArray := prog_1_method_71_code
abbrev y_G_putAt : MethodName := ⟨"KiteLogger", "putAt", "([III)V"⟩
abbrev b_G_copyRow : ByteArray := prog_1_method_72_code
abbrev y_G_copyRow : MethodName := ⟨"KiteLogger", "copyRow", "([I[I)V"⟩
abbrev b_M_init : ByteArray := prog_12_method_1_code
abbrev y_M_init : MethodName := ⟨"KiteLoggerModel", "<init>", "()V"⟩
abbrev b_M_thrown : ByteArray := prog_12_method_2_code
abbrev y_M_thrown : MethodName := ⟨"KiteLoggerModel", "thrown", "()I"⟩
abbrev b_M_inRange : ByteArray := prog_12_method_3_code
abbrev y_M_inRange : MethodName := ⟨"KiteLoggerModel", "inRange", "(III)Z"⟩
abbrev b_M_lacks : ByteArray := prog_12_method_4_code
abbrev y_M_lacks : MethodName := ⟨"KiteLoggerModel", "lacks", "(Z)Z"⟩
abbrev b_M_sizeOf : ByteArray := prog_12_method_5_code
abbrev y_M_sizeOf : MethodName := ⟨"KiteLoggerModel", "sizeOf", "(I)I"⟩
abbrev b_M_least : ByteArray := prog_12_method_6_code
abbrev y_M_least : MethodName := ⟨"KiteLoggerModel", "least", "(II)I"⟩
abbrev b_M_most : ByteArray := prog_12_method_7_code
abbrev y_M_most : MethodName := ⟨"KiteLoggerModel", "most", "(II)I"⟩
abbrev b_M_begin : ByteArray := prog_12_method_8_code
abbrev y_M_begin : MethodName := ⟨"KiteLoggerModel", "begin", "(III)V"⟩
abbrev b_M_addGust : ByteArray := prog_12_method_9_code
abbrev y_M_addGust : MethodName := ⟨"KiteLoggerModel", "addGust", "(I)V"⟩
abbrev b_M_gustOf : ByteArray := prog_12_method_10_code
abbrev y_M_gustOf : MethodName := ⟨"KiteLoggerModel", "gustOf", "(I)I"⟩
abbrev b_M_windNow : ByteArray := prog_12_method_11_code
abbrev y_M_windNow : MethodName := ⟨"KiteLoggerModel", "windNow", "(I)I"⟩
abbrev b_M_load : ByteArray := prog_12_method_12_code
abbrev y_M_load : MethodName := ⟨"KiteLoggerModel", "load", "(I)I"⟩
abbrev b_M_is : ByteArray := prog_12_method_13_code
abbrev y_M_is : MethodName := ⟨"KiteLoggerModel", "is", "(I)Z"⟩
abbrev b_M_tick : ByteArray := prog_12_method_14_code
abbrev y_M_tick : MethodName := ⟨"KiteLoggerModel", "tick", "()I"⟩
abbrev b_M_patternLength : ByteArray := prog_12_method_15_code
abbrev y_M_patternLength : MethodName := ⟨"KiteLoggerModel", "patternLength", "()I"⟩
abbrev b_M_gust : ByteArray := prog_12_method_16_code
abbrev y_M_gust : MethodName := ⟨"KiteLoggerModel", "gust", "(I)I"⟩
abbrev b_M_windAt : ByteArray := prog_12_method_17_code
abbrev y_M_windAt : MethodName := ⟨"KiteLoggerModel", "windAt", "(I)I"⟩
abbrev b_M_bufferSize : ByteArray := prog_12_method_18_code
abbrev y_M_bufferSize : MethodName := ⟨"KiteLoggerModel", "bufferSize", "()I"⟩
abbrev b_M_bufferedWind : ByteArray := prog_12_method_19_code
abbrev y_M_bufferedWind : MethodName := ⟨"KiteLoggerModel", "bufferedWind", "(I)I"⟩
abbrev b_M_greatest : ByteArray := prog_12_method_20_code
abbrev y_M_greatest : MethodName := ⟨"KiteLoggerModel", "greatest", "()I"⟩
abbrev b_M_greatestWind : ByteArray := prog_12_method_21_code
abbrev y_M_greatestWind : MethodName := ⟨"KiteLoggerModel", "greatestWind", "()I"⟩
abbrev b_M_mean : ByteArray := prog_12_method_22_code
abbrev y_M_mean : MethodName := ⟨"KiteLoggerModel", "mean", "(II)D"⟩
abbrev b_M_meanWind : ByteArray := prog_12_method_23_code
abbrev y_M_meanWind : MethodName := ⟨"KiteLoggerModel", "meanWind", "()D"⟩
abbrev b_M_isLanded : ByteArray := prog_12_method_24_code
abbrev y_M_isLanded : MethodName := ⟨"KiteLoggerModel", "isLanded", "()Z"⟩
abbrev b_M_isFlying : ByteArray := prog_12_method_25_code
abbrev y_M_isFlying : MethodName := ⟨"KiteLoggerModel", "isFlying", "()Z"⟩
abbrev b_M_isFallen : ByteArray := prog_12_method_26_code
abbrev y_M_isFallen : MethodName := ⟨"KiteLoggerModel", "isFallen", "()Z"⟩
abbrev b_M_height : ByteArray := prog_12_method_27_code
abbrev y_M_height : MethodName := ⟨"KiteLoggerModel", "height", "()I"⟩
abbrev b_M_tether : ByteArray := prog_12_method_28_code
abbrev y_M_tether : MethodName := ⟨"KiteLoggerModel", "tether", "()I"⟩
abbrev b_M_area : ByteArray := prog_12_method_29_code
abbrev y_M_area : MethodName := ⟨"KiteLoggerModel", "area", "()I"⟩
abbrev b_M_limit : ByteArray := prog_12_method_30_code
abbrev y_M_limit : MethodName := ⟨"KiteLoggerModel", "limit", "()I"⟩
abbrev b_M_endurance : ByteArray := prog_12_method_31_code
abbrev y_M_endurance : MethodName := ⟨"KiteLoggerModel", "endurance", "()I"⟩
abbrev b_M_wear : ByteArray := prog_12_method_32_code
abbrev y_M_wear : MethodName := ⟨"KiteLoggerModel", "wear", "()I"⟩
abbrev b_M_loadOf : ByteArray := prog_12_method_33_code
abbrev y_M_loadOf : MethodName := ⟨"KiteLoggerModel", "loadOf", "(I)I"⟩
abbrev b_M_flightTime : ByteArray := prog_12_method_34_code
abbrev y_M_flightTime : MethodName := ⟨"KiteLoggerModel", "flightTime", "()I"⟩
abbrev b_M_beaconTime : ByteArray := prog_12_method_35_code
abbrev y_M_beaconTime : MethodName := ⟨"KiteLoggerModel", "beaconTime", "()I"⟩
abbrev b_M_launches : ByteArray := prog_12_method_36_code
abbrev y_M_launches : MethodName := ⟨"KiteLoggerModel", "launches", "()I"⟩
abbrev b_M_snaps : ByteArray := prog_12_method_37_code
abbrev y_M_snaps : MethodName := ⟨"KiteLoggerModel", "snaps", "()I"⟩
abbrev b_M_searches : ByteArray := prog_12_method_38_code
abbrev y_M_searches : MethodName := ⟨"KiteLoggerModel", "searches", "()I"⟩
abbrev b_M_interval : ByteArray := prog_12_method_39_code
abbrev y_M_interval : MethodName := ⟨"KiteLoggerModel", "interval", "()I"⟩
abbrev b_M_loggedCount : ByteArray := prog_12_method_40_code
abbrev y_M_loggedCount : MethodName := ⟨"KiteLoggerModel", "loggedCount", "()I"⟩
abbrev b_M_logged : ByteArray := prog_12_method_41_code
abbrev y_M_logged : MethodName := ⟨"KiteLoggerModel", "logged", "(II)I"⟩
abbrev b_M_loggedTick : ByteArray := prog_12_method_42_code
abbrev y_M_loggedTick : MethodName := ⟨"KiteLoggerModel", "loggedTick", "(I)I"⟩
abbrev b_M_loggedHeight : ByteArray := prog_12_method_43_code
abbrev y_M_loggedHeight : MethodName := ⟨"KiteLoggerModel", "loggedHeight", "(I)I"⟩
abbrev b_M_loggedGust : ByteArray := prog_12_method_44_code
abbrev y_M_loggedGust : MethodName := ⟨"KiteLoggerModel", "loggedGust", "(I)I"⟩
abbrev b_M_droppedCount : ByteArray := prog_12_method_45_code
abbrev y_M_droppedCount : MethodName := ⟨"KiteLoggerModel", "droppedCount", "()I"⟩
abbrev b_M_archivedCount : ByteArray := prog_12_method_46_code
abbrev y_M_archivedCount : MethodName := ⟨"KiteLoggerModel", "archivedCount", "()I"⟩
abbrev b_M_ofArchive : ByteArray := prog_12_method_47_code
abbrev y_M_ofArchive : MethodName := ⟨"KiteLoggerModel", "ofArchive", "(II)I"⟩
abbrev b_M_archived : ByteArray := prog_12_method_48_code
abbrev y_M_archived : MethodName := ⟨"KiteLoggerModel", "archived", "(II)I"⟩
abbrev b_M_archivedTick : ByteArray := prog_12_method_49_code
abbrev y_M_archivedTick : MethodName := ⟨"KiteLoggerModel", "archivedTick", "(I)I"⟩
abbrev b_M_archivedHeight : ByteArray := prog_12_method_50_code
abbrev y_M_archivedHeight : MethodName := ⟨"KiteLoggerModel", "archivedHeight", "(I)I"⟩
abbrev b_M_archivedGust : ByteArray := prog_12_method_51_code
abbrev y_M_archivedGust : MethodName := ⟨"KiteLoggerModel", "archivedGust", "(I)I"⟩
abbrev b_M_countBetween : ByteArray := prog_12_method_52_code
abbrev y_M_countBetween : MethodName := ⟨"KiteLoggerModel", "countBetween", "(II)I"⟩
abbrev b_M_archivedBetween : ByteArray := prog_12_method_53_code
abbrev y_M_archivedBetween : MethodName := ⟨"KiteLoggerModel", "archivedBetween", "(II)I"⟩
abbrev b_M_highestArchived : ByteArray := prog_12_method_54_code
abbrev y_M_highestArchived : MethodName := ⟨"KiteLoggerModel", "highestArchived", "()I"⟩
abbrev b_M_archivedBefore : ByteArray := prog_12_method_55_code
abbrev y_M_archivedBefore : MethodName := ⟨"KiteLoggerModel", "archivedBefore", "(I)I"⟩
abbrev b_M_meanGust : ByteArray := prog_12_method_56_code
abbrev y_M_meanGust : MethodName := ⟨"KiteLoggerModel", "meanGust", "(I)D"⟩
abbrev b_M_archivedShare : ByteArray := prog_12_method_57_code
abbrev y_M_archivedShare : MethodName := ⟨"KiteLoggerModel", "archivedShare", "()F"⟩
abbrev b_M_disorder : ByteArray := prog_12_method_58_code
abbrev y_M_disorder : MethodName := ⟨"KiteLoggerModel", "disorder", "(II)I"⟩
abbrev b_M_gap : ByteArray := prog_12_method_59_code
abbrev y_M_gap : MethodName := ⟨"KiteLoggerModel", "gap", "()I"⟩
abbrev b_M_bufferWind : ByteArray := prog_12_method_60_code
abbrev y_M_bufferWind : MethodName := ⟨"KiteLoggerModel", "bufferWind", "(I)V"⟩
abbrev b_M_snap : ByteArray := prog_12_method_61_code
abbrev y_M_snap : MethodName := ⟨"KiteLoggerModel", "snap", "(I)V"⟩
abbrev b_M_strain : ByteArray := prog_12_method_62_code
abbrev y_M_strain : MethodName := ⟨"KiteLoggerModel", "strain", "(I)V"⟩
abbrev b_M_climb : ByteArray := prog_12_method_63_code
abbrev y_M_climb : MethodName := ⟨"KiteLoggerModel", "climb", "(I)V"⟩
abbrev b_M_makeSample : ByteArray := prog_12_method_64_code
abbrev y_M_makeSample : MethodName := ⟨"KiteLoggerModel", "makeSample", "()V"⟩
abbrev b_M_fly : ByteArray := prog_12_method_65_code
abbrev y_M_fly : MethodName := ⟨"KiteLoggerModel", "fly", "()V"⟩
abbrev b_M_passTick : ByteArray := prog_12_method_66_code
abbrev y_M_passTick : MethodName := ⟨"KiteLoggerModel", "passTick", "()V"⟩
abbrev b_M_pass : ByteArray := prog_12_method_67_code
abbrev y_M_pass : MethodName := ⟨"KiteLoggerModel", "pass", "(I)V"⟩
abbrev b_M_whyNotLaunch : ByteArray := prog_12_method_68_code
abbrev y_M_whyNotLaunch : MethodName := ⟨"KiteLoggerModel", "whyNotLaunch", "()I"⟩
abbrev b_M_launchObstacle : ByteArray := prog_12_method_69_code
abbrev y_M_launchObstacle : MethodName := ⟨"KiteLoggerModel", "launchObstacle", "()I"⟩
abbrev b_M_copy : ByteArray := prog_12_method_70_code
abbrev y_M_copy : MethodName := ⟨"KiteLoggerModel", "copy", "([II[II)V"⟩
abbrev b_M_putAside : ByteArray := prog_12_method_71_code
abbrev y_M_putAside : MethodName := ⟨"KiteLoggerModel", "putAside", "()V"⟩
abbrev b_M_laidBack : ByteArray := prog_12_method_72_code
abbrev y_M_laidBack : MethodName := ⟨"KiteLoggerModel", "laidBack", "(I)I"⟩
abbrev b_M_heightAfter : ByteArray := prog_12_method_73_code
abbrev y_M_heightAfter : MethodName := ⟨"KiteLoggerModel", "heightAfter", "(I)I"⟩
abbrev b_M_untilSnap : ByteArray := prog_12_method_74_code
abbrev y_M_untilSnap : MethodName := ⟨"KiteLoggerModel", "untilSnap", "()I"⟩
abbrev b_M_ticksToSnap : ByteArray := prog_12_method_75_code
abbrev y_M_ticksToSnap : MethodName := ⟨"KiteLoggerModel", "ticksToSnap", "()I"⟩
abbrev b_M_greatestGust : ByteArray := prog_12_method_76_code
abbrev y_M_greatestGust : MethodName := ⟨"KiteLoggerModel", "greatestGust", "()I"⟩
abbrev b_M_safeHeight : ByteArray := prog_12_method_77_code
abbrev y_M_safeHeight : MethodName := ⟨"KiteLoggerModel", "safeHeight", "()I"⟩
abbrev b_M_doLaunch : ByteArray := prog_12_method_78_code
abbrev y_M_doLaunch : MethodName := ⟨"KiteLoggerModel", "doLaunch", "()I"⟩
abbrev b_M_doOut : ByteArray := prog_12_method_79_code
abbrev y_M_doOut : MethodName := ⟨"KiteLoggerModel", "doOut", "(I)I"⟩
abbrev b_M_doIn : ByteArray := prog_12_method_80_code
abbrev y_M_doIn : MethodName := ⟨"KiteLoggerModel", "doIn", "(I)I"⟩
abbrev b_M_doBridle : ByteArray := prog_12_method_81_code
abbrev y_M_doBridle : MethodName := ⟨"KiteLoggerModel", "doBridle", "(II)I"⟩
abbrev b_M_doEvery : ByteArray := prog_12_method_82_code
abbrev y_M_doEvery : MethodName := ⟨"KiteLoggerModel", "doEvery", "(I)I"⟩
abbrev b_M_doSearch : ByteArray := prog_12_method_83_code
abbrev y_M_doSearch : MethodName := ⟨"KiteLoggerModel", "doSearch", "(I)I"⟩
abbrev b_M_doArchive : ByteArray := prog_12_method_84_code
abbrev y_M_doArchive : MethodName := ⟨"KiteLoggerModel", "doArchive", "()I"⟩
abbrev b_M_doWait : ByteArray := prog_12_method_85_code
abbrev y_M_doWait : MethodName := ⟨"KiteLoggerModel", "doWait", "(I)I"⟩
abbrev b_M_keep : ByteArray := prog_12_method_86_code
abbrev y_M_keep : MethodName := ⟨"KiteLoggerModel", "keep", "()V"⟩
abbrev b_M_record : ByteArray := prog_12_method_87_code
abbrev y_M_record : MethodName := ⟨"KiteLoggerModel", "record", "()V"⟩
abbrev b_M_ends : ByteArray := prog_12_method_88_code
abbrev y_M_ends : MethodName := ⟨"KiteLoggerModel", "ends", "(I)I"⟩
abbrev b_M_launch : ByteArray := prog_12_method_89_code
abbrev y_M_launch : MethodName := ⟨"KiteLoggerModel", "launch", "()I"⟩
abbrev b_M_payOut : ByteArray := prog_12_method_90_code
abbrev y_M_payOut : MethodName := ⟨"KiteLoggerModel", "payOut", "(I)I"⟩
abbrev b_M_reelIn : ByteArray := prog_12_method_91_code
abbrev y_M_reelIn : MethodName := ⟨"KiteLoggerModel", "reelIn", "(I)I"⟩
abbrev b_M_replaceBridle : ByteArray := prog_12_method_92_code
abbrev y_M_replaceBridle : MethodName := ⟨"KiteLoggerModel", "replaceBridle", "(II)I"⟩
abbrev b_M_setInterval : ByteArray := prog_12_method_93_code
abbrev y_M_setInterval : MethodName := ⟨"KiteLoggerModel", "setInterval", "(I)I"⟩
abbrev b_M_search : ByteArray := prog_12_method_94_code
abbrev y_M_search : MethodName := ⟨"KiteLoggerModel", "search", "(I)I"⟩
abbrev b_M_archive : ByteArray := prog_12_method_95_code
abbrev y_M_archive : MethodName := ⟨"KiteLoggerModel", "archive", "()I"⟩
abbrev b_M_passTicks : ByteArray := prog_12_method_96_code
abbrev y_M_passTicks : MethodName := ⟨"KiteLoggerModel", "passTicks", "(I)I"⟩
abbrev b_M_write : ByteArray := prog_12_method_97_code
abbrev y_M_write : MethodName := ⟨"KiteLoggerModel", "write", "(I)V"⟩
abbrev b_M_writeNumber : ByteArray := prog_12_method_98_code
abbrev y_M_writeNumber : MethodName := ⟨"KiteLoggerModel", "writeNumber", "(I)V"⟩
abbrev b_M_writeLogger : ByteArray := prog_12_method_99_code
abbrev y_M_writeLogger : MethodName := ⟨"KiteLoggerModel", "writeLogger", "()I"⟩
abbrev b_M_outputByte : ByteArray := prog_12_method_100_code
abbrev y_M_outputByte : MethodName := ⟨"KiteLoggerModel", "outputByte", "(I)I"⟩
abbrev b_M_undoableCount : ByteArray := prog_12_method_101_code
abbrev y_M_undoableCount : MethodName := ⟨"KiteLoggerModel", "undoableCount", "()I"⟩
abbrev b_M_undo : ByteArray := prog_12_method_102_code
abbrev y_M_undo : MethodName := ⟨"KiteLoggerModel", "undo", "()I"⟩
abbrev b_M_saveSnapshot : ByteArray := prog_12_method_103_code
abbrev y_M_saveSnapshot : MethodName := ⟨"KiteLoggerModel", "saveSnapshot", "()V"⟩
abbrev b_M_restoreSnapshot : ByteArray := prog_12_method_104_code
abbrev y_M_restoreSnapshot : MethodName := ⟨"KiteLoggerModel", "restoreSnapshot", "()I"⟩
abbrev b_M_appendText : ByteArray := prog_12_method_105_code
abbrev y_M_appendText : MethodName := ⟨"KiteLoggerModel", "appendText", "(IIIII)I"⟩
abbrev b_M_errorOffset : ByteArray := prog_12_method_106_code
abbrev y_M_errorOffset : MethodName := ⟨"KiteLoggerModel", "errorOffset", "()I"⟩
abbrev b_M_byteAt : ByteArray := prog_12_method_107_code
abbrev y_M_byteAt : MethodName := ⟨"KiteLoggerModel", "byteAt", "(I)I"⟩
abbrev b_M_isLetter : ByteArray := prog_12_method_108_code
abbrev y_M_isLetter : MethodName := ⟨"KiteLoggerModel", "isLetter", "(I)Z"⟩
abbrev b_M_isDigit : ByteArray := prog_12_method_109_code
abbrev y_M_isDigit : MethodName := ⟨"KiteLoggerModel", "isDigit", "(I)Z"⟩
abbrev b_M_scan : ByteArray := prog_12_method_110_code
abbrev y_M_scan : MethodName := ⟨"KiteLoggerModel", "scan", "()V"⟩
abbrev b_M_startText : ByteArray := prog_12_method_111_code
abbrev y_M_startText : MethodName := ⟨"KiteLoggerModel", "startText", "(I)V"⟩
abbrev b_M_finish : ByteArray := prog_12_method_112_code
abbrev y_M_finish : MethodName := ⟨"KiteLoggerModel", "finish", "()I"⟩
abbrev b_M_check : ByteArray := prog_12_method_113_code
abbrev y_M_check : MethodName := ⟨"KiteLoggerModel", "check", "(ZI)V"⟩
abbrev b_M_advance : ByteArray := prog_12_method_114_code
abbrev y_M_advance : MethodName := ⟨"KiteLoggerModel", "advance", "()V"⟩
abbrev b_M_isSymbol : ByteArray := prog_12_method_115_code
abbrev y_M_isSymbol : MethodName := ⟨"KiteLoggerModel", "isSymbol", "(I)Z"⟩
abbrev b_M_isWord : ByteArray := prog_12_method_116_code
abbrev y_M_isWord : MethodName := ⟨"KiteLoggerModel", "isWord", "(Ljava/lang/String;)Z"⟩
abbrev b_M_expect : ByteArray := prog_12_method_118_code
abbrev y_M_expect : MethodName := ⟨"KiteLoggerModel", "expect", "(I)V"⟩
abbrev b_M_value : ByteArray := prog_12_method_119_code
abbrev y_M_value : MethodName := ⟨"KiteLoggerModel", "value", "()I"⟩
abbrev b_M_look : ByteArray := prog_12_method_120_code
abbrev y_M_look : MethodName := ⟨"KiteLoggerModel", "look", "(II)I"⟩
abbrev b_M_readNumber : ByteArray := prog_12_method_121_code
abbrev y_M_readNumber : MethodName := ⟨"KiteLoggerModel", "readNumber", "(II)I"⟩
abbrev b_M_errorCode : ByteArray := prog_12_method_122_code
abbrev y_M_errorCode : MethodName := ⟨"KiteLoggerModel", "errorCode", "()I"⟩
abbrev b_M_isFaulty : ByteArray := prog_12_method_123_code
abbrev y_M_isFaulty : MethodName := ⟨"KiteLoggerModel", "isFaulty", "()Z"⟩
abbrev b_M_isLength : ByteArray := prog_12_method_124_code
abbrev y_M_isLength : MethodName := ⟨"KiteLoggerModel", "isLength", "(I)Z"⟩
abbrev b_M_readGust : ByteArray := prog_12_method_125_code
abbrev y_M_readGust : MethodName := ⟨"KiteLoggerModel", "readGust", "()V"⟩
abbrev b_M_readStation : ByteArray := prog_12_method_126_code
abbrev y_M_readStation : MethodName := ⟨"KiteLoggerModel", "readStation", "()V"⟩
abbrev b_M_loadStation : ByteArray := prog_12_method_127_code
abbrev y_M_loadStation : MethodName := ⟨"KiteLoggerModel", "loadStation", "(I)I"⟩
abbrev b_M_orderHere : ByteArray := prog_12_method_128_code
abbrev y_M_orderHere : MethodName := ⟨"KiteLoggerModel", "orderHere", "()I"⟩
abbrev b_M_readFirst : ByteArray := prog_12_method_129_code
abbrev y_M_readFirst : MethodName := ⟨"KiteLoggerModel", "readFirst", "(I)I"⟩
abbrev b_M_readRepeat : ByteArray := prog_12_method_130_code
abbrev y_M_readRepeat : MethodName := ⟨"KiteLoggerModel", "readRepeat", "(II)V"⟩
abbrev b_M_readOrder : ByteArray := prog_12_method_131_code
abbrev y_M_readOrder : MethodName := ⟨"KiteLoggerModel", "readOrder", "(I)V"⟩
abbrev b_M_does : ByteArray := prog_12_method_132_code
abbrev y_M_does : MethodName := ⟨"KiteLoggerModel", "does", "(I)I"⟩
abbrev b_M_isRepeated : ByteArray := prog_12_method_133_code
abbrev y_M_isRepeated : MethodName := ⟨"KiteLoggerModel", "isRepeated", "(I)Z"⟩
abbrev b_M_areDone : ByteArray := prog_12_method_134_code
abbrev y_M_areDone : MethodName := ⟨"KiteLoggerModel", "areDone", "(II)Z"⟩
abbrev b_M_runScript : ByteArray := prog_12_method_135_code
abbrev y_M_runScript : MethodName := ⟨"KiteLoggerModel", "runScript", "(I)I"⟩
abbrev b_L_loadStation : ByteArray := method_3_code
abbrev y_L_loadStation : MethodName := ⟨"KiteLoggerLaw", "loadStation", "(LKiteLogger;I[J)I"⟩
abbrev b_L_gust : ByteArray := method_4_code
abbrev y_L_gust : MethodName := ⟨"KiteLoggerLaw", "gust", "(LKiteLogger;I[J)I"⟩
abbrev b_L_windAt : ByteArray := method_5_code
abbrev y_L_windAt : MethodName := ⟨"KiteLoggerLaw", "windAt", "(LKiteLogger;I[J)I"⟩
abbrev b_L_loadOf : ByteArray := method_6_code
abbrev y_L_loadOf : MethodName := ⟨"KiteLoggerLaw", "loadOf", "(LKiteLogger;I[J)I"⟩
abbrev b_L_loggedTick : ByteArray := method_7_code
abbrev y_L_loggedTick : MethodName := ⟨"KiteLoggerLaw", "loggedTick", "(LKiteLogger;I[J)I"⟩
abbrev b_L_loggedHeight : ByteArray := method_8_code
abbrev y_L_loggedHeight : MethodName := ⟨"KiteLoggerLaw", "loggedHeight", "(LKiteLogger;I[J)I"⟩
abbrev b_L_loggedGust : ByteArray := method_9_code
abbrev y_L_loggedGust : MethodName := ⟨"KiteLoggerLaw", "loggedGust", "(LKiteLogger;I[J)I"⟩
abbrev b_L_archivedTick : ByteArray := method_10_code
abbrev y_L_archivedTick : MethodName := ⟨"KiteLoggerLaw", "archivedTick", "(LKiteLogger;I[J)I"⟩
abbrev b_L_archivedHeight : ByteArray := method_11_code
abbrev y_L_archivedHeight : MethodName := ⟨"KiteLoggerLaw", "archivedHeight", "(LKiteLogger;I[J)I"⟩
abbrev b_L_archivedGust : ByteArray := method_12_code
abbrev y_L_archivedGust : MethodName := ⟨"KiteLoggerLaw", "archivedGust", "(LKiteLogger;I[J)I"⟩
abbrev b_L_meanGust : ByteArray := method_13_code
abbrev y_L_meanGust : MethodName := ⟨"KiteLoggerLaw", "meanGust", "(LKiteLogger;I[D)I"⟩
abbrev b_L_heightAfter : ByteArray := method_14_code
abbrev y_L_heightAfter : MethodName := ⟨"KiteLoggerLaw", "heightAfter", "(LKiteLogger;I[J)I"⟩
abbrev b_L_launch : ByteArray := method_15_code
abbrev y_L_launch : MethodName := ⟨"KiteLoggerLaw", "launch", "(LKiteLogger;[J)I"⟩
abbrev b_L_payOut : ByteArray := method_16_code
abbrev y_L_payOut : MethodName := ⟨"KiteLoggerLaw", "payOut", "(LKiteLogger;I[J)I"⟩
abbrev b_L_reelIn : ByteArray := method_17_code
abbrev y_L_reelIn : MethodName := ⟨"KiteLoggerLaw", "reelIn", "(LKiteLogger;I[J)I"⟩
abbrev b_L_replaceBridle : ByteArray := method_18_code
abbrev y_L_replaceBridle : MethodName := ⟨"KiteLoggerLaw", "replaceBridle", "(LKiteLogger;II[J)I"⟩
abbrev b_L_setInterval : ByteArray := method_19_code
abbrev y_L_setInterval : MethodName := ⟨"KiteLoggerLaw", "setInterval", "(LKiteLogger;I[J)I"⟩
abbrev b_L_search : ByteArray := method_20_code
abbrev y_L_search : MethodName := ⟨"KiteLoggerLaw", "search", "(LKiteLogger;I[J)I"⟩
abbrev b_L_archive : ByteArray := method_21_code
abbrev y_L_archive : MethodName := ⟨"KiteLoggerLaw", "archive", "(LKiteLogger;[J)I"⟩
abbrev b_L_passTicks : ByteArray := method_22_code
abbrev y_L_passTicks : MethodName := ⟨"KiteLoggerLaw", "passTicks", "(LKiteLogger;I[J)I"⟩
abbrev b_L_runScript : ByteArray := method_23_code
abbrev y_L_runScript : MethodName := ⟨"KiteLoggerLaw", "runScript", "(LKiteLogger;I[J)I"⟩
abbrev b_L_outputByte : ByteArray := method_24_code
abbrev y_L_outputByte : MethodName := ⟨"KiteLoggerLaw", "outputByte", "(LKiteLogger;I[J)I"⟩
abbrev b_L_undo : ByteArray := method_25_code
abbrev y_L_undo : MethodName := ⟨"KiteLoggerLaw", "undo", "(LKiteLogger;[J)I"⟩
abbrev b_L_restoreSnapshot : ByteArray := method_26_code
abbrev y_L_restoreSnapshot : MethodName := ⟨"KiteLoggerLaw", "restoreSnapshot", "(LKiteLogger;[J)I"⟩
end
section
/-! the memory: places, each a row of ints; what the world's cells hold is read off it -/
abbrev Mem : Type := Nat → Nat → Int32
def setR (M : Mem) (p : Nat) (f : Nat → Int32) : Mem := fun q => if q = p then f else M q
def put (M : Mem) (p k : Nat) (v : Int32) : Mem := setR M p (upd (M p) k v)
/-- what lies at a place: kind (0..10: an object of that class; 20..25: an array), length, references -/
abbrev Shp : Type := Nat → Nat × Nat × (Nat → Option Nat)
/-- the configuration: class numbers, array classes, addresses, live places, shape, the start of what may be written -/
abbrev Wc : Type := va_G × (Nat → ClassId) × (Nat → Nat) × List Nat × Shp × Nat
abbrev wD (w : Wc) : va_G := w.1
abbrev wca (w : Wc) : Nat → ClassId := w.2.1
abbrev wad (w : Wc) : Nat → Nat := w.2.2.1
abbrev wL (w : Wc) : List Nat := w.2.2.2.1
abbrev wZ (w : Wc) : Shp := w.2.2.2.2.1
abbrev wlo (w : Wc) : Nat := w.2.2.2.2.2
abbrev wA (w : Wc) : Nat → Prop := fun q => wlo w ≤ q
/-- field kinds of each class: 0 an int, 1 a reference, 2 a reference that the memory chooses -/
def ftab : List (List Nat) := [[1,0,0], [0,0,0,0,0,0,0,0,0,0,0,0,0], [1,0], [0,1,1,1,0,0,0], [1,1,1,1,0,0], [1,1,0,1,1,1,0,0,0], [0,0,0,0,1,0], [1,0,0,0,0,0,0,0,0,0], [1,0,0], [1,1,1,1,1,1,1,0,1], [1,1,1,1,1,1,2,0,0,0,0,0,1,0,1,0,0,0,0,0,0,0,0,0,1,1,0,0]]
def ftag (ci : Nat) : List Nat := ftab.getD ci []
def fval (w : Wc) (z : Nat → Option Nat) (m : Nat → Int32) (tag k : Nat) : Value :=
  if tag = 0 then .int (m k) else if tag = 1 then va_rf ((z k).map (wad w)) else if m k = 0 then .null else if m k = 1 then va_rf ((z k).map (wad w)) else va_rf ((z (k + 50)).map (wad w))
def flds (w : Wc) (ci : Nat) (z : Nat → Option Nat) (m : Nat → Int32) : List Value := (List.range (ftag ci).length).map (fun k => fval w z m ((ftag ci).getD k 0) k)
def cellE (w : Wc) (M : Mem) (p : Nat) : va_E :=
  if (wZ w p).1 < 20 then .inr ((wZ w p).1, flds w (wZ w p).1 (wZ w p).2.2 (M p))
  else if (wZ w p).1 = 20 then .inl (wca w 0, (wZ w p).2.1, .inl (M p))
  else if (wZ w p).1 = 21 then .inl (wca w 1, (wZ w p).2.1, .inl (M p))
  else if (wZ w p).1 = 22 then .inl (wca w 2, 1, .inr (.inl (fun j => (M p j).toInt64)))
  else if (wZ w p).1 = 23 then .inl (wca w 3, 1, .inr (.inr (.inr (.inl (fun _ => UInt64.ofNat (wZ w p).2.1)))))
  else if (wZ w p).1 = 24 then .inl (wca w 4, (wZ w p).2.1, .inr (.inr (.inr (.inr (fun j => ((wZ w p).2.2 j).map (wad w))))))
  else .inl (wca w 5, (wZ w p).2.1, .inr (.inr (.inr (.inr (fun j => ((wZ w p).2.2 j).map (wad w))))))
def wtys (w : Wc) : List (ClassId × FieldType) := [(wca w 0, .int), (wca w 1, .byte), (wca w 2, .long), (wca w 3, .double), (wca w 4, .object "KiteLogger$Station"), (wca w 5, .object "java/lang/String")]
def wW (w : Wc) (M : Mem) : va_W := (wL w).map (fun p => (wad w p, cellE w M p))
def Rp (w : Wc) (M : Mem) (H : Heap) : Prop := va_P (wD w) vwCl (wW w M) H
/-- the live places are apart, and may be written -/
def Wok (w : Wc) : Prop := (wL w).Nodup ∧ (∀ p ∈ wL w, ∀ q ∈ wL w, wad w p = wad w q → p = q) ∧ ∀ p ∈ wL w, wA w (wad w p)
theorem wW_get {w : Wc} {M : Mem} {p : Nat} (h : p ∈ wL w) : ∃ k : Nat, (wL w)[k]? = some p ∧ (wW w M)[k]? = some (wad w p, cellE w M p) := by
  obtain ⟨k, hk⟩ := List.getElem?_of_mem h
  exact ⟨k, hk, by unfold wW; rw [List.getElem?_map, hk, Option.map_some]⟩
theorem wD_of {w : Wc} (h : Wok w) (M : Mem) : va_D (wA w) (wW w M) := by
  have key : ∀ (i : Nat) (q : Nat × va_E), (wW w M)[i]? = some q → ∃ p, (wL w)[i]? = some p ∧ wad w p = q.1 := by
    intro i q hq
    unfold wW at hq
    rw [List.getElem?_map] at hq
    cases hi : (wL w)[i]? with
    | none => rw [hi] at hq; cases hq
    | some p => rw [hi] at hq; cases hq; exact ⟨p, rfl, rfl⟩
  refine ⟨fun i j x y hi hj hxy => ?_, fun k q hk => ?_⟩
  · obtain ⟨p, h1, h2⟩ := key i x hi
    obtain ⟨q, h3, h4⟩ := key j y hj
    have hpq : p = q := h.2.1 p (List.mem_of_getElem? h1) q (List.mem_of_getElem? h3) (by rw [h2, h4]; exact hxy)
    subst hpq
    have hil : i < (wL w).length := (List.getElem?_eq_some_iff.mp h1).1
    exact (List.getElem?_inj hil h.1).mp (h1.trans h3.symm)
  · obtain ⟨p, h1, h2⟩ := key k q hk
    rw [← h2]
    exact h.2.2 p (List.mem_of_getElem? h1)
theorem setR_self {M : Mem} {p : Nat} {f : Nat → Int32} : setR M p f p = f := if_pos rfl
theorem setR_ne {M : Mem} {p q : Nat} {f : Nat → Int32} (h : q ≠ p) : setR M p f q = M q := if_neg h
theorem cellE_ne {w : Wc} {M : Mem} {p q : Nat} {f : Nat → Int32} (h : q ≠ p) : cellE w (setR M p f) q = cellE w M q := by unfold cellE; rw [setR_ne h]
/-- the world behind a store at a place -/
theorem wW_set {w : Wc} {M : Mem} (hw : Wok w) {p k : Nat} {f : Nat → Int32} {e : va_E} (hk : (wL w)[k]? = some p) (he : e = cellE w (setR M p f) p) : (wW w M).set k (wad w p, e) = wW w (setR M p f) := by
  subst he
  apply List.ext_getElem?
  intro j
  have hkl : k < (wL w).length := (List.getElem?_eq_some_iff.mp hk).1
  by_cases hj : j = k
  · subst hj
    rw [List.getElem?_set_self (by unfold wW; rw [List.length_map]; exact hkl)]
    unfold wW
    rw [List.getElem?_map, hk, Option.map_some]
  · rw [List.getElem?_set_ne (Ne.symm hj)]
    unfold wW
    rw [List.getElem?_map, List.getElem?_map]
    cases hq : (wL w)[j]? with
    | none => rw [Option.map_none, Option.map_none]
    | some q =>
      have hne : q ≠ p := by
        intro e
        subst e
        have hjl : j < (wL w).length := (List.getElem?_eq_some_iff.mp hq).1
        exact hj ((List.getElem?_inj hjl hw.1).mp (hq.trans hk.symm))
      rw [Option.map_some, Option.map_some, cellE_ne hne]
theorem cellE_obj {w : Wc} {M : Mem} {p ci : Nat} (h : (wZ w p).1 = ci) (hc : ci < 20) : cellE w M p = .inr (ci, flds w ci (wZ w p).2.2 (M p)) := by
  unfold cellE
  rw [h, if_pos hc]
theorem cellE_arr {w : Wc} {M : Mem} {p : Nat} (h : (wZ w p).1 = 20) : cellE w M p = .inl (wca w 0, (wZ w p).2.1, .inl (M p)) := by
  unfold cellE
  rw [h, if_neg (by decide), if_pos rfl]
theorem cellE_byt {w : Wc} {M : Mem} {p : Nat} (h : (wZ w p).1 = 21) : cellE w M p = .inl (wca w 1, (wZ w p).2.1, .inl (M p)) := by
  unfold cellE
  rw [h, if_neg (by decide), if_neg (by decide), if_pos rfl]
theorem cellE_lng {w : Wc} {M : Mem} {p : Nat} (h : (wZ w p).1 = 22) : cellE w M p = .inl (wca w 2, 1, .inr (.inl (fun j => (M p j).toInt64))) := by
  unfold cellE
  rw [h, if_neg (by decide), if_neg (by decide), if_neg (by decide), if_pos rfl]
theorem cellE_sta {w : Wc} {M : Mem} {p : Nat} (h : (wZ w p).1 = 24) : cellE w M p = .inl (wca w 4, (wZ w p).2.1, .inr (.inr (.inr (.inr (fun j => ((wZ w p).2.2 j).map (wad w)))))) := by
  unfold cellE
  rw [h, if_neg (by decide), if_neg (by decide), if_neg (by decide), if_neg (by decide), if_neg (by decide), if_pos rfl]
theorem cellE_str {w : Wc} {M : Mem} {p : Nat} (h : (wZ w p).1 = 25) : cellE w M p = .inl (wca w 5, (wZ w p).2.1, .inr (.inr (.inr (.inr (fun j => ((wZ w p).2.2 j).map (wad w)))))) := by
  unfold cellE
  rw [h, if_neg (by decide), if_neg (by decide), if_neg (by decide), if_neg (by decide), if_neg (by decide), if_neg (by decide)]
theorem flds_len {w : Wc} {ci : Nat} {z : Nat → Option Nat} {m : Nat → Int32} : (flds w ci z m).length = (ftag ci).length := by simp [flds]
theorem flds_get {w : Wc} {ci k : Nat} {z : Nat → Option Nat} {m : Nat → Int32} (hk : k < (ftag ci).length) : (flds w ci z m)[k]? = some (fval w z m ((ftag ci).getD k 0) k) := by
  unfold flds
  rw [List.getElem?_map, List.getElem?_range hk]
  rfl
theorem flds_int {w : Wc} {ci k : Nat} {z : Nat → Option Nat} {m : Nat → Int32} (hk : k < (ftag ci).length) (ht : (ftag ci).getD k 0 = 0) : (flds w ci z m)[k]? = some (.int (m k)) := by rw [flds_get hk, ht]; rfl
theorem flds_ref {w : Wc} {ci k q : Nat} {z : Nat → Option Nat} {m : Nat → Int32} (hk : k < (ftag ci).length) (ht : (ftag ci).getD k 0 = 1) (hz : z k = some q) : (flds w ci z m)[k]? = some (.ref (wad w q)) := by rw [flds_get hk, ht]; unfold fval; rw [if_neg (by decide), if_pos rfl, hz]; rfl
theorem flds_put {w : Wc} {ci k : Nat} {z : Nat → Option Nat} {m : Nat → Int32} {v : Int32} (hk : k < (ftag ci).length) (ht : (ftag ci).getD k 0 = 0) : (flds w ci z m).set k (.int v) = flds w ci z (upd m k v) := by
  apply List.ext_getElem?
  intro j
  by_cases hj : j = k
  · subst hj
    rw [List.getElem?_set_self (by rw [flds_len]; exact hk), flds_int hk ht]
    simp [upd]
  · rw [List.getElem?_set_ne (Ne.symm hj)]
    by_cases hl : j < (ftag ci).length
    · rw [flds_get hl, flds_get hl]
      have e : upd m k v j = m j := by simp [upd, hj]
      unfold fval
      rw [e]
    · rw [List.getElem?_eq_none (by rw [flds_len]; omega), List.getElem?_eq_none (by rw [flds_len]; omega)]
/-- a field of a class, by the entry of a class's pool -/
def FA (own : String) (idx ci k tag : Nat) : Prop := ∃ (ref : String) (C : String) (T : u_T) (N : Nat), Cond.fieldLink own idx ref (T k).2.1 (T k).2.2.1 ∈ TT ∧ ref = (T k).1 ∧ vwCl[ci]? = some (C, T, N) ∧ k < N ∧ (∀ w ∈ u_ws C T N, w ∈ TT) ∧ ci < 20 ∧ k < (ftag ci).length ∧ (ftag ci).getD k 0 = tag
def FN (own : String) (idx ci k tag : Nat) : Prop := ∃ (ref host : String) (C : String) (T : u_T) (N : Nat), Cond.fieldLinkNest own idx ref (T k).2.1 (T k).2.2.1 host ∈ NW ∧ ref = (T k).1 ∧ vwCl[ci]? = some (C, T, N) ∧ k < N ∧ (∀ w ∈ u_ws C T N, w ∈ TT) ∧ ci < 20 ∧ k < (ftag ci).length ∧ (ftag ci).getD k 0 = tag
/-- .. and that an int may be put there -/
def FW (ci k : Nat) (ty : FieldType) : Prop := ∃ (C : String) (T : u_T) (N : Nat) (ty0 : Nat → FieldType), vwCl[ci]? = some (C, T, N) ∧ (∀ k, k < N → parseFieldDescriptor (T k).2.2.1 = some (ty0 k)) ∧ (∀ a, a < N → ∀ b, b < N → a ≠ b → (T a).2.1 ≠ (T b).2.1) ∧ (T k).2.2.2 = false ∧ parseFieldDescriptor (T k).2.2.1 = some ty
end
section
/-! words: fields and calls by the pools' entries -/
theorem uw_0 : ∀ w ∈ u_ws "KiteLogger$History" T0 3, w ∈ TT := by
  intro w hw
  obtain ⟨k, hk, rfl⟩ := List.mem_map.mp hw
  have hk := List.mem_range.mp hk
  by_cases h0 : k = 0
  · subst h0; exact TT_in (i := 406) (by decide +kernel) (by decide +kernel)
  by_cases h1 : k = 1
  · subst h1; exact TT_in (i := 408) (by decide +kernel) (by decide +kernel)
  by_cases h2 : k = 2
  · subst h2; exact TT_in (i := 410) (by decide +kernel) (by decide +kernel)
  omega
theorem uw_1 : ∀ w ∈ u_ws "KiteLogger$Kite" T1 13, w ∈ TT := by
  intro w hw
  obtain ⟨k, hk, rfl⟩ := List.mem_map.mp hw
  have hk := List.mem_range.mp hk
  by_cases h0 : k = 0
  · subst h0; exact TT_in (i := 276) (by decide +kernel) (by decide +kernel)
  by_cases h1 : k = 1
  · subst h1; exact TT_in (i := 278) (by decide +kernel) (by decide +kernel)
  by_cases h2 : k = 2
  · subst h2; exact TT_in (i := 280) (by decide +kernel) (by decide +kernel)
  by_cases h3 : k = 3
  · subst h3; exact TT_in (i := 282) (by decide +kernel) (by decide +kernel)
  by_cases h4 : k = 4
  · subst h4; exact TT_in (i := 284) (by decide +kernel) (by decide +kernel)
  by_cases h5 : k = 5
  · subst h5; exact TT_in (i := 286) (by decide +kernel) (by decide +kernel)
  by_cases h6 : k = 6
  · subst h6; exact TT_in (i := 288) (by decide +kernel) (by decide +kernel)
  by_cases h7 : k = 7
  · subst h7; exact TT_in (i := 290) (by decide +kernel) (by decide +kernel)
  by_cases h8 : k = 8
  · subst h8; exact TT_in (i := 292) (by decide +kernel) (by decide +kernel)
  by_cases h9 : k = 9
  · subst h9; exact TT_in (i := 294) (by decide +kernel) (by decide +kernel)
  by_cases h10 : k = 10
  · subst h10; exact TT_in (i := 296) (by decide +kernel) (by decide +kernel)
  by_cases h11 : k = 11
  · subst h11; exact TT_in (i := 298) (by decide +kernel) (by decide +kernel)
  by_cases h12 : k = 12
  · subst h12; exact TT_in (i := 300) (by decide +kernel) (by decide +kernel)
  omega
theorem uw_2 : ∀ w ∈ u_ws "KiteLogger$Output" T2 2, w ∈ TT := by
  intro w hw
  obtain ⟨k, hk, rfl⟩ := List.mem_map.mp hw
  have hk := List.mem_range.mp hk
  by_cases h0 : k = 0
  · subst h0; exact TT_in (i := 422) (by decide +kernel) (by decide +kernel)
  by_cases h1 : k = 1
  · subst h1; exact TT_in (i := 424) (by decide +kernel) (by decide +kernel)
  omega
theorem uw_3 : ∀ w ∈ u_ws "KiteLogger$Samples" T3 7, w ∈ TT := by
  intro w hw
  obtain ⟨k, hk, rfl⟩ := List.mem_map.mp hw
  have hk := List.mem_range.mp hk
  by_cases h0 : k = 0
  · subst h0; exact TT_in (i := 340) (by decide +kernel) (by decide +kernel)
  by_cases h1 : k = 1
  · subst h1; exact TT_in (i := 342) (by decide +kernel) (by decide +kernel)
  by_cases h2 : k = 2
  · subst h2; exact TT_in (i := 344) (by decide +kernel) (by decide +kernel)
  by_cases h3 : k = 3
  · subst h3; exact TT_in (i := 346) (by decide +kernel) (by decide +kernel)
  by_cases h4 : k = 4
  · subst h4; exact TT_in (i := 348) (by decide +kernel) (by decide +kernel)
  by_cases h5 : k = 5
  · subst h5; exact TT_in (i := 350) (by decide +kernel) (by decide +kernel)
  by_cases h6 : k = 6
  · subst h6; exact TT_in (i := 352) (by decide +kernel) (by decide +kernel)
  omega
theorem uw_4 : ∀ w ∈ u_ws "KiteLogger$Script" T4 6, w ∈ TT := by
  intro w hw
  obtain ⟨k, hk, rfl⟩ := List.mem_map.mp hw
  have hk := List.mem_range.mp hk
  by_cases h0 : k = 0
  · subst h0; exact TT_in (i := 222) (by decide +kernel) (by decide +kernel)
  by_cases h1 : k = 1
  · subst h1; exact TT_in (i := 224) (by decide +kernel) (by decide +kernel)
  by_cases h2 : k = 2
  · subst h2; exact TT_in (i := 226) (by decide +kernel) (by decide +kernel)
  by_cases h3 : k = 3
  · subst h3; exact TT_in (i := 228) (by decide +kernel) (by decide +kernel)
  by_cases h4 : k = 4
  · subst h4; exact TT_in (i := 230) (by decide +kernel) (by decide +kernel)
  by_cases h5 : k = 5
  · subst h5; exact TT_in (i := 232) (by decide +kernel) (by decide +kernel)
  omega
theorem uw_5 : ∀ w ∈ u_ws "KiteLogger$Station" T5 9, w ∈ TT := by
  intro w hw
  obtain ⟨k, hk, rfl⟩ := List.mem_map.mp hw
  have hk := List.mem_range.mp hk
  by_cases h0 : k = 0
  · subst h0; exact TT_in (i := 372) (by decide +kernel) (by decide +kernel)
  by_cases h1 : k = 1
  · subst h1; exact TT_in (i := 374) (by decide +kernel) (by decide +kernel)
  by_cases h2 : k = 2
  · subst h2; exact TT_in (i := 376) (by decide +kernel) (by decide +kernel)
  by_cases h3 : k = 3
  · subst h3; exact TT_in (i := 378) (by decide +kernel) (by decide +kernel)
  by_cases h4 : k = 4
  · subst h4; exact TT_in (i := 380) (by decide +kernel) (by decide +kernel)
  by_cases h5 : k = 5
  · subst h5; exact TT_in (i := 382) (by decide +kernel) (by decide +kernel)
  by_cases h6 : k = 6
  · subst h6; exact TT_in (i := 384) (by decide +kernel) (by decide +kernel)
  by_cases h7 : k = 7
  · subst h7; exact TT_in (i := 386) (by decide +kernel) (by decide +kernel)
  by_cases h8 : k = 8
  · subst h8; exact TT_in (i := 388) (by decide +kernel) (by decide +kernel)
  omega
theorem uw_6 : ∀ w ∈ u_ws "KiteLogger$StationPlan" T6 6, w ∈ TT := by
  intro w hw
  obtain ⟨k, hk, rfl⟩ := List.mem_map.mp hw
  have hk := List.mem_range.mp hk
  by_cases h0 : k = 0
  · subst h0; exact TT_in (i := 194) (by decide +kernel) (by decide +kernel)
  by_cases h1 : k = 1
  · subst h1; exact TT_in (i := 196) (by decide +kernel) (by decide +kernel)
  by_cases h2 : k = 2
  · subst h2; exact TT_in (i := 198) (by decide +kernel) (by decide +kernel)
  by_cases h3 : k = 3
  · subst h3; exact TT_in (i := 200) (by decide +kernel) (by decide +kernel)
  by_cases h4 : k = 4
  · subst h4; exact TT_in (i := 202) (by decide +kernel) (by decide +kernel)
  by_cases h5 : k = 5
  · subst h5; exact TT_in (i := 204) (by decide +kernel) (by decide +kernel)
  omega
theorem uw_7 : ∀ w ∈ u_ws "KiteLogger$TextReader" T7 10, w ∈ TT := by
  intro w hw
  obtain ⟨k, hk, rfl⟩ := List.mem_map.mp hw
  have hk := List.mem_range.mp hk
  by_cases h0 : k = 0
  · subst h0; exact TT_in (i := 143) (by decide +kernel) (by decide +kernel)
  by_cases h1 : k = 1
  · subst h1; exact TT_in (i := 145) (by decide +kernel) (by decide +kernel)
  by_cases h2 : k = 2
  · subst h2; exact TT_in (i := 147) (by decide +kernel) (by decide +kernel)
  by_cases h3 : k = 3
  · subst h3; exact TT_in (i := 149) (by decide +kernel) (by decide +kernel)
  by_cases h4 : k = 4
  · subst h4; exact TT_in (i := 151) (by decide +kernel) (by decide +kernel)
  by_cases h5 : k = 5
  · subst h5; exact TT_in (i := 153) (by decide +kernel) (by decide +kernel)
  by_cases h6 : k = 6
  · subst h6; exact TT_in (i := 155) (by decide +kernel) (by decide +kernel)
  by_cases h7 : k = 7
  · subst h7; exact TT_in (i := 157) (by decide +kernel) (by decide +kernel)
  by_cases h8 : k = 8
  · subst h8; exact TT_in (i := 159) (by decide +kernel) (by decide +kernel)
  by_cases h9 : k = 9
  · subst h9; exact TT_in (i := 161) (by decide +kernel) (by decide +kernel)
  omega
theorem uw_8 : ∀ w ∈ u_ws "KiteLogger$WindBuffer" T8 3, w ∈ TT := by
  intro w hw
  obtain ⟨k, hk, rfl⟩ := List.mem_map.mp hw
  have hk := List.mem_range.mp hk
  by_cases h0 : k = 0
  · subst h0; exact TT_in (i := 313) (by decide +kernel) (by decide +kernel)
  by_cases h1 : k = 1
  · subst h1; exact TT_in (i := 315) (by decide +kernel) (by decide +kernel)
  by_cases h2 : k = 2
  · subst h2; exact TT_in (i := 317) (by decide +kernel) (by decide +kernel)
  omega
theorem uw_9 : ∀ w ∈ u_ws "KiteLogger" T9 9, w ∈ TT := by
  intro w hw
  obtain ⟨k, hk, rfl⟩ := List.mem_map.mp hw
  have hk := List.mem_range.mp hk
  by_cases h0 : k = 0
  · subst h0; exact TT_in (i := 457) (by decide +kernel) (by decide +kernel)
  by_cases h1 : k = 1
  · subst h1; exact TT_in (i := 459) (by decide +kernel) (by decide +kernel)
  by_cases h2 : k = 2
  · subst h2; exact TT_in (i := 461) (by decide +kernel) (by decide +kernel)
  by_cases h3 : k = 3
  · subst h3; exact TT_in (i := 463) (by decide +kernel) (by decide +kernel)
  by_cases h4 : k = 4
  · subst h4; exact TT_in (i := 465) (by decide +kernel) (by decide +kernel)
  by_cases h5 : k = 5
  · subst h5; exact TT_in (i := 467) (by decide +kernel) (by decide +kernel)
  by_cases h6 : k = 6
  · subst h6; exact TT_in (i := 469) (by decide +kernel) (by decide +kernel)
  by_cases h7 : k = 7
  · subst h7; exact TT_in (i := 471) (by decide +kernel) (by decide +kernel)
  by_cases h8 : k = 8
  · subst h8; exact TT_in (i := 473) (by decide +kernel) (by decide +kernel)
  omega
theorem uw_10 : ∀ w ∈ u_ws "KiteLoggerModel" T10 28, w ∈ TT := by
  intro w hw
  obtain ⟨k, hk, rfl⟩ := List.mem_map.mp hw
  have hk := List.mem_range.mp hk
  by_cases h0 : k = 0
  · subst h0; exact TT_in (i := 1391) (by decide +kernel) (by decide +kernel)
  by_cases h1 : k = 1
  · subst h1; exact TT_in (i := 1393) (by decide +kernel) (by decide +kernel)
  by_cases h2 : k = 2
  · subst h2; exact TT_in (i := 1395) (by decide +kernel) (by decide +kernel)
  by_cases h3 : k = 3
  · subst h3; exact TT_in (i := 1397) (by decide +kernel) (by decide +kernel)
  by_cases h4 : k = 4
  · subst h4; exact TT_in (i := 1399) (by decide +kernel) (by decide +kernel)
  by_cases h5 : k = 5
  · subst h5; exact TT_in (i := 1401) (by decide +kernel) (by decide +kernel)
  by_cases h6 : k = 6
  · subst h6; exact TT_in (i := 1403) (by decide +kernel) (by decide +kernel)
  by_cases h7 : k = 7
  · subst h7; exact TT_in (i := 1405) (by decide +kernel) (by decide +kernel)
  by_cases h8 : k = 8
  · subst h8; exact TT_in (i := 1407) (by decide +kernel) (by decide +kernel)
  by_cases h9 : k = 9
  · subst h9; exact TT_in (i := 1409) (by decide +kernel) (by decide +kernel)
  by_cases h10 : k = 10
  · subst h10; exact TT_in (i := 1411) (by decide +kernel) (by decide +kernel)
  by_cases h11 : k = 11
  · subst h11; exact TT_in (i := 1413) (by decide +kernel) (by decide +kernel)
  by_cases h12 : k = 12
  · subst h12; exact TT_in (i := 1415) (by decide +kernel) (by decide +kernel)
  by_cases h13 : k = 13
  · subst h13; exact TT_in (i := 1417) (by decide +kernel) (by decide +kernel)
  by_cases h14 : k = 14
  · subst h14; exact TT_in (i := 1419) (by decide +kernel) (by decide +kernel)
  by_cases h15 : k = 15
  · subst h15; exact TT_in (i := 1421) (by decide +kernel) (by decide +kernel)
  by_cases h16 : k = 16
  · subst h16; exact TT_in (i := 1423) (by decide +kernel) (by decide +kernel)
  by_cases h17 : k = 17
  · subst h17; exact TT_in (i := 1425) (by decide +kernel) (by decide +kernel)
  by_cases h18 : k = 18
  · subst h18; exact TT_in (i := 1427) (by decide +kernel) (by decide +kernel)
  by_cases h19 : k = 19
  · subst h19; exact TT_in (i := 1429) (by decide +kernel) (by decide +kernel)
  by_cases h20 : k = 20
  · subst h20; exact TT_in (i := 1431) (by decide +kernel) (by decide +kernel)
  by_cases h21 : k = 21
  · subst h21; exact TT_in (i := 1433) (by decide +kernel) (by decide +kernel)
  by_cases h22 : k = 22
  · subst h22; exact TT_in (i := 1435) (by decide +kernel) (by decide +kernel)
  by_cases h23 : k = 23
  · subst h23; exact TT_in (i := 1437) (by decide +kernel) (by decide +kernel)
  by_cases h24 : k = 24
  · subst h24; exact TT_in (i := 1439) (by decide +kernel) (by decide +kernel)
  by_cases h25 : k = 25
  · subst h25; exact TT_in (i := 1441) (by decide +kernel) (by decide +kernel)
  by_cases h26 : k = 26
  · subst h26; exact TT_in (i := 1443) (by decide +kernel) (by decide +kernel)
  by_cases h27 : k = 27
  · subst h27; exact TT_in (i := 1445) (by decide +kernel) (by decide +kernel)
  omega
theorem fa_G_12 : FA "KiteLogger" 12 9 0 ((ftag 9).getD 0 0) := ⟨"KiteLogger", "KiteLogger", T9, 9, TT_in (i := 448) (by decide +kernel) (by decide +kernel), rfl, rfl, by decide, uw_9, by decide, by decide +kernel, rfl⟩
theorem fa_G_19 : FA "KiteLogger" 19 9 1 ((ftag 9).getD 1 0) := ⟨"KiteLogger", "KiteLogger", T9, 9, TT_in (i := 449) (by decide +kernel) (by decide +kernel), rfl, rfl, by decide, uw_9, by decide, by decide +kernel, rfl⟩
theorem fa_G_26 : FA "KiteLogger" 26 9 2 ((ftag 9).getD 2 0) := ⟨"KiteLogger", "KiteLogger", T9, 9, TT_in (i := 450) (by decide +kernel) (by decide +kernel), rfl, rfl, by decide, uw_9, by decide, by decide +kernel, rfl⟩
theorem fa_G_33 : FA "KiteLogger" 33 9 3 ((ftag 9).getD 3 0) := ⟨"KiteLogger", "KiteLogger", T9, 9, TT_in (i := 451) (by decide +kernel) (by decide +kernel), rfl, rfl, by decide, uw_9, by decide, by decide +kernel, rfl⟩
theorem fa_G_40 : FA "KiteLogger" 40 9 4 ((ftag 9).getD 4 0) := ⟨"KiteLogger", "KiteLogger", T9, 9, TT_in (i := 452) (by decide +kernel) (by decide +kernel), rfl, rfl, by decide, uw_9, by decide, by decide +kernel, rfl⟩
theorem fa_G_47 : FA "KiteLogger" 47 9 5 ((ftag 9).getD 5 0) := ⟨"KiteLogger", "KiteLogger", T9, 9, TT_in (i := 453) (by decide +kernel) (by decide +kernel), rfl, rfl, by decide, uw_9, by decide, by decide +kernel, rfl⟩
theorem fa_G_51 : FA "KiteLogger" 51 9 6 ((ftag 9).getD 6 0) := ⟨"KiteLogger", "KiteLogger", T9, 9, TT_in (i := 454) (by decide +kernel) (by decide +kernel), rfl, rfl, by decide, uw_9, by decide, by decide +kernel, rfl⟩
theorem fa_G_54 : FA "KiteLogger" 54 9 7 ((ftag 9).getD 7 0) := ⟨"KiteLogger", "KiteLogger", T9, 9, TT_in (i := 455) (by decide +kernel) (by decide +kernel), rfl, rfl, by decide, uw_9, by decide, by decide +kernel, rfl⟩
theorem fa_G_61 : FA "KiteLogger" 61 9 8 ((ftag 9).getD 8 0) := ⟨"KiteLogger", "KiteLogger", T9, 9, TT_in (i := 456) (by decide +kernel) (by decide +kernel), rfl, rfl, by decide, uw_9, by decide, by decide +kernel, rfl⟩
theorem fa_G_77 : FN "KiteLogger" 77 7 1 ((ftag 7).getD 1 0) := ⟨"KiteLogger$TextReader", "KiteLogger", "KiteLogger$TextReader", T7, 10, NW_in (i := 127) (by decide +kernel) (by decide +kernel), rfl, rfl, by decide, uw_7, by decide, by decide +kernel, rfl⟩
theorem fa_G_91 : FN "KiteLogger" 91 5 2 ((ftag 5).getD 2 0) := ⟨"KiteLogger$Station", "KiteLogger", "KiteLogger$Station", T5, 9, NW_in (i := 359) (by decide +kernel) (by decide +kernel), rfl, rfl, by decide, uw_5, by decide, by decide +kernel, rfl⟩
theorem fa_G_94 : FN "KiteLogger" 94 7 8 ((ftag 7).getD 8 0) := ⟨"KiteLogger$TextReader", "KiteLogger", "KiteLogger$TextReader", T7, 10, NW_in (i := 140) (by decide +kernel) (by decide +kernel), rfl, rfl, by decide, uw_7, by decide, by decide +kernel, rfl⟩
theorem fa_G_97 : FN "KiteLogger" 97 7 9 ((ftag 7).getD 9 0) := ⟨"KiteLogger$TextReader", "KiteLogger", "KiteLogger$TextReader", T7, 10, NW_in (i := 142) (by decide +kernel) (by decide +kernel), rfl, rfl, by decide, uw_7, by decide, by decide +kernel, rfl⟩
theorem fa_G_100 : FN "KiteLogger" 100 5 7 ((ftag 5).getD 7 0) := ⟨"KiteLogger$Station", "KiteLogger", "KiteLogger$Station", T5, 9, NW_in (i := 369) (by decide +kernel) (by decide +kernel), rfl, rfl, by decide, uw_5, by decide, by decide +kernel, rfl⟩
theorem fa_G_111 : FN "KiteLogger" 111 5 3 ((ftag 5).getD 3 0) := ⟨"KiteLogger$Station", "KiteLogger", "KiteLogger$Station", T5, 9, NW_in (i := 361) (by decide +kernel) (by decide +kernel), rfl, rfl, by decide, uw_5, by decide, by decide +kernel, rfl⟩
theorem fa_G_115 : FN "KiteLogger" 115 8 2 ((ftag 8).getD 2 0) := ⟨"KiteLogger$WindBuffer", "KiteLogger", "KiteLogger$WindBuffer", T8, 3, NW_in (i := 312) (by decide +kernel) (by decide +kernel), rfl, rfl, by decide, uw_8, by decide, by decide +kernel, rfl⟩
theorem fa_G_137 : FN "KiteLogger" 137 5 0 ((ftag 5).getD 0 0) := ⟨"KiteLogger$Station", "KiteLogger", "KiteLogger$Station", T5, 9, NW_in (i := 356) (by decide +kernel) (by decide +kernel), rfl, rfl, by decide, uw_5, by decide, by decide +kernel, rfl⟩
theorem fa_G_140 : FN "KiteLogger" 140 1 0 ((ftag 1).getD 0 0) := ⟨"KiteLogger$Kite", "KiteLogger", "KiteLogger$Kite", T1, 13, NW_in (i := 249) (by decide +kernel) (by decide +kernel), rfl, rfl, by decide, uw_1, by decide, by decide +kernel, rfl⟩
theorem fa_G_143 : FN "KiteLogger" 143 1 1 ((ftag 1).getD 1 0) := ⟨"KiteLogger$Kite", "KiteLogger", "KiteLogger$Kite", T1, 13, NW_in (i := 252) (by decide +kernel) (by decide +kernel), rfl, rfl, by decide, uw_1, by decide, by decide +kernel, rfl⟩
theorem fa_G_146 : FN "KiteLogger" 146 1 2 ((ftag 1).getD 2 0) := ⟨"KiteLogger$Kite", "KiteLogger", "KiteLogger$Kite", T1, 13, NW_in (i := 255) (by decide +kernel) (by decide +kernel), rfl, rfl, by decide, uw_1, by decide, by decide +kernel, rfl⟩
theorem fa_G_149 : FN "KiteLogger" 149 1 3 ((ftag 1).getD 3 0) := ⟨"KiteLogger$Kite", "KiteLogger", "KiteLogger$Kite", T1, 13, NW_in (i := 257) (by decide +kernel) (by decide +kernel), rfl, rfl, by decide, uw_1, by decide, by decide +kernel, rfl⟩
theorem fa_G_152 : FN "KiteLogger" 152 1 4 ((ftag 1).getD 4 0) := ⟨"KiteLogger$Kite", "KiteLogger", "KiteLogger$Kite", T1, 13, NW_in (i := 259) (by decide +kernel) (by decide +kernel), rfl, rfl, by decide, uw_1, by decide, by decide +kernel, rfl⟩
theorem fa_G_155 : FN "KiteLogger" 155 1 5 ((ftag 1).getD 5 0) := ⟨"KiteLogger$Kite", "KiteLogger", "KiteLogger$Kite", T1, 13, NW_in (i := 261) (by decide +kernel) (by decide +kernel), rfl, rfl, by decide, uw_1, by decide, by decide +kernel, rfl⟩
theorem fa_G_158 : FN "KiteLogger" 158 1 6 ((ftag 1).getD 6 0) := ⟨"KiteLogger$Kite", "KiteLogger", "KiteLogger$Kite", T1, 13, NW_in (i := 263) (by decide +kernel) (by decide +kernel), rfl, rfl, by decide, uw_1, by decide, by decide +kernel, rfl⟩
theorem fa_G_164 : FN "KiteLogger" 164 1 9 ((ftag 1).getD 9 0) := ⟨"KiteLogger$Kite", "KiteLogger", "KiteLogger$Kite", T1, 13, NW_in (i := 269) (by decide +kernel) (by decide +kernel), rfl, rfl, by decide, uw_1, by decide, by decide +kernel, rfl⟩
theorem fa_G_167 : FN "KiteLogger" 167 1 8 ((ftag 1).getD 8 0) := ⟨"KiteLogger$Kite", "KiteLogger", "KiteLogger$Kite", T1, 13, NW_in (i := 266) (by decide +kernel) (by decide +kernel), rfl, rfl, by decide, uw_1, by decide, by decide +kernel, rfl⟩
theorem fa_G_170 : FN "KiteLogger" 170 1 10 ((ftag 1).getD 10 0) := ⟨"KiteLogger$Kite", "KiteLogger", "KiteLogger$Kite", T1, 13, NW_in (i := 271) (by decide +kernel) (by decide +kernel), rfl, rfl, by decide, uw_1, by decide, by decide +kernel, rfl⟩
theorem fa_G_173 : FN "KiteLogger" 173 1 11 ((ftag 1).getD 11 0) := ⟨"KiteLogger$Kite", "KiteLogger", "KiteLogger$Kite", T1, 13, NW_in (i := 273) (by decide +kernel) (by decide +kernel), rfl, rfl, by decide, uw_1, by decide, by decide +kernel, rfl⟩
theorem fa_G_176 : FN "KiteLogger" 176 1 12 ((ftag 1).getD 12 0) := ⟨"KiteLogger$Kite", "KiteLogger", "KiteLogger$Kite", T1, 13, NW_in (i := 275) (by decide +kernel) (by decide +kernel), rfl, rfl, by decide, uw_1, by decide, by decide +kernel, rfl⟩
theorem fa_G_179 : FN "KiteLogger" 179 5 6 ((ftag 5).getD 6 0) := ⟨"KiteLogger$Station", "KiteLogger", "KiteLogger$Station", T5, 9, NW_in (i := 367) (by decide +kernel) (by decide +kernel), rfl, rfl, by decide, uw_5, by decide, by decide +kernel, rfl⟩
theorem fa_G_182 : FN "KiteLogger" 182 5 4 ((ftag 5).getD 4 0) := ⟨"KiteLogger$Station", "KiteLogger", "KiteLogger$Station", T5, 9, NW_in (i := 363) (by decide +kernel) (by decide +kernel), rfl, rfl, by decide, uw_5, by decide, by decide +kernel, rfl⟩
theorem fa_G_186 : FN "KiteLogger" 186 3 5 ((ftag 3).getD 5 0) := ⟨"KiteLogger$Samples", "KiteLogger", "KiteLogger$Samples", T3, 7, NW_in (i := 337) (by decide +kernel) (by decide +kernel), rfl, rfl, by decide, uw_3, by decide, by decide +kernel, rfl⟩
theorem fa_G_202 : FN "KiteLogger" 202 3 6 ((ftag 3).getD 6 0) := ⟨"KiteLogger$Samples", "KiteLogger", "KiteLogger$Samples", T3, 7, NW_in (i := 339) (by decide +kernel) (by decide +kernel), rfl, rfl, by decide, uw_3, by decide, by decide +kernel, rfl⟩
theorem fa_G_205 : FN "KiteLogger" 205 5 5 ((ftag 5).getD 5 0) := ⟨"KiteLogger$Station", "KiteLogger", "KiteLogger$Station", T5, 9, NW_in (i := 365) (by decide +kernel) (by decide +kernel), rfl, rfl, by decide, uw_5, by decide, by decide +kernel, rfl⟩
theorem fa_G_221 : FN "KiteLogger" 221 5 8 ((ftag 5).getD 8 0) := ⟨"KiteLogger$Station", "KiteLogger", "KiteLogger$Station", T5, 9, NW_in (i := 371) (by decide +kernel) (by decide +kernel), rfl, rfl, by decide, uw_5, by decide, by decide +kernel, rfl⟩
theorem fa_G_257 : FN "KiteLogger" 257 4 4 ((ftag 4).getD 4 0) := ⟨"KiteLogger$Script", "KiteLogger", "KiteLogger$Script", T4, 6, NW_in (i := 219) (by decide +kernel) (by decide +kernel), rfl, rfl, by decide, uw_4, by decide, by decide +kernel, rfl⟩
theorem fa_G_262 : FN "KiteLogger" 262 4 5 ((ftag 4).getD 5 0) := ⟨"KiteLogger$Script", "KiteLogger", "KiteLogger$Script", T4, 6, NW_in (i := 221) (by decide +kernel) (by decide +kernel), rfl, rfl, by decide, uw_4, by decide, by decide +kernel, rfl⟩
theorem fa_G_269 : FN "KiteLogger" 269 2 1 ((ftag 2).getD 1 0) := ⟨"KiteLogger$Output", "KiteLogger", "KiteLogger$Output", T2, 2, NW_in (i := 421) (by decide +kernel) (by decide +kernel), rfl, rfl, by decide, uw_2, by decide, by decide +kernel, rfl⟩
theorem fa_G_280 : FN "KiteLogger" 280 0 2 ((ftag 0).getD 2 0) := ⟨"KiteLogger$History", "KiteLogger", "KiteLogger$History", T0, 3, NW_in (i := 405) (by decide +kernel) (by decide +kernel), rfl, rfl, by decide, uw_0, by decide, by decide +kernel, rfl⟩
theorem fa_H_11 : FA "KiteLogger$History" 11 0 0 ((ftag 0).getD 0 0) := ⟨"KiteLogger$History", "KiteLogger$History", T0, 3, TT_in (i := 402) (by decide +kernel) (by decide +kernel), rfl, rfl, by decide, uw_0, by decide, by decide +kernel, rfl⟩
theorem fa_H_17 : FA "KiteLogger$History" 17 0 1 ((ftag 0).getD 1 0) := ⟨"KiteLogger$History", "KiteLogger$History", T0, 3, TT_in (i := 403) (by decide +kernel) (by decide +kernel), rfl, rfl, by decide, uw_0, by decide, by decide +kernel, rfl⟩
theorem fa_H_21 : FA "KiteLogger$History" 21 0 2 ((ftag 0).getD 2 0) := ⟨"KiteLogger$History", "KiteLogger$History", T0, 3, TT_in (i := 404) (by decide +kernel) (by decide +kernel), rfl, rfl, by decide, uw_0, by decide, by decide +kernel, rfl⟩
theorem fa_K_9 : FA "KiteLogger$Kite" 9 1 0 ((ftag 1).getD 0 0) := ⟨"KiteLogger$Kite", "KiteLogger$Kite", T1, 13, TT_in (i := 247) (by decide +kernel) (by decide +kernel), rfl, rfl, by decide, uw_1, by decide, by decide +kernel, rfl⟩
theorem fa_K_15 : FA "KiteLogger$Kite" 15 1 1 ((ftag 1).getD 1 0) := ⟨"KiteLogger$Kite", "KiteLogger$Kite", T1, 13, TT_in (i := 250) (by decide +kernel) (by decide +kernel), rfl, rfl, by decide, uw_1, by decide, by decide +kernel, rfl⟩
theorem fa_K_18 : FA "KiteLogger$Kite" 18 1 2 ((ftag 1).getD 2 0) := ⟨"KiteLogger$Kite", "KiteLogger$Kite", T1, 13, TT_in (i := 253) (by decide +kernel) (by decide +kernel), rfl, rfl, by decide, uw_1, by decide, by decide +kernel, rfl⟩
theorem fa_K_21 : FA "KiteLogger$Kite" 21 1 3 ((ftag 1).getD 3 0) := ⟨"KiteLogger$Kite", "KiteLogger$Kite", T1, 13, TT_in (i := 256) (by decide +kernel) (by decide +kernel), rfl, rfl, by decide, uw_1, by decide, by decide +kernel, rfl⟩
theorem fa_K_24 : FA "KiteLogger$Kite" 24 1 4 ((ftag 1).getD 4 0) := ⟨"KiteLogger$Kite", "KiteLogger$Kite", T1, 13, TT_in (i := 258) (by decide +kernel) (by decide +kernel), rfl, rfl, by decide, uw_1, by decide, by decide +kernel, rfl⟩
theorem fa_K_27 : FA "KiteLogger$Kite" 27 1 5 ((ftag 1).getD 5 0) := ⟨"KiteLogger$Kite", "KiteLogger$Kite", T1, 13, TT_in (i := 260) (by decide +kernel) (by decide +kernel), rfl, rfl, by decide, uw_1, by decide, by decide +kernel, rfl⟩
theorem fa_K_30 : FA "KiteLogger$Kite" 30 1 6 ((ftag 1).getD 6 0) := ⟨"KiteLogger$Kite", "KiteLogger$Kite", T1, 13, TT_in (i := 262) (by decide +kernel) (by decide +kernel), rfl, rfl, by decide, uw_1, by decide, by decide +kernel, rfl⟩
theorem fa_K_33 : FA "KiteLogger$Kite" 33 1 7 ((ftag 1).getD 7 0) := ⟨"KiteLogger$Kite", "KiteLogger$Kite", T1, 13, TT_in (i := 264) (by decide +kernel) (by decide +kernel), rfl, rfl, by decide, uw_1, by decide, by decide +kernel, rfl⟩
theorem fa_K_36 : FA "KiteLogger$Kite" 36 1 8 ((ftag 1).getD 8 0) := ⟨"KiteLogger$Kite", "KiteLogger$Kite", T1, 13, TT_in (i := 265) (by decide +kernel) (by decide +kernel), rfl, rfl, by decide, uw_1, by decide, by decide +kernel, rfl⟩
theorem fa_K_39 : FA "KiteLogger$Kite" 39 1 9 ((ftag 1).getD 9 0) := ⟨"KiteLogger$Kite", "KiteLogger$Kite", T1, 13, TT_in (i := 267) (by decide +kernel) (by decide +kernel), rfl, rfl, by decide, uw_1, by decide, by decide +kernel, rfl⟩
theorem fa_K_42 : FA "KiteLogger$Kite" 42 1 10 ((ftag 1).getD 10 0) := ⟨"KiteLogger$Kite", "KiteLogger$Kite", T1, 13, TT_in (i := 270) (by decide +kernel) (by decide +kernel), rfl, rfl, by decide, uw_1, by decide, by decide +kernel, rfl⟩
theorem fa_K_45 : FA "KiteLogger$Kite" 45 1 11 ((ftag 1).getD 11 0) := ⟨"KiteLogger$Kite", "KiteLogger$Kite", T1, 13, TT_in (i := 272) (by decide +kernel) (by decide +kernel), rfl, rfl, by decide, uw_1, by decide, by decide +kernel, rfl⟩
theorem fa_K_48 : FA "KiteLogger$Kite" 48 1 12 ((ftag 1).getD 12 0) := ⟨"KiteLogger$Kite", "KiteLogger$Kite", T1, 13, TT_in (i := 274) (by decide +kernel) (by decide +kernel), rfl, rfl, by decide, uw_1, by decide, by decide +kernel, rfl⟩
theorem fa_O_9 : FA "KiteLogger$Output" 9 2 0 ((ftag 2).getD 0 0) := ⟨"KiteLogger$Output", "KiteLogger$Output", T2, 2, TT_in (i := 419) (by decide +kernel) (by decide +kernel), rfl, rfl, by decide, uw_2, by decide, by decide +kernel, rfl⟩
theorem fa_O_15 : FA "KiteLogger$Output" 15 2 1 ((ftag 2).getD 1 0) := ⟨"KiteLogger$Output", "KiteLogger$Output", T2, 2, TT_in (i := 420) (by decide +kernel) (by decide +kernel), rfl, rfl, by decide, uw_2, by decide, by decide +kernel, rfl⟩
theorem fa_O_19 : FN "KiteLogger$Output" 19 3 5 ((ftag 3).getD 5 0) := ⟨"KiteLogger$Samples", "KiteLogger", "KiteLogger$Samples", T3, 7, NW_in (i := 335) (by decide +kernel) (by decide +kernel), rfl, rfl, by decide, uw_3, by decide, by decide +kernel, rfl⟩
theorem fa_S_7 : FA "KiteLogger$Samples" 7 3 4 ((ftag 3).getD 4 0) := ⟨"KiteLogger$Samples", "KiteLogger$Samples", T3, 7, TT_in (i := 333) (by decide +kernel) (by decide +kernel), rfl, rfl, by decide, uw_3, by decide, by decide +kernel, rfl⟩
theorem fa_S_13 : FA "KiteLogger$Samples" 13 3 5 ((ftag 3).getD 5 0) := ⟨"KiteLogger$Samples", "KiteLogger$Samples", T3, 7, TT_in (i := 334) (by decide +kernel) (by decide +kernel), rfl, rfl, by decide, uw_3, by decide, by decide +kernel, rfl⟩
theorem fa_S_16 : FA "KiteLogger$Samples" 16 3 6 ((ftag 3).getD 6 0) := ⟨"KiteLogger$Samples", "KiteLogger$Samples", T3, 7, TT_in (i := 338) (by decide +kernel) (by decide +kernel), rfl, rfl, by decide, uw_3, by decide, by decide +kernel, rfl⟩
theorem fa_S_25 : FA "KiteLogger$Samples" 25 3 0 ((ftag 3).getD 0 0) := ⟨"KiteLogger$Samples", "KiteLogger$Samples", T3, 7, TT_in (i := 329) (by decide +kernel) (by decide +kernel), rfl, rfl, by decide, uw_3, by decide, by decide +kernel, rfl⟩
theorem fa_S_28 : FA "KiteLogger$Samples" 28 3 1 ((ftag 3).getD 1 0) := ⟨"KiteLogger$Samples", "KiteLogger$Samples", T3, 7, TT_in (i := 330) (by decide +kernel) (by decide +kernel), rfl, rfl, by decide, uw_3, by decide, by decide +kernel, rfl⟩
theorem fa_S_32 : FA "KiteLogger$Samples" 32 3 2 ((ftag 3).getD 2 0) := ⟨"KiteLogger$Samples", "KiteLogger$Samples", T3, 7, TT_in (i := 331) (by decide +kernel) (by decide +kernel), rfl, rfl, by decide, uw_3, by decide, by decide +kernel, rfl⟩
theorem fa_S_35 : FA "KiteLogger$Samples" 35 3 3 ((ftag 3).getD 3 0) := ⟨"KiteLogger$Samples", "KiteLogger$Samples", T3, 7, TT_in (i := 332) (by decide +kernel) (by decide +kernel), rfl, rfl, by decide, uw_3, by decide, by decide +kernel, rfl⟩
theorem fa_C_9 : FA "KiteLogger$Script" 9 4 0 ((ftag 4).getD 0 0) := ⟨"KiteLogger$Script", "KiteLogger$Script", T4, 6, TT_in (i := 214) (by decide +kernel) (by decide +kernel), rfl, rfl, by decide, uw_4, by decide, by decide +kernel, rfl⟩
theorem fa_C_15 : FA "KiteLogger$Script" 15 4 1 ((ftag 4).getD 1 0) := ⟨"KiteLogger$Script", "KiteLogger$Script", T4, 6, TT_in (i := 215) (by decide +kernel) (by decide +kernel), rfl, rfl, by decide, uw_4, by decide, by decide +kernel, rfl⟩
theorem fa_C_18 : FA "KiteLogger$Script" 18 4 2 ((ftag 4).getD 2 0) := ⟨"KiteLogger$Script", "KiteLogger$Script", T4, 6, TT_in (i := 216) (by decide +kernel) (by decide +kernel), rfl, rfl, by decide, uw_4, by decide, by decide +kernel, rfl⟩
theorem fa_C_21 : FA "KiteLogger$Script" 21 4 3 ((ftag 4).getD 3 0) := ⟨"KiteLogger$Script", "KiteLogger$Script", T4, 6, TT_in (i := 217) (by decide +kernel) (by decide +kernel), rfl, rfl, by decide, uw_4, by decide, by decide +kernel, rfl⟩
theorem fa_C_24 : FA "KiteLogger$Script" 24 4 4 ((ftag 4).getD 4 0) := ⟨"KiteLogger$Script", "KiteLogger$Script", T4, 6, TT_in (i := 218) (by decide +kernel) (by decide +kernel), rfl, rfl, by decide, uw_4, by decide, by decide +kernel, rfl⟩
theorem fa_C_28 : FA "KiteLogger$Script" 28 4 5 ((ftag 4).getD 5 0) := ⟨"KiteLogger$Script", "KiteLogger$Script", T4, 6, TT_in (i := 220) (by decide +kernel) (by decide +kernel), rfl, rfl, by decide, uw_4, by decide, by decide +kernel, rfl⟩
theorem fa_C_45 : FN "KiteLogger$Script" 45 7 3 ((ftag 7).getD 3 0) := ⟨"KiteLogger$TextReader", "KiteLogger", "KiteLogger$TextReader", T7, 10, NW_in (i := 130) (by decide +kernel) (by decide +kernel), rfl, rfl, by decide, uw_7, by decide, by decide +kernel, rfl⟩
theorem fa_C_76 : FN "KiteLogger$Script" 76 7 7 ((ftag 7).getD 7 0) := ⟨"KiteLogger$TextReader", "KiteLogger", "KiteLogger$TextReader", T7, 10, NW_in (i := 138) (by decide +kernel) (by decide +kernel), rfl, rfl, by decide, uw_7, by decide, by decide +kernel, rfl⟩
theorem fa_T_12 : FA "KiteLogger$Station" 12 5 0 ((ftag 5).getD 0 0) := ⟨"KiteLogger$Station", "KiteLogger$Station", T5, 9, TT_in (i := 355) (by decide +kernel) (by decide +kernel), rfl, rfl, by decide, uw_5, by decide, by decide +kernel, rfl⟩
theorem fa_T_18 : FA "KiteLogger$Station" 18 5 1 ((ftag 5).getD 1 0) := ⟨"KiteLogger$Station", "KiteLogger$Station", T5, 9, TT_in (i := 357) (by decide +kernel) (by decide +kernel), rfl, rfl, by decide, uw_5, by decide, by decide +kernel, rfl⟩
theorem fa_T_22 : FA "KiteLogger$Station" 22 5 2 ((ftag 5).getD 2 0) := ⟨"KiteLogger$Station", "KiteLogger$Station", T5, 9, TT_in (i := 358) (by decide +kernel) (by decide +kernel), rfl, rfl, by decide, uw_5, by decide, by decide +kernel, rfl⟩
theorem fa_T_29 : FA "KiteLogger$Station" 29 5 3 ((ftag 5).getD 3 0) := ⟨"KiteLogger$Station", "KiteLogger$Station", T5, 9, TT_in (i := 360) (by decide +kernel) (by decide +kernel), rfl, rfl, by decide, uw_5, by decide, by decide +kernel, rfl⟩
theorem fa_T_38 : FA "KiteLogger$Station" 38 5 4 ((ftag 5).getD 4 0) := ⟨"KiteLogger$Station", "KiteLogger$Station", T5, 9, TT_in (i := 362) (by decide +kernel) (by decide +kernel), rfl, rfl, by decide, uw_5, by decide, by decide +kernel, rfl⟩
theorem fa_T_42 : FA "KiteLogger$Station" 42 5 5 ((ftag 5).getD 5 0) := ⟨"KiteLogger$Station", "KiteLogger$Station", T5, 9, TT_in (i := 364) (by decide +kernel) (by decide +kernel), rfl, rfl, by decide, uw_5, by decide, by decide +kernel, rfl⟩
theorem fa_T_45 : FA "KiteLogger$Station" 45 5 6 ((ftag 5).getD 6 0) := ⟨"KiteLogger$Station", "KiteLogger$Station", T5, 9, TT_in (i := 366) (by decide +kernel) (by decide +kernel), rfl, rfl, by decide, uw_5, by decide, by decide +kernel, rfl⟩
theorem fa_T_48 : FA "KiteLogger$Station" 48 5 7 ((ftag 5).getD 7 0) := ⟨"KiteLogger$Station", "KiteLogger$Station", T5, 9, TT_in (i := 368) (by decide +kernel) (by decide +kernel), rfl, rfl, by decide, uw_5, by decide, by decide +kernel, rfl⟩
theorem fa_T_51 : FA "KiteLogger$Station" 51 5 8 ((ftag 5).getD 8 0) := ⟨"KiteLogger$Station", "KiteLogger$Station", T5, 9, TT_in (i := 370) (by decide +kernel) (by decide +kernel), rfl, rfl, by decide, uw_5, by decide, by decide +kernel, rfl⟩
theorem fa_T_54 : FN "KiteLogger$Station" 54 6 0 ((ftag 6).getD 0 0) := ⟨"KiteLogger$StationPlan", "KiteLogger", "KiteLogger$StationPlan", T6, 6, NW_in (i := 183) (by decide +kernel) (by decide +kernel), rfl, rfl, by decide, uw_6, by decide, by decide +kernel, rfl⟩
theorem fa_T_59 : FN "KiteLogger$Station" 59 6 1 ((ftag 6).getD 1 0) := ⟨"KiteLogger$StationPlan", "KiteLogger", "KiteLogger$StationPlan", T6, 6, NW_in (i := 185) (by decide +kernel) (by decide +kernel), rfl, rfl, by decide, uw_6, by decide, by decide +kernel, rfl⟩
theorem fa_T_62 : FN "KiteLogger$Station" 62 6 2 ((ftag 6).getD 2 0) := ⟨"KiteLogger$StationPlan", "KiteLogger", "KiteLogger$StationPlan", T6, 6, NW_in (i := 187) (by decide +kernel) (by decide +kernel), rfl, rfl, by decide, uw_6, by decide, by decide +kernel, rfl⟩
theorem fa_T_69 : FN "KiteLogger$Station" 69 6 4 ((ftag 6).getD 4 0) := ⟨"KiteLogger$StationPlan", "KiteLogger", "KiteLogger$StationPlan", T6, 6, NW_in (i := 191) (by decide +kernel) (by decide +kernel), rfl, rfl, by decide, uw_6, by decide, by decide +kernel, rfl⟩
theorem fa_T_74 : FN "KiteLogger$Station" 74 6 5 ((ftag 6).getD 5 0) := ⟨"KiteLogger$StationPlan", "KiteLogger", "KiteLogger$StationPlan", T6, 6, NW_in (i := 193) (by decide +kernel) (by decide +kernel), rfl, rfl, by decide, uw_6, by decide, by decide +kernel, rfl⟩
theorem fa_T_80 : FN "KiteLogger$Station" 80 6 3 ((ftag 6).getD 3 0) := ⟨"KiteLogger$StationPlan", "KiteLogger", "KiteLogger$StationPlan", T6, 6, NW_in (i := 189) (by decide +kernel) (by decide +kernel), rfl, rfl, by decide, uw_6, by decide, by decide +kernel, rfl⟩
theorem fa_T_101 : FN "KiteLogger$Station" 101 1 0 ((ftag 1).getD 0 0) := ⟨"KiteLogger$Kite", "KiteLogger", "KiteLogger$Kite", T1, 13, NW_in (i := 248) (by decide +kernel) (by decide +kernel), rfl, rfl, by decide, uw_1, by decide, by decide +kernel, rfl⟩
theorem fa_T_104 : FN "KiteLogger$Station" 104 1 2 ((ftag 1).getD 2 0) := ⟨"KiteLogger$Kite", "KiteLogger", "KiteLogger$Kite", T1, 13, NW_in (i := 254) (by decide +kernel) (by decide +kernel), rfl, rfl, by decide, uw_1, by decide, by decide +kernel, rfl⟩
theorem fa_T_126 : FN "KiteLogger$Station" 126 3 5 ((ftag 3).getD 5 0) := ⟨"KiteLogger$Samples", "KiteLogger", "KiteLogger$Samples", T3, 7, NW_in (i := 336) (by decide +kernel) (by decide +kernel), rfl, rfl, by decide, uw_3, by decide, by decide +kernel, rfl⟩
theorem fa_T_177 : FN "KiteLogger$Station" 177 1 9 ((ftag 1).getD 9 0) := ⟨"KiteLogger$Kite", "KiteLogger", "KiteLogger$Kite", T1, 13, NW_in (i := 268) (by decide +kernel) (by decide +kernel), rfl, rfl, by decide, uw_1, by decide, by decide +kernel, rfl⟩
theorem fa_T_180 : FN "KiteLogger$Station" 180 1 1 ((ftag 1).getD 1 0) := ⟨"KiteLogger$Kite", "KiteLogger", "KiteLogger$Kite", T1, 13, NW_in (i := 251) (by decide +kernel) (by decide +kernel), rfl, rfl, by decide, uw_1, by decide, by decide +kernel, rfl⟩
theorem fa_P_9 : FA "KiteLogger$StationPlan" 9 6 0 ((ftag 6).getD 0 0) := ⟨"KiteLogger$StationPlan", "KiteLogger$StationPlan", T6, 6, TT_in (i := 182) (by decide +kernel) (by decide +kernel), rfl, rfl, by decide, uw_6, by decide, by decide +kernel, rfl⟩
theorem fa_P_15 : FA "KiteLogger$StationPlan" 15 6 1 ((ftag 6).getD 1 0) := ⟨"KiteLogger$StationPlan", "KiteLogger$StationPlan", T6, 6, TT_in (i := 184) (by decide +kernel) (by decide +kernel), rfl, rfl, by decide, uw_6, by decide, by decide +kernel, rfl⟩
theorem fa_P_18 : FA "KiteLogger$StationPlan" 18 6 2 ((ftag 6).getD 2 0) := ⟨"KiteLogger$StationPlan", "KiteLogger$StationPlan", T6, 6, TT_in (i := 186) (by decide +kernel) (by decide +kernel), rfl, rfl, by decide, uw_6, by decide, by decide +kernel, rfl⟩
theorem fa_P_21 : FA "KiteLogger$StationPlan" 21 6 3 ((ftag 6).getD 3 0) := ⟨"KiteLogger$StationPlan", "KiteLogger$StationPlan", T6, 6, TT_in (i := 188) (by decide +kernel) (by decide +kernel), rfl, rfl, by decide, uw_6, by decide, by decide +kernel, rfl⟩
theorem fa_P_24 : FA "KiteLogger$StationPlan" 24 6 4 ((ftag 6).getD 4 0) := ⟨"KiteLogger$StationPlan", "KiteLogger$StationPlan", T6, 6, TT_in (i := 190) (by decide +kernel) (by decide +kernel), rfl, rfl, by decide, uw_6, by decide, by decide +kernel, rfl⟩
theorem fa_P_31 : FA "KiteLogger$StationPlan" 31 6 5 ((ftag 6).getD 5 0) := ⟨"KiteLogger$StationPlan", "KiteLogger$StationPlan", T6, 6, TT_in (i := 192) (by decide +kernel) (by decide +kernel), rfl, rfl, by decide, uw_6, by decide, by decide +kernel, rfl⟩
theorem fa_P_68 : FN "KiteLogger$StationPlan" 68 7 7 ((ftag 7).getD 7 0) := ⟨"KiteLogger$TextReader", "KiteLogger", "KiteLogger$TextReader", T7, 10, NW_in (i := 137) (by decide +kernel) (by decide +kernel), rfl, rfl, by decide, uw_7, by decide, by decide +kernel, rfl⟩
theorem fa_P_72 : FN "KiteLogger$StationPlan" 72 7 3 ((ftag 7).getD 3 0) := ⟨"KiteLogger$TextReader", "KiteLogger", "KiteLogger$TextReader", T7, 10, NW_in (i := 131) (by decide +kernel) (by decide +kernel), rfl, rfl, by decide, uw_7, by decide, by decide +kernel, rfl⟩
theorem fa_P_81 : FN "KiteLogger$StationPlan" 81 7 6 ((ftag 7).getD 6 0) := ⟨"KiteLogger$TextReader", "KiteLogger", "KiteLogger$TextReader", T7, 10, NW_in (i := 135) (by decide +kernel) (by decide +kernel), rfl, rfl, by decide, uw_7, by decide, by decide +kernel, rfl⟩
theorem fa_X_9 : FA "KiteLogger$TextReader" 9 7 0 ((ftag 7).getD 0 0) := ⟨"KiteLogger$TextReader", "KiteLogger$TextReader", T7, 10, TT_in (i := 125) (by decide +kernel) (by decide +kernel), rfl, rfl, by decide, uw_7, by decide, by decide +kernel, rfl⟩
theorem fa_X_15 : FA "KiteLogger$TextReader" 15 7 1 ((ftag 7).getD 1 0) := ⟨"KiteLogger$TextReader", "KiteLogger$TextReader", T7, 10, TT_in (i := 126) (by decide +kernel) (by decide +kernel), rfl, rfl, by decide, uw_7, by decide, by decide +kernel, rfl⟩
theorem fa_X_19 : FA "KiteLogger$TextReader" 19 7 2 ((ftag 7).getD 2 0) := ⟨"KiteLogger$TextReader", "KiteLogger$TextReader", T7, 10, TT_in (i := 128) (by decide +kernel) (by decide +kernel), rfl, rfl, by decide, uw_7, by decide, by decide +kernel, rfl⟩
theorem fa_X_22 : FA "KiteLogger$TextReader" 22 7 3 ((ftag 7).getD 3 0) := ⟨"KiteLogger$TextReader", "KiteLogger$TextReader", T7, 10, TT_in (i := 129) (by decide +kernel) (by decide +kernel), rfl, rfl, by decide, uw_7, by decide, by decide +kernel, rfl⟩
theorem fa_X_25 : FA "KiteLogger$TextReader" 25 7 4 ((ftag 7).getD 4 0) := ⟨"KiteLogger$TextReader", "KiteLogger$TextReader", T7, 10, TT_in (i := 132) (by decide +kernel) (by decide +kernel), rfl, rfl, by decide, uw_7, by decide, by decide +kernel, rfl⟩
theorem fa_X_28 : FA "KiteLogger$TextReader" 28 7 5 ((ftag 7).getD 5 0) := ⟨"KiteLogger$TextReader", "KiteLogger$TextReader", T7, 10, TT_in (i := 133) (by decide +kernel) (by decide +kernel), rfl, rfl, by decide, uw_7, by decide, by decide +kernel, rfl⟩
theorem fa_X_31 : FA "KiteLogger$TextReader" 31 7 6 ((ftag 7).getD 6 0) := ⟨"KiteLogger$TextReader", "KiteLogger$TextReader", T7, 10, TT_in (i := 134) (by decide +kernel) (by decide +kernel), rfl, rfl, by decide, uw_7, by decide, by decide +kernel, rfl⟩
theorem fa_X_34 : FA "KiteLogger$TextReader" 34 7 7 ((ftag 7).getD 7 0) := ⟨"KiteLogger$TextReader", "KiteLogger$TextReader", T7, 10, TT_in (i := 136) (by decide +kernel) (by decide +kernel), rfl, rfl, by decide, uw_7, by decide, by decide +kernel, rfl⟩
theorem fa_X_37 : FA "KiteLogger$TextReader" 37 7 8 ((ftag 7).getD 8 0) := ⟨"KiteLogger$TextReader", "KiteLogger$TextReader", T7, 10, TT_in (i := 139) (by decide +kernel) (by decide +kernel), rfl, rfl, by decide, uw_7, by decide, by decide +kernel, rfl⟩
theorem fa_X_40 : FA "KiteLogger$TextReader" 40 7 9 ((ftag 7).getD 9 0) := ⟨"KiteLogger$TextReader", "KiteLogger$TextReader", T7, 10, TT_in (i := 141) (by decide +kernel) (by decide +kernel), rfl, rfl, by decide, uw_7, by decide, by decide +kernel, rfl⟩
theorem fa_B_9 : FA "KiteLogger$WindBuffer" 9 8 0 ((ftag 8).getD 0 0) := ⟨"KiteLogger$WindBuffer", "KiteLogger$WindBuffer", T8, 3, TT_in (i := 309) (by decide +kernel) (by decide +kernel), rfl, rfl, by decide, uw_8, by decide, by decide +kernel, rfl⟩
theorem fa_B_15 : FA "KiteLogger$WindBuffer" 15 8 1 ((ftag 8).getD 1 0) := ⟨"KiteLogger$WindBuffer", "KiteLogger$WindBuffer", T8, 3, TT_in (i := 310) (by decide +kernel) (by decide +kernel), rfl, rfl, by decide, uw_8, by decide, by decide +kernel, rfl⟩
theorem fa_B_19 : FA "KiteLogger$WindBuffer" 19 8 2 ((ftag 8).getD 2 0) := ⟨"KiteLogger$WindBuffer", "KiteLogger$WindBuffer", T8, 3, TT_in (i := 311) (by decide +kernel) (by decide +kernel), rfl, rfl, by decide, uw_8, by decide, by decide +kernel, rfl⟩
theorem fa_M_9 : FA "KiteLoggerModel" 9 10 0 ((ftag 10).getD 0 0) := ⟨"KiteLoggerModel", "KiteLoggerModel", T10, 28, TT_in (i := 1363) (by decide +kernel) (by decide +kernel), rfl, rfl, by decide, uw_10, by decide, by decide +kernel, rfl⟩
theorem fa_M_13 : FA "KiteLoggerModel" 13 10 1 ((ftag 10).getD 1 0) := ⟨"KiteLoggerModel", "KiteLoggerModel", T10, 28, TT_in (i := 1364) (by decide +kernel) (by decide +kernel), rfl, rfl, by decide, uw_10, by decide, by decide +kernel, rfl⟩
theorem fa_M_16 : FA "KiteLoggerModel" 16 10 2 ((ftag 10).getD 2 0) := ⟨"KiteLoggerModel", "KiteLoggerModel", T10, 28, TT_in (i := 1365) (by decide +kernel) (by decide +kernel), rfl, rfl, by decide, uw_10, by decide, by decide +kernel, rfl⟩
theorem fa_M_19 : FA "KiteLoggerModel" 19 10 3 ((ftag 10).getD 3 0) := ⟨"KiteLoggerModel", "KiteLoggerModel", T10, 28, TT_in (i := 1366) (by decide +kernel) (by decide +kernel), rfl, rfl, by decide, uw_10, by decide, by decide +kernel, rfl⟩
theorem fa_M_22 : FA "KiteLoggerModel" 22 10 4 ((ftag 10).getD 4 0) := ⟨"KiteLoggerModel", "KiteLoggerModel", T10, 28, TT_in (i := 1367) (by decide +kernel) (by decide +kernel), rfl, rfl, by decide, uw_10, by decide, by decide +kernel, rfl⟩
theorem fa_M_25 : FA "KiteLoggerModel" 25 10 5 ((ftag 10).getD 5 0) := ⟨"KiteLoggerModel", "KiteLoggerModel", T10, 28, TT_in (i := 1368) (by decide +kernel) (by decide +kernel), rfl, rfl, by decide, uw_10, by decide, by decide +kernel, rfl⟩
theorem fa_M_28 : FA "KiteLoggerModel" 28 10 6 ((ftag 10).getD 6 0) := ⟨"KiteLoggerModel", "KiteLoggerModel", T10, 28, TT_in (i := 1369) (by decide +kernel) (by decide +kernel), rfl, rfl, by decide, uw_10, by decide, by decide +kernel, rfl⟩
theorem fa_M_31 : FA "KiteLoggerModel" 31 10 12 ((ftag 10).getD 12 0) := ⟨"KiteLoggerModel", "KiteLoggerModel", T10, 28, TT_in (i := 1375) (by decide +kernel) (by decide +kernel), rfl, rfl, by decide, uw_10, by decide, by decide +kernel, rfl⟩
theorem fa_M_34 : FA "KiteLoggerModel" 34 10 14 ((ftag 10).getD 14 0) := ⟨"KiteLoggerModel", "KiteLoggerModel", T10, 28, TT_in (i := 1377) (by decide +kernel) (by decide +kernel), rfl, rfl, by decide, uw_10, by decide, by decide +kernel, rfl⟩
theorem fa_M_37 : FA "KiteLoggerModel" 37 10 22 ((ftag 10).getD 22 0) := ⟨"KiteLoggerModel", "KiteLoggerModel", T10, 28, TT_in (i := 1385) (by decide +kernel) (by decide +kernel), rfl, rfl, by decide, uw_10, by decide, by decide +kernel, rfl⟩
theorem fa_M_41 : FA "KiteLoggerModel" 41 10 24 ((ftag 10).getD 24 0) := ⟨"KiteLoggerModel", "KiteLoggerModel", T10, 28, TT_in (i := 1387) (by decide +kernel) (by decide +kernel), rfl, rfl, by decide, uw_10, by decide, by decide +kernel, rfl⟩
theorem fa_M_64 : FA "KiteLoggerModel" 64 10 25 ((ftag 10).getD 25 0) := ⟨"KiteLoggerModel", "KiteLoggerModel", T10, 28, TT_in (i := 1388) (by decide +kernel) (by decide +kernel), rfl, rfl, by decide, uw_10, by decide, by decide +kernel, rfl⟩
theorem fa_M_76 : FA "KiteLoggerModel" 76 10 8 ((ftag 10).getD 8 0) := ⟨"KiteLoggerModel", "KiteLoggerModel", T10, 28, TT_in (i := 1371) (by decide +kernel) (by decide +kernel), rfl, rfl, by decide, uw_10, by decide, by decide +kernel, rfl⟩
theorem fa_M_183 : FA "KiteLoggerModel" 183 10 10 ((ftag 10).getD 10 0) := ⟨"KiteLoggerModel", "KiteLoggerModel", T10, 28, TT_in (i := 1373) (by decide +kernel) (by decide +kernel), rfl, rfl, by decide, uw_10, by decide, by decide +kernel, rfl⟩
theorem fa_M_186 : FA "KiteLoggerModel" 186 10 7 ((ftag 10).getD 7 0) := ⟨"KiteLoggerModel", "KiteLoggerModel", T10, 28, TT_in (i := 1370) (by decide +kernel) (by decide +kernel), rfl, rfl, by decide, uw_10, by decide, by decide +kernel, rfl⟩
theorem fa_M_222 : FA "KiteLoggerModel" 222 10 13 ((ftag 10).getD 13 0) := ⟨"KiteLoggerModel", "KiteLoggerModel", T10, 28, TT_in (i := 1376) (by decide +kernel) (by decide +kernel), rfl, rfl, by decide, uw_10, by decide, by decide +kernel, rfl⟩
theorem fa_M_231 : FA "KiteLoggerModel" 231 10 11 ((ftag 10).getD 11 0) := ⟨"KiteLoggerModel", "KiteLoggerModel", T10, 28, TT_in (i := 1374) (by decide +kernel) (by decide +kernel), rfl, rfl, by decide, uw_10, by decide, by decide +kernel, rfl⟩
theorem fa_M_235 : FA "KiteLoggerModel" 235 10 15 ((ftag 10).getD 15 0) := ⟨"KiteLoggerModel", "KiteLoggerModel", T10, 28, TT_in (i := 1378) (by decide +kernel) (by decide +kernel), rfl, rfl, by decide, uw_10, by decide, by decide +kernel, rfl⟩
theorem fa_M_238 : FA "KiteLoggerModel" 238 10 16 ((ftag 10).getD 16 0) := ⟨"KiteLoggerModel", "KiteLoggerModel", T10, 28, TT_in (i := 1379) (by decide +kernel) (by decide +kernel), rfl, rfl, by decide, uw_10, by decide, by decide +kernel, rfl⟩
theorem fa_M_244 : FA "KiteLoggerModel" 244 10 17 ((ftag 10).getD 17 0) := ⟨"KiteLoggerModel", "KiteLoggerModel", T10, 28, TT_in (i := 1380) (by decide +kernel) (by decide +kernel), rfl, rfl, by decide, uw_10, by decide, by decide +kernel, rfl⟩
theorem fa_M_247 : FA "KiteLoggerModel" 247 10 18 ((ftag 10).getD 18 0) := ⟨"KiteLoggerModel", "KiteLoggerModel", T10, 28, TT_in (i := 1381) (by decide +kernel) (by decide +kernel), rfl, rfl, by decide, uw_10, by decide, by decide +kernel, rfl⟩
theorem fa_M_250 : FA "KiteLoggerModel" 250 10 19 ((ftag 10).getD 19 0) := ⟨"KiteLoggerModel", "KiteLoggerModel", T10, 28, TT_in (i := 1382) (by decide +kernel) (by decide +kernel), rfl, rfl, by decide, uw_10, by decide, by decide +kernel, rfl⟩
theorem fa_M_259 : FA "KiteLoggerModel" 259 10 20 ((ftag 10).getD 20 0) := ⟨"KiteLoggerModel", "KiteLoggerModel", T10, 28, TT_in (i := 1383) (by decide +kernel) (by decide +kernel), rfl, rfl, by decide, uw_10, by decide, by decide +kernel, rfl⟩
theorem fa_M_262 : FA "KiteLoggerModel" 262 10 23 ((ftag 10).getD 23 0) := ⟨"KiteLoggerModel", "KiteLoggerModel", T10, 28, TT_in (i := 1386) (by decide +kernel) (by decide +kernel), rfl, rfl, by decide, uw_10, by decide, by decide +kernel, rfl⟩
theorem fa_M_268 : FA "KiteLoggerModel" 268 10 21 ((ftag 10).getD 21 0) := ⟨"KiteLoggerModel", "KiteLoggerModel", T10, 28, TT_in (i := 1384) (by decide +kernel) (by decide +kernel), rfl, rfl, by decide, uw_10, by decide, by decide +kernel, rfl⟩
theorem fa_M_299 : FA "KiteLoggerModel" 299 10 9 ((ftag 10).getD 9 0) := ⟨"KiteLoggerModel", "KiteLoggerModel", T10, 28, TT_in (i := 1372) (by decide +kernel) (by decide +kernel), rfl, rfl, by decide, uw_10, by decide, by decide +kernel, rfl⟩
theorem fa_M_336 : FA "KiteLoggerModel" 336 10 26 ((ftag 10).getD 26 0) := ⟨"KiteLoggerModel", "KiteLoggerModel", T10, 28, TT_in (i := 1389) (by decide +kernel) (by decide +kernel), rfl, rfl, by decide, uw_10, by decide, by decide +kernel, rfl⟩
theorem fa_M_359 : FA "KiteLoggerModel" 359 10 27 ((ftag 10).getD 27 0) := ⟨"KiteLoggerModel", "KiteLoggerModel", T10, 28, TT_in (i := 1390) (by decide +kernel) (by decide +kernel), rfl, rfl, by decide, uw_10, by decide, by decide +kernel, rfl⟩
theorem fw_0_1 : FW 0 1 .int := ⟨"KiteLogger$History", T0, 3, ty0, rfl, tyk0, nm0, rfl, by decide +kernel⟩
theorem fw_0_2 : FW 0 2 .int := ⟨"KiteLogger$History", T0, 3, ty0, rfl, tyk0, nm0, rfl, by decide +kernel⟩
theorem fw_1_0 : FW 1 0 .int := ⟨"KiteLogger$Kite", T1, 13, ty1, rfl, tyk1, nm1, rfl, by decide +kernel⟩
theorem fw_1_1 : FW 1 1 .int := ⟨"KiteLogger$Kite", T1, 13, ty1, rfl, tyk1, nm1, rfl, by decide +kernel⟩
theorem fw_1_2 : FW 1 2 .int := ⟨"KiteLogger$Kite", T1, 13, ty1, rfl, tyk1, nm1, rfl, by decide +kernel⟩
theorem fw_1_3 : FW 1 3 .int := ⟨"KiteLogger$Kite", T1, 13, ty1, rfl, tyk1, nm1, rfl, by decide +kernel⟩
theorem fw_1_4 : FW 1 4 .int := ⟨"KiteLogger$Kite", T1, 13, ty1, rfl, tyk1, nm1, rfl, by decide +kernel⟩
theorem fw_1_5 : FW 1 5 .int := ⟨"KiteLogger$Kite", T1, 13, ty1, rfl, tyk1, nm1, rfl, by decide +kernel⟩
theorem fw_1_6 : FW 1 6 .int := ⟨"KiteLogger$Kite", T1, 13, ty1, rfl, tyk1, nm1, rfl, by decide +kernel⟩
theorem fw_1_7 : FW 1 7 .int := ⟨"KiteLogger$Kite", T1, 13, ty1, rfl, tyk1, nm1, rfl, by decide +kernel⟩
theorem fw_1_8 : FW 1 8 .int := ⟨"KiteLogger$Kite", T1, 13, ty1, rfl, tyk1, nm1, rfl, by decide +kernel⟩
theorem fw_1_9 : FW 1 9 .int := ⟨"KiteLogger$Kite", T1, 13, ty1, rfl, tyk1, nm1, rfl, by decide +kernel⟩
theorem fw_1_10 : FW 1 10 .int := ⟨"KiteLogger$Kite", T1, 13, ty1, rfl, tyk1, nm1, rfl, by decide +kernel⟩
theorem fw_1_11 : FW 1 11 .int := ⟨"KiteLogger$Kite", T1, 13, ty1, rfl, tyk1, nm1, rfl, by decide +kernel⟩
theorem fw_1_12 : FW 1 12 .int := ⟨"KiteLogger$Kite", T1, 13, ty1, rfl, tyk1, nm1, rfl, by decide +kernel⟩
theorem fw_2_1 : FW 2 1 .int := ⟨"KiteLogger$Output", T2, 2, ty2, rfl, tyk2, nm2, rfl, by decide +kernel⟩
theorem fw_3_4 : FW 3 4 .int := ⟨"KiteLogger$Samples", T3, 7, ty3, rfl, tyk3, nm3, rfl, by decide +kernel⟩
theorem fw_3_5 : FW 3 5 .int := ⟨"KiteLogger$Samples", T3, 7, ty3, rfl, tyk3, nm3, rfl, by decide +kernel⟩
theorem fw_3_6 : FW 3 6 .int := ⟨"KiteLogger$Samples", T3, 7, ty3, rfl, tyk3, nm3, rfl, by decide +kernel⟩
theorem fw_4_4 : FW 4 4 .int := ⟨"KiteLogger$Script", T4, 6, ty4, rfl, tyk4, nm4, rfl, by decide +kernel⟩
theorem fw_4_5 : FW 4 5 .int := ⟨"KiteLogger$Script", T4, 6, ty4, rfl, tyk4, nm4, rfl, by decide +kernel⟩
theorem fw_5_2 : FW 5 2 .int := ⟨"KiteLogger$Station", T5, 9, ty5, rfl, tyk5, nm5, rfl, by decide +kernel⟩
theorem fw_5_6 : FW 5 6 .int := ⟨"KiteLogger$Station", T5, 9, ty5, rfl, tyk5, nm5, rfl, by decide +kernel⟩
theorem fw_5_7 : FW 5 7 .int := ⟨"KiteLogger$Station", T5, 9, ty5, rfl, tyk5, nm5, rfl, by decide +kernel⟩
theorem fw_5_8 : FW 5 8 .int := ⟨"KiteLogger$Station", T5, 9, ty5, rfl, tyk5, nm5, rfl, by decide +kernel⟩
theorem fw_6_0 : FW 6 0 .int := ⟨"KiteLogger$StationPlan", T6, 6, ty6, rfl, tyk6, nm6, rfl, by decide +kernel⟩
theorem fw_6_1 : FW 6 1 .int := ⟨"KiteLogger$StationPlan", T6, 6, ty6, rfl, tyk6, nm6, rfl, by decide +kernel⟩
theorem fw_6_2 : FW 6 2 .int := ⟨"KiteLogger$StationPlan", T6, 6, ty6, rfl, tyk6, nm6, rfl, by decide +kernel⟩
theorem fw_6_3 : FW 6 3 .int := ⟨"KiteLogger$StationPlan", T6, 6, ty6, rfl, tyk6, nm6, rfl, by decide +kernel⟩
theorem fw_6_5 : FW 6 5 .int := ⟨"KiteLogger$StationPlan", T6, 6, ty6, rfl, tyk6, nm6, rfl, by decide +kernel⟩
theorem fw_7_1 : FW 7 1 .int := ⟨"KiteLogger$TextReader", T7, 10, ty7, rfl, tyk7, nm7, rfl, by decide +kernel⟩
theorem fw_7_2 : FW 7 2 .int := ⟨"KiteLogger$TextReader", T7, 10, ty7, rfl, tyk7, nm7, rfl, by decide +kernel⟩
theorem fw_7_3 : FW 7 3 .int := ⟨"KiteLogger$TextReader", T7, 10, ty7, rfl, tyk7, nm7, rfl, by decide +kernel⟩
theorem fw_7_4 : FW 7 4 .int := ⟨"KiteLogger$TextReader", T7, 10, ty7, rfl, tyk7, nm7, rfl, by decide +kernel⟩
theorem fw_7_5 : FW 7 5 .int := ⟨"KiteLogger$TextReader", T7, 10, ty7, rfl, tyk7, nm7, rfl, by decide +kernel⟩
theorem fw_7_6 : FW 7 6 .int := ⟨"KiteLogger$TextReader", T7, 10, ty7, rfl, tyk7, nm7, rfl, by decide +kernel⟩
theorem fw_7_7 : FW 7 7 .int := ⟨"KiteLogger$TextReader", T7, 10, ty7, rfl, tyk7, nm7, rfl, by decide +kernel⟩
theorem fw_7_8 : FW 7 8 .int := ⟨"KiteLogger$TextReader", T7, 10, ty7, rfl, tyk7, nm7, rfl, by decide +kernel⟩
theorem fw_7_9 : FW 7 9 .int := ⟨"KiteLogger$TextReader", T7, 10, ty7, rfl, tyk7, nm7, rfl, by decide +kernel⟩
theorem fw_8_1 : FW 8 1 .int := ⟨"KiteLogger$WindBuffer", T8, 3, ty8, rfl, tyk8, nm8, rfl, by decide +kernel⟩
theorem fw_8_2 : FW 8 2 .int := ⟨"KiteLogger$WindBuffer", T8, 3, ty8, rfl, tyk8, nm8, rfl, by decide +kernel⟩
theorem fw_9_7 : FW 9 7 .boolean := ⟨"KiteLogger", T9, 9, ty9, rfl, tyk9, nm9, rfl, by decide +kernel⟩
theorem fw_10_7 : FW 10 7 .int := ⟨"KiteLoggerModel", T10, 28, ty10, rfl, tyk10, nm10, rfl, by decide +kernel⟩
theorem fw_10_8 : FW 10 8 .int := ⟨"KiteLoggerModel", T10, 28, ty10, rfl, tyk10, nm10, rfl, by decide +kernel⟩
theorem fw_10_9 : FW 10 9 .int := ⟨"KiteLoggerModel", T10, 28, ty10, rfl, tyk10, nm10, rfl, by decide +kernel⟩
theorem fw_10_10 : FW 10 10 .int := ⟨"KiteLoggerModel", T10, 28, ty10, rfl, tyk10, nm10, rfl, by decide +kernel⟩
theorem fw_10_11 : FW 10 11 .boolean := ⟨"KiteLoggerModel", T10, 28, ty10, rfl, tyk10, nm10, rfl, by decide +kernel⟩
theorem fw_10_13 : FW 10 13 .int := ⟨"KiteLoggerModel", T10, 28, ty10, rfl, tyk10, nm10, rfl, by decide +kernel⟩
theorem fw_10_15 : FW 10 15 .int := ⟨"KiteLoggerModel", T10, 28, ty10, rfl, tyk10, nm10, rfl, by decide +kernel⟩
theorem fw_10_16 : FW 10 16 .int := ⟨"KiteLoggerModel", T10, 28, ty10, rfl, tyk10, nm10, rfl, by decide +kernel⟩
theorem fw_10_17 : FW 10 17 .int := ⟨"KiteLoggerModel", T10, 28, ty10, rfl, tyk10, nm10, rfl, by decide +kernel⟩
theorem fw_10_18 : FW 10 18 .int := ⟨"KiteLoggerModel", T10, 28, ty10, rfl, tyk10, nm10, rfl, by decide +kernel⟩
theorem fw_10_19 : FW 10 19 .int := ⟨"KiteLoggerModel", T10, 28, ty10, rfl, tyk10, nm10, rfl, by decide +kernel⟩
theorem fw_10_20 : FW 10 20 .int := ⟨"KiteLoggerModel", T10, 28, ty10, rfl, tyk10, nm10, rfl, by decide +kernel⟩
theorem fw_10_21 : FW 10 21 .int := ⟨"KiteLoggerModel", T10, 28, ty10, rfl, tyk10, nm10, rfl, by decide +kernel⟩
theorem fw_10_22 : FW 10 22 .int := ⟨"KiteLoggerModel", T10, 28, ty10, rfl, tyk10, nm10, rfl, by decide +kernel⟩
theorem fw_10_23 : FW 10 23 .int := ⟨"KiteLoggerModel", T10, 28, ty10, rfl, tyk10, nm10, rfl, by decide +kernel⟩
theorem fw_10_26 : FW 10 26 .int := ⟨"KiteLoggerModel", T10, 28, ty10, rfl, tyk10, nm10, rfl, by decide +kernel⟩
theorem fw_10_27 : FW 10 27 .int := ⟨"KiteLoggerModel", T10, 28, ty10, rfl, tyk10, nm10, rfl, by decide +kernel⟩
end
