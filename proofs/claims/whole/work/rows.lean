section
-- ===== PART A: goes FIRST, ahead of the names: the tables' words, and 'selects' of the private methods out of them =====
/-- a private method of a class that the tables say can be made, by its rows of tables_1 -/
def lw_okq (q : MethodName × Nat) : Prop := (q.1.cls ≠ "java/lang/invoke/MethodHandle" ∧ q.1.cls ≠ "java/lang/invoke/VarHandle") ∧ Cond.instantiable q.1.cls q.2 ∈ tables_1 ∧ Cond.privateMethod q.1 ∈ tables_1 ∧ Cond.instanceMethod q.1 ∈ tables_1
theorem lw_p0 : lw_okq (⟨"KiteLogger$Samples", "placeOf", "(I)I"⟩, 7) := ⟨⟨by decide +kernel, by decide +kernel⟩, List.mem_of_getElem? (i := 234) (by decide +kernel), List.mem_of_getElem? (i := 542) (by decide +kernel), List.mem_of_getElem? (i := 543) (by decide +kernel)⟩
theorem lw_p1 : lw_okq (⟨"KiteLogger$Kite", "fly", "(I)V"⟩, 13) := ⟨⟨by decide +kernel, by decide +kernel⟩, List.mem_of_getElem? (i := 155) (by decide +kernel), List.mem_of_getElem? (i := 615) (by decide +kernel), List.mem_of_getElem? (i := 616) (by decide +kernel)⟩
theorem lw_p2 : lw_okq (⟨"KiteLogger$Kite", "fall", "(I)V"⟩, 13) := ⟨⟨by decide +kernel, by decide +kernel⟩, List.mem_of_getElem? (i := 155) (by decide +kernel), List.mem_of_getElem? (i := 623) (by decide +kernel), List.mem_of_getElem? (i := 624) (by decide +kernel)⟩
theorem lw_p3 : lw_okq (⟨"KiteLogger$Kite", "landOnGround", "()V"⟩, 13) := ⟨⟨by decide +kernel, by decide +kernel⟩, List.mem_of_getElem? (i := 155) (by decide +kernel), List.mem_of_getElem? (i := 629) (by decide +kernel), List.mem_of_getElem? (i := 630) (by decide +kernel)⟩
theorem lw_p4 : lw_okq (⟨"KiteLogger$Output", "addSign", "(C)V"⟩, 2) := ⟨⟨by decide +kernel, by decide +kernel⟩, List.mem_of_getElem? (i := 327) (by decide +kernel), List.mem_of_getElem? (i := 651) (by decide +kernel), List.mem_of_getElem? (i := 652) (by decide +kernel)⟩
theorem lw_p5 : lw_okq (⟨"KiteLogger$Output", "addNumber", "(I)V"⟩, 2) := ⟨⟨by decide +kernel, by decide +kernel⟩, List.mem_of_getElem? (i := 327) (by decide +kernel), List.mem_of_getElem? (i := 656) (by decide +kernel), List.mem_of_getElem? (i := 657) (by decide +kernel)⟩
theorem lw_p6 : lw_okq (⟨"KiteLogger", "refuseLength", "(I)V"⟩, 9) := ⟨⟨by decide +kernel, by decide +kernel⟩, List.mem_of_getElem? (i := 25) (by decide +kernel), List.mem_of_getElem? (i := 696) (by decide +kernel), List.mem_of_getElem? (i := 697) (by decide +kernel)⟩
theorem lw_p7 : lw_okq (⟨"java/lang/Throwable", "fillInStackTrace", "(I)Ljava/lang/Throwable;"⟩, 6) := ⟨⟨by decide +kernel, by decide +kernel⟩, List.mem_of_getElem? (i := 738) (by decide +kernel), List.mem_of_getElem? (i := 736) (by decide +kernel), List.mem_of_getElem? (i := 737) (by decide +kernel)⟩
theorem lw_p8 : lw_okq (⟨"KiteLogger$TextReader", "byteAt", "(I)I"⟩, 10) := ⟨⟨by decide +kernel, by decide +kernel⟩, List.mem_of_getElem? (i := 33) (by decide +kernel), List.mem_of_getElem? (i := 779) (by decide +kernel), List.mem_of_getElem? (i := 780) (by decide +kernel)⟩
theorem lw_p9 : lw_okq (⟨"KiteLogger$StationPlan", "readKite", "(LKiteLogger$TextReader;)Z"⟩, 6) := ⟨⟨by decide +kernel, by decide +kernel⟩, List.mem_of_getElem? (i := 79) (by decide +kernel), List.mem_of_getElem? (i := 791) (by decide +kernel), List.mem_of_getElem? (i := 792) (by decide +kernel)⟩
theorem lw_p10 : lw_okq (⟨"KiteLogger$StationPlan", "readGusts", "(LKiteLogger$TextReader;)Z"⟩, 6) := ⟨⟨by decide +kernel, by decide +kernel⟩, List.mem_of_getElem? (i := 79) (by decide +kernel), List.mem_of_getElem? (i := 869) (by decide +kernel), List.mem_of_getElem? (i := 870) (by decide +kernel)⟩
theorem lw_p11 : lw_okq (⟨"KiteLogger$StationPlan", "readInterval", "(LKiteLogger$TextReader;)Z"⟩, 6) := ⟨⟨by decide +kernel, by decide +kernel⟩, List.mem_of_getElem? (i := 79) (by decide +kernel), List.mem_of_getElem? (i := 880) (by decide +kernel), List.mem_of_getElem? (i := 881) (by decide +kernel)⟩
theorem lw_p12 : lw_okq (⟨"KiteLogger", "change", "(III)I"⟩, 9) := ⟨⟨by decide +kernel, by decide +kernel⟩, List.mem_of_getElem? (i := 25) (by decide +kernel), List.mem_of_getElem? (i := 1011) (by decide +kernel), List.mem_of_getElem? (i := 1012) (by decide +kernel)⟩
theorem lw_p13 : lw_okq (⟨"KiteLogger$Station", "isForbidden", "(II)Z"⟩, 9) := ⟨⟨by decide +kernel, by decide +kernel⟩, List.mem_of_getElem? (i := 149) (by decide +kernel), List.mem_of_getElem? (i := 1023) (by decide +kernel), List.mem_of_getElem? (i := 1024) (by decide +kernel)⟩
theorem lw_p14 : lw_okq (⟨"KiteLogger$History", "placeAt", "(I)LKiteLogger$Station;"⟩, 3) := ⟨⟨by decide +kernel, by decide +kernel⟩, List.mem_of_getElem? (i := 307) (by decide +kernel), List.mem_of_getElem? (i := 1048) (by decide +kernel), List.mem_of_getElem? (i := 1049) (by decide +kernel)⟩
theorem lw_p15 : lw_okq (⟨"KiteLogger$Station", "changeInterval", "(I)I"⟩, 9) := ⟨⟨by decide +kernel, by decide +kernel⟩, List.mem_of_getElem? (i := 149) (by decide +kernel), List.mem_of_getElem? (i := 1074) (by decide +kernel), List.mem_of_getElem? (i := 1075) (by decide +kernel)⟩
def lw_privs_1 : List (MethodName × Nat) := [(⟨"KiteLogger$Samples", "placeOf", "(I)I"⟩, 7), (⟨"KiteLogger$Kite", "fly", "(I)V"⟩, 13), (⟨"KiteLogger$Kite", "fall", "(I)V"⟩, 13), (⟨"KiteLogger$Kite", "landOnGround", "()V"⟩, 13), (⟨"KiteLogger$Output", "addSign", "(C)V"⟩, 2), (⟨"KiteLogger$Output", "addNumber", "(I)V"⟩, 2), (⟨"KiteLogger", "refuseLength", "(I)V"⟩, 9), (⟨"java/lang/Throwable", "fillInStackTrace", "(I)Ljava/lang/Throwable;"⟩, 6), (⟨"KiteLogger$TextReader", "byteAt", "(I)I"⟩, 10), (⟨"KiteLogger$StationPlan", "readKite", "(LKiteLogger$TextReader;)Z"⟩, 6), (⟨"KiteLogger$StationPlan", "readGusts", "(LKiteLogger$TextReader;)Z"⟩, 6), (⟨"KiteLogger$StationPlan", "readInterval", "(LKiteLogger$TextReader;)Z"⟩, 6), (⟨"KiteLogger", "change", "(III)I"⟩, 9), (⟨"KiteLogger$Station", "isForbidden", "(II)Z"⟩, 9), (⟨"KiteLogger$History", "placeAt", "(I)LKiteLogger$Station;"⟩, 3), (⟨"KiteLogger$Station", "changeInterval", "(I)I"⟩, 9)]
theorem lw_r1 : ∀ q ∈ lw_privs_1, lw_okq q := List.forall_mem_cons.mpr ⟨lw_p0, List.forall_mem_cons.mpr ⟨lw_p1, List.forall_mem_cons.mpr ⟨lw_p2, List.forall_mem_cons.mpr ⟨lw_p3, List.forall_mem_cons.mpr ⟨lw_p4, List.forall_mem_cons.mpr ⟨lw_p5, List.forall_mem_cons.mpr ⟨lw_p6, List.forall_mem_cons.mpr ⟨lw_p7, List.forall_mem_cons.mpr ⟨lw_p8, List.forall_mem_cons.mpr ⟨lw_p9, List.forall_mem_cons.mpr ⟨lw_p10, List.forall_mem_cons.mpr ⟨lw_p11, List.forall_mem_cons.mpr ⟨lw_p12, List.forall_mem_cons.mpr ⟨lw_p13, List.forall_mem_cons.mpr ⟨lw_p14, List.forall_mem_cons.mpr ⟨lw_p15, fun _ h => absurd h List.not_mem_nil⟩⟩⟩⟩⟩⟩⟩⟩⟩⟩⟩⟩⟩⟩⟩⟩
theorem lw_p16 : lw_okq (⟨"KiteLogger$Station", "moveSamples", "()I"⟩, 9) := ⟨⟨by decide +kernel, by decide +kernel⟩, List.mem_of_getElem? (i := 149) (by decide +kernel), List.mem_of_getElem? (i := 1083) (by decide +kernel), List.mem_of_getElem? (i := 1084) (by decide +kernel)⟩
theorem lw_p17 : lw_okq (⟨"KiteLogger$Station", "passMany", "(I)I"⟩, 9) := ⟨⟨by decide +kernel, by decide +kernel⟩, List.mem_of_getElem? (i := 149) (by decide +kernel), List.mem_of_getElem? (i := 1096) (by decide +kernel), List.mem_of_getElem? (i := 1097) (by decide +kernel)⟩
theorem lw_p18 : lw_okq (⟨"KiteLogger$Station", "passOne", "()V"⟩, 9) := ⟨⟨by decide +kernel, by decide +kernel⟩, List.mem_of_getElem? (i := 149) (by decide +kernel), List.mem_of_getElem? (i := 1100) (by decide +kernel), List.mem_of_getElem? (i := 1101) (by decide +kernel)⟩
theorem lw_p19 : lw_okq (⟨"KiteLogger$Script", "readBlock", "(LKiteLogger$TextReader;I)Z"⟩, 6) := ⟨⟨by decide +kernel, by decide +kernel⟩, List.mem_of_getElem? (i := 122) (by decide +kernel), List.mem_of_getElem? (i := 1173) (by decide +kernel), List.mem_of_getElem? (i := 1174) (by decide +kernel)⟩
theorem lw_p20 : lw_okq (⟨"KiteLogger$Script", "readCommand", "(LKiteLogger$TextReader;I)Z"⟩, 6) := ⟨⟨by decide +kernel, by decide +kernel⟩, List.mem_of_getElem? (i := 122) (by decide +kernel), List.mem_of_getElem? (i := 1177) (by decide +kernel), List.mem_of_getElem? (i := 1178) (by decide +kernel)⟩
theorem lw_p21 : lw_okq (⟨"KiteLogger$Script", "readNumbers", "(LKiteLogger$TextReader;II)Z"⟩, 6) := ⟨⟨by decide +kernel, by decide +kernel⟩, List.mem_of_getElem? (i := 122) (by decide +kernel), List.mem_of_getElem? (i := 1201) (by decide +kernel), List.mem_of_getElem? (i := 1202) (by decide +kernel)⟩
theorem lw_p22 : lw_okq (⟨"KiteLogger$Script", "readBody", "(LKiteLogger$TextReader;I)Z"⟩, 6) := ⟨⟨by decide +kernel, by decide +kernel⟩, List.mem_of_getElem? (i := 122) (by decide +kernel), List.mem_of_getElem? (i := 1206) (by decide +kernel), List.mem_of_getElem? (i := 1207) (by decide +kernel)⟩
theorem lw_p23 : lw_okq (⟨"KiteLoggerModel", "begin", "(III)V"⟩, 28) := ⟨⟨by decide +kernel, by decide +kernel⟩, List.mem_of_getElem? (i := 1252) (by decide +kernel), List.mem_of_getElem? (i := 1269) (by decide +kernel), List.mem_of_getElem? (i := 1270) (by decide +kernel)⟩
theorem lw_p24 : lw_okq (⟨"KiteLoggerModel", "addGust", "(I)V"⟩, 28) := ⟨⟨by decide +kernel, by decide +kernel⟩, List.mem_of_getElem? (i := 1252) (by decide +kernel), List.mem_of_getElem? (i := 1273) (by decide +kernel), List.mem_of_getElem? (i := 1274) (by decide +kernel)⟩
theorem lw_p25 : lw_okq (⟨"KiteLoggerModel", "lacks", "(Z)Z"⟩, 28) := ⟨⟨by decide +kernel, by decide +kernel⟩, List.mem_of_getElem? (i := 1252) (by decide +kernel), List.mem_of_getElem? (i := 1381) (by decide +kernel), List.mem_of_getElem? (i := 1382) (by decide +kernel)⟩
theorem lw_p26 : lw_okq (⟨"KiteLoggerModel", "gustOf", "(I)I"⟩, 28) := ⟨⟨by decide +kernel, by decide +kernel⟩, List.mem_of_getElem? (i := 1252) (by decide +kernel), List.mem_of_getElem? (i := 1385) (by decide +kernel), List.mem_of_getElem? (i := 1386) (by decide +kernel)⟩
theorem lw_p27 : lw_okq (⟨"KiteLoggerModel", "windNow", "(I)I"⟩, 28) := ⟨⟨by decide +kernel, by decide +kernel⟩, List.mem_of_getElem? (i := 1252) (by decide +kernel), List.mem_of_getElem? (i := 1393) (by decide +kernel), List.mem_of_getElem? (i := 1394) (by decide +kernel)⟩
theorem lw_p28 : lw_okq (⟨"KiteLoggerModel", "greatest", "()I"⟩, 28) := ⟨⟨by decide +kernel, by decide +kernel⟩, List.mem_of_getElem? (i := 1252) (by decide +kernel), List.mem_of_getElem? (i := 1409) (by decide +kernel), List.mem_of_getElem? (i := 1410) (by decide +kernel)⟩
theorem lw_p29 : lw_okq (⟨"KiteLoggerModel", "is", "(I)Z"⟩, 28) := ⟨⟨by decide +kernel, by decide +kernel⟩, List.mem_of_getElem? (i := 1252) (by decide +kernel), List.mem_of_getElem? (i := 1427) (by decide +kernel), List.mem_of_getElem? (i := 1428) (by decide +kernel)⟩
theorem lw_p30 : lw_okq (⟨"KiteLoggerModel", "load", "(I)I"⟩, 28) := ⟨⟨by decide +kernel, by decide +kernel⟩, List.mem_of_getElem? (i := 1252) (by decide +kernel), List.mem_of_getElem? (i := 1467) (by decide +kernel), List.mem_of_getElem? (i := 1468) (by decide +kernel)⟩
theorem lw_p31 : lw_okq (⟨"KiteLoggerModel", "logged", "(II)I"⟩, 28) := ⟨⟨by decide +kernel, by decide +kernel⟩, List.mem_of_getElem? (i := 1252) (by decide +kernel), List.mem_of_getElem? (i := 1503) (by decide +kernel), List.mem_of_getElem? (i := 1504) (by decide +kernel)⟩
def lw_privs_2 : List (MethodName × Nat) := [(⟨"KiteLogger$Station", "moveSamples", "()I"⟩, 9), (⟨"KiteLogger$Station", "passMany", "(I)I"⟩, 9), (⟨"KiteLogger$Station", "passOne", "()V"⟩, 9), (⟨"KiteLogger$Script", "readBlock", "(LKiteLogger$TextReader;I)Z"⟩, 6), (⟨"KiteLogger$Script", "readCommand", "(LKiteLogger$TextReader;I)Z"⟩, 6), (⟨"KiteLogger$Script", "readNumbers", "(LKiteLogger$TextReader;II)Z"⟩, 6), (⟨"KiteLogger$Script", "readBody", "(LKiteLogger$TextReader;I)Z"⟩, 6), (⟨"KiteLoggerModel", "begin", "(III)V"⟩, 28), (⟨"KiteLoggerModel", "addGust", "(I)V"⟩, 28), (⟨"KiteLoggerModel", "lacks", "(Z)Z"⟩, 28), (⟨"KiteLoggerModel", "gustOf", "(I)I"⟩, 28), (⟨"KiteLoggerModel", "windNow", "(I)I"⟩, 28), (⟨"KiteLoggerModel", "greatest", "()I"⟩, 28), (⟨"KiteLoggerModel", "is", "(I)Z"⟩, 28), (⟨"KiteLoggerModel", "load", "(I)I"⟩, 28), (⟨"KiteLoggerModel", "logged", "(II)I"⟩, 28)]
theorem lw_r2 : ∀ q ∈ lw_privs_2, lw_okq q := List.forall_mem_cons.mpr ⟨lw_p16, List.forall_mem_cons.mpr ⟨lw_p17, List.forall_mem_cons.mpr ⟨lw_p18, List.forall_mem_cons.mpr ⟨lw_p19, List.forall_mem_cons.mpr ⟨lw_p20, List.forall_mem_cons.mpr ⟨lw_p21, List.forall_mem_cons.mpr ⟨lw_p22, List.forall_mem_cons.mpr ⟨lw_p23, List.forall_mem_cons.mpr ⟨lw_p24, List.forall_mem_cons.mpr ⟨lw_p25, List.forall_mem_cons.mpr ⟨lw_p26, List.forall_mem_cons.mpr ⟨lw_p27, List.forall_mem_cons.mpr ⟨lw_p28, List.forall_mem_cons.mpr ⟨lw_p29, List.forall_mem_cons.mpr ⟨lw_p30, List.forall_mem_cons.mpr ⟨lw_p31, fun _ h => absurd h List.not_mem_nil⟩⟩⟩⟩⟩⟩⟩⟩⟩⟩⟩⟩⟩⟩⟩⟩
theorem lw_p32 : lw_okq (⟨"KiteLoggerModel", "archived", "(II)I"⟩, 28) := ⟨⟨by decide +kernel, by decide +kernel⟩, List.mem_of_getElem? (i := 1252) (by decide +kernel), List.mem_of_getElem? (i := 1527) (by decide +kernel), List.mem_of_getElem? (i := 1528) (by decide +kernel)⟩
theorem lw_p33 : lw_okq (⟨"KiteLoggerModel", "ofArchive", "(II)I"⟩, 28) := ⟨⟨by decide +kernel, by decide +kernel⟩, List.mem_of_getElem? (i := 1252) (by decide +kernel), List.mem_of_getElem? (i := 1531) (by decide +kernel), List.mem_of_getElem? (i := 1532) (by decide +kernel)⟩
theorem lw_p34 : lw_okq (⟨"KiteLoggerModel", "countBetween", "(II)I"⟩, 28) := ⟨⟨by decide +kernel, by decide +kernel⟩, List.mem_of_getElem? (i := 1252) (by decide +kernel), List.mem_of_getElem? (i := 1547) (by decide +kernel), List.mem_of_getElem? (i := 1548) (by decide +kernel)⟩
theorem lw_p35 : lw_okq (⟨"KiteLoggerModel", "disorder", "(II)I"⟩, 28) := ⟨⟨by decide +kernel, by decide +kernel⟩, List.mem_of_getElem? (i := 1252) (by decide +kernel), List.mem_of_getElem? (i := 1574) (by decide +kernel), List.mem_of_getElem? (i := 1575) (by decide +kernel)⟩
theorem lw_p36 : lw_okq (⟨"KiteLoggerModel", "whyNotLaunch", "()I"⟩, 28) := ⟨⟨by decide +kernel, by decide +kernel⟩, List.mem_of_getElem? (i := 1252) (by decide +kernel), List.mem_of_getElem? (i := 1582) (by decide +kernel), List.mem_of_getElem? (i := 1583) (by decide +kernel)⟩
theorem lw_p37 : lw_okq (⟨"KiteLoggerModel", "putAside", "()V"⟩, 28) := ⟨⟨by decide +kernel, by decide +kernel⟩, List.mem_of_getElem? (i := 1252) (by decide +kernel), List.mem_of_getElem? (i := 1590) (by decide +kernel), List.mem_of_getElem? (i := 1591) (by decide +kernel)⟩
theorem lw_p38 : lw_okq (⟨"KiteLoggerModel", "pass", "(I)V"⟩, 28) := ⟨⟨by decide +kernel, by decide +kernel⟩, List.mem_of_getElem? (i := 1252) (by decide +kernel), List.mem_of_getElem? (i := 1598) (by decide +kernel), List.mem_of_getElem? (i := 1599) (by decide +kernel)⟩
theorem lw_p39 : lw_okq (⟨"KiteLoggerModel", "passTick", "()V"⟩, 28) := ⟨⟨by decide +kernel, by decide +kernel⟩, List.mem_of_getElem? (i := 1252) (by decide +kernel), List.mem_of_getElem? (i := 1602) (by decide +kernel), List.mem_of_getElem? (i := 1603) (by decide +kernel)⟩
theorem lw_p40 : lw_okq (⟨"KiteLoggerModel", "fly", "()V"⟩, 28) := ⟨⟨by decide +kernel, by decide +kernel⟩, List.mem_of_getElem? (i := 1252) (by decide +kernel), List.mem_of_getElem? (i := 1606) (by decide +kernel), List.mem_of_getElem? (i := 1607) (by decide +kernel)⟩
theorem lw_p41 : lw_okq (⟨"KiteLoggerModel", "bufferWind", "(I)V"⟩, 28) := ⟨⟨by decide +kernel, by decide +kernel⟩, List.mem_of_getElem? (i := 1252) (by decide +kernel), List.mem_of_getElem? (i := 1610) (by decide +kernel), List.mem_of_getElem? (i := 1611) (by decide +kernel)⟩
theorem lw_p42 : lw_okq (⟨"KiteLoggerModel", "strain", "(I)V"⟩, 28) := ⟨⟨by decide +kernel, by decide +kernel⟩, List.mem_of_getElem? (i := 1252) (by decide +kernel), List.mem_of_getElem? (i := 1614) (by decide +kernel), List.mem_of_getElem? (i := 1615) (by decide +kernel)⟩
theorem lw_p43 : lw_okq (⟨"KiteLoggerModel", "snap", "(I)V"⟩, 28) := ⟨⟨by decide +kernel, by decide +kernel⟩, List.mem_of_getElem? (i := 1252) (by decide +kernel), List.mem_of_getElem? (i := 1618) (by decide +kernel), List.mem_of_getElem? (i := 1619) (by decide +kernel)⟩
theorem lw_p44 : lw_okq (⟨"KiteLoggerModel", "climb", "(I)V"⟩, 28) := ⟨⟨by decide +kernel, by decide +kernel⟩, List.mem_of_getElem? (i := 1252) (by decide +kernel), List.mem_of_getElem? (i := 1622) (by decide +kernel), List.mem_of_getElem? (i := 1623) (by decide +kernel)⟩
theorem lw_p45 : lw_okq (⟨"KiteLoggerModel", "makeSample", "()V"⟩, 28) := ⟨⟨by decide +kernel, by decide +kernel⟩, List.mem_of_getElem? (i := 1252) (by decide +kernel), List.mem_of_getElem? (i := 1629) (by decide +kernel), List.mem_of_getElem? (i := 1630) (by decide +kernel)⟩
theorem lw_p46 : lw_okq (⟨"KiteLoggerModel", "laidBack", "(I)I"⟩, 28) := ⟨⟨by decide +kernel, by decide +kernel⟩, List.mem_of_getElem? (i := 1252) (by decide +kernel), List.mem_of_getElem? (i := 1633) (by decide +kernel), List.mem_of_getElem? (i := 1634) (by decide +kernel)⟩
theorem lw_p47 : lw_okq (⟨"KiteLoggerModel", "untilSnap", "()I"⟩, 28) := ⟨⟨by decide +kernel, by decide +kernel⟩, List.mem_of_getElem? (i := 1252) (by decide +kernel), List.mem_of_getElem? (i := 1641) (by decide +kernel), List.mem_of_getElem? (i := 1642) (by decide +kernel)⟩
def lw_privs_3 : List (MethodName × Nat) := [(⟨"KiteLoggerModel", "archived", "(II)I"⟩, 28), (⟨"KiteLoggerModel", "ofArchive", "(II)I"⟩, 28), (⟨"KiteLoggerModel", "countBetween", "(II)I"⟩, 28), (⟨"KiteLoggerModel", "disorder", "(II)I"⟩, 28), (⟨"KiteLoggerModel", "whyNotLaunch", "()I"⟩, 28), (⟨"KiteLoggerModel", "putAside", "()V"⟩, 28), (⟨"KiteLoggerModel", "pass", "(I)V"⟩, 28), (⟨"KiteLoggerModel", "passTick", "()V"⟩, 28), (⟨"KiteLoggerModel", "fly", "()V"⟩, 28), (⟨"KiteLoggerModel", "bufferWind", "(I)V"⟩, 28), (⟨"KiteLoggerModel", "strain", "(I)V"⟩, 28), (⟨"KiteLoggerModel", "snap", "(I)V"⟩, 28), (⟨"KiteLoggerModel", "climb", "(I)V"⟩, 28), (⟨"KiteLoggerModel", "makeSample", "()V"⟩, 28), (⟨"KiteLoggerModel", "laidBack", "(I)I"⟩, 28), (⟨"KiteLoggerModel", "untilSnap", "()I"⟩, 28)]
theorem lw_r3 : ∀ q ∈ lw_privs_3, lw_okq q := List.forall_mem_cons.mpr ⟨lw_p32, List.forall_mem_cons.mpr ⟨lw_p33, List.forall_mem_cons.mpr ⟨lw_p34, List.forall_mem_cons.mpr ⟨lw_p35, List.forall_mem_cons.mpr ⟨lw_p36, List.forall_mem_cons.mpr ⟨lw_p37, List.forall_mem_cons.mpr ⟨lw_p38, List.forall_mem_cons.mpr ⟨lw_p39, List.forall_mem_cons.mpr ⟨lw_p40, List.forall_mem_cons.mpr ⟨lw_p41, List.forall_mem_cons.mpr ⟨lw_p42, List.forall_mem_cons.mpr ⟨lw_p43, List.forall_mem_cons.mpr ⟨lw_p44, List.forall_mem_cons.mpr ⟨lw_p45, List.forall_mem_cons.mpr ⟨lw_p46, List.forall_mem_cons.mpr ⟨lw_p47, fun _ h => absurd h List.not_mem_nil⟩⟩⟩⟩⟩⟩⟩⟩⟩⟩⟩⟩⟩⟩⟩⟩
theorem lw_p48 : lw_okq (⟨"KiteLoggerModel", "greatestGust", "()I"⟩, 28) := ⟨⟨by decide +kernel, by decide +kernel⟩, List.mem_of_getElem? (i := 1252) (by decide +kernel), List.mem_of_getElem? (i := 1649) (by decide +kernel), List.mem_of_getElem? (i := 1650) (by decide +kernel)⟩
theorem lw_p49 : lw_okq (⟨"KiteLoggerModel", "keep", "()V"⟩, 28) := ⟨⟨by decide +kernel, by decide +kernel⟩, List.mem_of_getElem? (i := 1252) (by decide +kernel), List.mem_of_getElem? (i := 1657) (by decide +kernel), List.mem_of_getElem? (i := 1658) (by decide +kernel)⟩
theorem lw_p50 : lw_okq (⟨"KiteLoggerModel", "doLaunch", "()I"⟩, 28) := ⟨⟨by decide +kernel, by decide +kernel⟩, List.mem_of_getElem? (i := 1252) (by decide +kernel), List.mem_of_getElem? (i := 1661) (by decide +kernel), List.mem_of_getElem? (i := 1662) (by decide +kernel)⟩
theorem lw_p51 : lw_okq (⟨"KiteLoggerModel", "ends", "(I)I"⟩, 28) := ⟨⟨by decide +kernel, by decide +kernel⟩, List.mem_of_getElem? (i := 1252) (by decide +kernel), List.mem_of_getElem? (i := 1665) (by decide +kernel), List.mem_of_getElem? (i := 1666) (by decide +kernel)⟩
theorem lw_p52 : lw_okq (⟨"KiteLoggerModel", "record", "()V"⟩, 28) := ⟨⟨by decide +kernel, by decide +kernel⟩, List.mem_of_getElem? (i := 1252) (by decide +kernel), List.mem_of_getElem? (i := 1669) (by decide +kernel), List.mem_of_getElem? (i := 1670) (by decide +kernel)⟩
theorem lw_p53 : lw_okq (⟨"KiteLoggerModel", "doOut", "(I)I"⟩, 28) := ⟨⟨by decide +kernel, by decide +kernel⟩, List.mem_of_getElem? (i := 1252) (by decide +kernel), List.mem_of_getElem? (i := 1677) (by decide +kernel), List.mem_of_getElem? (i := 1678) (by decide +kernel)⟩
theorem lw_p54 : lw_okq (⟨"KiteLoggerModel", "doIn", "(I)I"⟩, 28) := ⟨⟨by decide +kernel, by decide +kernel⟩, List.mem_of_getElem? (i := 1252) (by decide +kernel), List.mem_of_getElem? (i := 1685) (by decide +kernel), List.mem_of_getElem? (i := 1686) (by decide +kernel)⟩
theorem lw_p55 : lw_okq (⟨"KiteLoggerModel", "doBridle", "(II)I"⟩, 28) := ⟨⟨by decide +kernel, by decide +kernel⟩, List.mem_of_getElem? (i := 1252) (by decide +kernel), List.mem_of_getElem? (i := 1693) (by decide +kernel), List.mem_of_getElem? (i := 1694) (by decide +kernel)⟩
theorem lw_p56 : lw_okq (⟨"KiteLoggerModel", "doEvery", "(I)I"⟩, 28) := ⟨⟨by decide +kernel, by decide +kernel⟩, List.mem_of_getElem? (i := 1252) (by decide +kernel), List.mem_of_getElem? (i := 1701) (by decide +kernel), List.mem_of_getElem? (i := 1702) (by decide +kernel)⟩
theorem lw_p57 : lw_okq (⟨"KiteLoggerModel", "doSearch", "(I)I"⟩, 28) := ⟨⟨by decide +kernel, by decide +kernel⟩, List.mem_of_getElem? (i := 1252) (by decide +kernel), List.mem_of_getElem? (i := 1709) (by decide +kernel), List.mem_of_getElem? (i := 1710) (by decide +kernel)⟩
theorem lw_p58 : lw_okq (⟨"KiteLoggerModel", "doArchive", "()I"⟩, 28) := ⟨⟨by decide +kernel, by decide +kernel⟩, List.mem_of_getElem? (i := 1252) (by decide +kernel), List.mem_of_getElem? (i := 1717) (by decide +kernel), List.mem_of_getElem? (i := 1718) (by decide +kernel)⟩
theorem lw_p59 : lw_okq (⟨"KiteLoggerModel", "doWait", "(I)I"⟩, 28) := ⟨⟨by decide +kernel, by decide +kernel⟩, List.mem_of_getElem? (i := 1252) (by decide +kernel), List.mem_of_getElem? (i := 1725) (by decide +kernel), List.mem_of_getElem? (i := 1726) (by decide +kernel)⟩
theorem lw_p60 : lw_okq (⟨"KiteLoggerModel", "write", "(I)V"⟩, 28) := ⟨⟨by decide +kernel, by decide +kernel⟩, List.mem_of_getElem? (i := 1252) (by decide +kernel), List.mem_of_getElem? (i := 1733) (by decide +kernel), List.mem_of_getElem? (i := 1734) (by decide +kernel)⟩
theorem lw_p61 : lw_okq (⟨"KiteLoggerModel", "writeNumber", "(I)V"⟩, 28) := ⟨⟨by decide +kernel, by decide +kernel⟩, List.mem_of_getElem? (i := 1252) (by decide +kernel), List.mem_of_getElem? (i := 1737) (by decide +kernel), List.mem_of_getElem? (i := 1738) (by decide +kernel)⟩
theorem lw_p62 : lw_okq (⟨"KiteLoggerModel", "isLength", "(I)Z"⟩, 28) := ⟨⟨by decide +kernel, by decide +kernel⟩, List.mem_of_getElem? (i := 1252) (by decide +kernel), List.mem_of_getElem? (i := 1777) (by decide +kernel), List.mem_of_getElem? (i := 1778) (by decide +kernel)⟩
theorem lw_p63 : lw_okq (⟨"KiteLoggerModel", "startText", "(I)V"⟩, 28) := ⟨⟨by decide +kernel, by decide +kernel⟩, List.mem_of_getElem? (i := 1252) (by decide +kernel), List.mem_of_getElem? (i := 1781) (by decide +kernel), List.mem_of_getElem? (i := 1782) (by decide +kernel)⟩
def lw_privs_4 : List (MethodName × Nat) := [(⟨"KiteLoggerModel", "greatestGust", "()I"⟩, 28), (⟨"KiteLoggerModel", "keep", "()V"⟩, 28), (⟨"KiteLoggerModel", "doLaunch", "()I"⟩, 28), (⟨"KiteLoggerModel", "ends", "(I)I"⟩, 28), (⟨"KiteLoggerModel", "record", "()V"⟩, 28), (⟨"KiteLoggerModel", "doOut", "(I)I"⟩, 28), (⟨"KiteLoggerModel", "doIn", "(I)I"⟩, 28), (⟨"KiteLoggerModel", "doBridle", "(II)I"⟩, 28), (⟨"KiteLoggerModel", "doEvery", "(I)I"⟩, 28), (⟨"KiteLoggerModel", "doSearch", "(I)I"⟩, 28), (⟨"KiteLoggerModel", "doArchive", "()I"⟩, 28), (⟨"KiteLoggerModel", "doWait", "(I)I"⟩, 28), (⟨"KiteLoggerModel", "write", "(I)V"⟩, 28), (⟨"KiteLoggerModel", "writeNumber", "(I)V"⟩, 28), (⟨"KiteLoggerModel", "isLength", "(I)Z"⟩, 28), (⟨"KiteLoggerModel", "startText", "(I)V"⟩, 28)]
theorem lw_r4 : ∀ q ∈ lw_privs_4, lw_okq q := List.forall_mem_cons.mpr ⟨lw_p48, List.forall_mem_cons.mpr ⟨lw_p49, List.forall_mem_cons.mpr ⟨lw_p50, List.forall_mem_cons.mpr ⟨lw_p51, List.forall_mem_cons.mpr ⟨lw_p52, List.forall_mem_cons.mpr ⟨lw_p53, List.forall_mem_cons.mpr ⟨lw_p54, List.forall_mem_cons.mpr ⟨lw_p55, List.forall_mem_cons.mpr ⟨lw_p56, List.forall_mem_cons.mpr ⟨lw_p57, List.forall_mem_cons.mpr ⟨lw_p58, List.forall_mem_cons.mpr ⟨lw_p59, List.forall_mem_cons.mpr ⟨lw_p60, List.forall_mem_cons.mpr ⟨lw_p61, List.forall_mem_cons.mpr ⟨lw_p62, List.forall_mem_cons.mpr ⟨lw_p63, fun _ h => absurd h List.not_mem_nil⟩⟩⟩⟩⟩⟩⟩⟩⟩⟩⟩⟩⟩⟩⟩⟩
theorem lw_p64 : lw_okq (⟨"KiteLoggerModel", "scan", "()V"⟩, 28) := ⟨⟨by decide +kernel, by decide +kernel⟩, List.mem_of_getElem? (i := 1252) (by decide +kernel), List.mem_of_getElem? (i := 1785) (by decide +kernel), List.mem_of_getElem? (i := 1786) (by decide +kernel)⟩
theorem lw_p65 : lw_okq (⟨"KiteLoggerModel", "byteAt", "(I)I"⟩, 28) := ⟨⟨by decide +kernel, by decide +kernel⟩, List.mem_of_getElem? (i := 1252) (by decide +kernel), List.mem_of_getElem? (i := 1789) (by decide +kernel), List.mem_of_getElem? (i := 1790) (by decide +kernel)⟩
theorem lw_p66 : lw_okq (⟨"KiteLoggerModel", "isLetter", "(I)Z"⟩, 28) := ⟨⟨by decide +kernel, by decide +kernel⟩, List.mem_of_getElem? (i := 1252) (by decide +kernel), List.mem_of_getElem? (i := 1793) (by decide +kernel), List.mem_of_getElem? (i := 1794) (by decide +kernel)⟩
theorem lw_p67 : lw_okq (⟨"KiteLoggerModel", "isDigit", "(I)Z"⟩, 28) := ⟨⟨by decide +kernel, by decide +kernel⟩, List.mem_of_getElem? (i := 1252) (by decide +kernel), List.mem_of_getElem? (i := 1797) (by decide +kernel), List.mem_of_getElem? (i := 1798) (by decide +kernel)⟩
theorem lw_p68 : lw_okq (⟨"KiteLoggerModel", "readStation", "()V"⟩, 28) := ⟨⟨by decide +kernel, by decide +kernel⟩, List.mem_of_getElem? (i := 1252) (by decide +kernel), List.mem_of_getElem? (i := 1801) (by decide +kernel), List.mem_of_getElem? (i := 1802) (by decide +kernel)⟩
theorem lw_p69 : lw_okq (⟨"KiteLoggerModel", "isWord", "(Ljava/lang/String;)Z"⟩, 28) := ⟨⟨by decide +kernel, by decide +kernel⟩, List.mem_of_getElem? (i := 1252) (by decide +kernel), List.mem_of_getElem? (i := 1806) (by decide +kernel), List.mem_of_getElem? (i := 1807) (by decide +kernel)⟩
theorem lw_p70 : lw_okq (⟨"KiteLoggerModel", "check", "(ZI)V"⟩, 28) := ⟨⟨by decide +kernel, by decide +kernel⟩, List.mem_of_getElem? (i := 1252) (by decide +kernel), List.mem_of_getElem? (i := 1812) (by decide +kernel), List.mem_of_getElem? (i := 1813) (by decide +kernel)⟩
theorem lw_p71 : lw_okq (⟨"KiteLoggerModel", "advance", "()V"⟩, 28) := ⟨⟨by decide +kernel, by decide +kernel⟩, List.mem_of_getElem? (i := 1252) (by decide +kernel), List.mem_of_getElem? (i := 1816) (by decide +kernel), List.mem_of_getElem? (i := 1817) (by decide +kernel)⟩
theorem lw_p72 : lw_okq (⟨"KiteLoggerModel", "readNumber", "(II)I"⟩, 28) := ⟨⟨by decide +kernel, by decide +kernel⟩, List.mem_of_getElem? (i := 1252) (by decide +kernel), List.mem_of_getElem? (i := 1820) (by decide +kernel), List.mem_of_getElem? (i := 1821) (by decide +kernel)⟩
theorem lw_p73 : lw_okq (⟨"KiteLoggerModel", "look", "(II)I"⟩, 28) := ⟨⟨by decide +kernel, by decide +kernel⟩, List.mem_of_getElem? (i := 1252) (by decide +kernel), List.mem_of_getElem? (i := 1824) (by decide +kernel), List.mem_of_getElem? (i := 1825) (by decide +kernel)⟩
theorem lw_p74 : lw_okq (⟨"KiteLoggerModel", "value", "()I"⟩, 28) := ⟨⟨by decide +kernel, by decide +kernel⟩, List.mem_of_getElem? (i := 1252) (by decide +kernel), List.mem_of_getElem? (i := 1828) (by decide +kernel), List.mem_of_getElem? (i := 1829) (by decide +kernel)⟩
theorem lw_p75 : lw_okq (⟨"KiteLoggerModel", "expect", "(I)V"⟩, 28) := ⟨⟨by decide +kernel, by decide +kernel⟩, List.mem_of_getElem? (i := 1252) (by decide +kernel), List.mem_of_getElem? (i := 1833) (by decide +kernel), List.mem_of_getElem? (i := 1834) (by decide +kernel)⟩
theorem lw_p76 : lw_okq (⟨"KiteLoggerModel", "isSymbol", "(I)Z"⟩, 28) := ⟨⟨by decide +kernel, by decide +kernel⟩, List.mem_of_getElem? (i := 1252) (by decide +kernel), List.mem_of_getElem? (i := 1837) (by decide +kernel), List.mem_of_getElem? (i := 1838) (by decide +kernel)⟩
theorem lw_p77 : lw_okq (⟨"KiteLoggerModel", "readGust", "()V"⟩, 28) := ⟨⟨by decide +kernel, by decide +kernel⟩, List.mem_of_getElem? (i := 1252) (by decide +kernel), List.mem_of_getElem? (i := 1842) (by decide +kernel), List.mem_of_getElem? (i := 1843) (by decide +kernel)⟩
theorem lw_p78 : lw_okq (⟨"KiteLoggerModel", "isFaulty", "()Z"⟩, 28) := ⟨⟨by decide +kernel, by decide +kernel⟩, List.mem_of_getElem? (i := 1252) (by decide +kernel), List.mem_of_getElem? (i := 1847) (by decide +kernel), List.mem_of_getElem? (i := 1848) (by decide +kernel)⟩
theorem lw_p79 : lw_okq (⟨"KiteLoggerModel", "finish", "()I"⟩, 28) := ⟨⟨by decide +kernel, by decide +kernel⟩, List.mem_of_getElem? (i := 1252) (by decide +kernel), List.mem_of_getElem? (i := 1851) (by decide +kernel), List.mem_of_getElem? (i := 1852) (by decide +kernel)⟩
def lw_privs_5 : List (MethodName × Nat) := [(⟨"KiteLoggerModel", "scan", "()V"⟩, 28), (⟨"KiteLoggerModel", "byteAt", "(I)I"⟩, 28), (⟨"KiteLoggerModel", "isLetter", "(I)Z"⟩, 28), (⟨"KiteLoggerModel", "isDigit", "(I)Z"⟩, 28), (⟨"KiteLoggerModel", "readStation", "()V"⟩, 28), (⟨"KiteLoggerModel", "isWord", "(Ljava/lang/String;)Z"⟩, 28), (⟨"KiteLoggerModel", "check", "(ZI)V"⟩, 28), (⟨"KiteLoggerModel", "advance", "()V"⟩, 28), (⟨"KiteLoggerModel", "readNumber", "(II)I"⟩, 28), (⟨"KiteLoggerModel", "look", "(II)I"⟩, 28), (⟨"KiteLoggerModel", "value", "()I"⟩, 28), (⟨"KiteLoggerModel", "expect", "(I)V"⟩, 28), (⟨"KiteLoggerModel", "isSymbol", "(I)Z"⟩, 28), (⟨"KiteLoggerModel", "readGust", "()V"⟩, 28), (⟨"KiteLoggerModel", "isFaulty", "()Z"⟩, 28), (⟨"KiteLoggerModel", "finish", "()I"⟩, 28)]
theorem lw_r5 : ∀ q ∈ lw_privs_5, lw_okq q := List.forall_mem_cons.mpr ⟨lw_p64, List.forall_mem_cons.mpr ⟨lw_p65, List.forall_mem_cons.mpr ⟨lw_p66, List.forall_mem_cons.mpr ⟨lw_p67, List.forall_mem_cons.mpr ⟨lw_p68, List.forall_mem_cons.mpr ⟨lw_p69, List.forall_mem_cons.mpr ⟨lw_p70, List.forall_mem_cons.mpr ⟨lw_p71, List.forall_mem_cons.mpr ⟨lw_p72, List.forall_mem_cons.mpr ⟨lw_p73, List.forall_mem_cons.mpr ⟨lw_p74, List.forall_mem_cons.mpr ⟨lw_p75, List.forall_mem_cons.mpr ⟨lw_p76, List.forall_mem_cons.mpr ⟨lw_p77, List.forall_mem_cons.mpr ⟨lw_p78, List.forall_mem_cons.mpr ⟨lw_p79, fun _ h => absurd h List.not_mem_nil⟩⟩⟩⟩⟩⟩⟩⟩⟩⟩⟩⟩⟩⟩⟩⟩
theorem lw_p80 : lw_okq (⟨"KiteLoggerModel", "readOrder", "(I)V"⟩, 28) := ⟨⟨by decide +kernel, by decide +kernel⟩, List.mem_of_getElem? (i := 1252) (by decide +kernel), List.mem_of_getElem? (i := 1859) (by decide +kernel), List.mem_of_getElem? (i := 1860) (by decide +kernel)⟩
theorem lw_p81 : lw_okq (⟨"KiteLoggerModel", "orderHere", "()I"⟩, 28) := ⟨⟨by decide +kernel, by decide +kernel⟩, List.mem_of_getElem? (i := 1252) (by decide +kernel), List.mem_of_getElem? (i := 1863) (by decide +kernel), List.mem_of_getElem? (i := 1864) (by decide +kernel)⟩
theorem lw_p82 : lw_okq (⟨"KiteLoggerModel", "readRepeat", "(II)V"⟩, 28) := ⟨⟨by decide +kernel, by decide +kernel⟩, List.mem_of_getElem? (i := 1252) (by decide +kernel), List.mem_of_getElem? (i := 1867) (by decide +kernel), List.mem_of_getElem? (i := 1868) (by decide +kernel)⟩
theorem lw_p83 : lw_okq (⟨"KiteLoggerModel", "readFirst", "(I)I"⟩, 28) := ⟨⟨by decide +kernel, by decide +kernel⟩, List.mem_of_getElem? (i := 1252) (by decide +kernel), List.mem_of_getElem? (i := 1871) (by decide +kernel), List.mem_of_getElem? (i := 1872) (by decide +kernel)⟩
theorem lw_p84 : lw_okq (⟨"KiteLoggerModel", "areDone", "(II)Z"⟩, 28) := ⟨⟨by decide +kernel, by decide +kernel⟩, List.mem_of_getElem? (i := 1252) (by decide +kernel), List.mem_of_getElem? (i := 1875) (by decide +kernel), List.mem_of_getElem? (i := 1876) (by decide +kernel)⟩
theorem lw_p85 : lw_okq (⟨"KiteLoggerModel", "isRepeated", "(I)Z"⟩, 28) := ⟨⟨by decide +kernel, by decide +kernel⟩, List.mem_of_getElem? (i := 1252) (by decide +kernel), List.mem_of_getElem? (i := 1879) (by decide +kernel), List.mem_of_getElem? (i := 1880) (by decide +kernel)⟩
theorem lw_p86 : lw_okq (⟨"KiteLoggerModel", "does", "(I)I"⟩, 28) := ⟨⟨by decide +kernel, by decide +kernel⟩, List.mem_of_getElem? (i := 1252) (by decide +kernel), List.mem_of_getElem? (i := 1883) (by decide +kernel), List.mem_of_getElem? (i := 1884) (by decide +kernel)⟩
def lw_privs_6 : List (MethodName × Nat) := [(⟨"KiteLoggerModel", "readOrder", "(I)V"⟩, 28), (⟨"KiteLoggerModel", "orderHere", "()I"⟩, 28), (⟨"KiteLoggerModel", "readRepeat", "(II)V"⟩, 28), (⟨"KiteLoggerModel", "readFirst", "(I)I"⟩, 28), (⟨"KiteLoggerModel", "areDone", "(II)Z"⟩, 28), (⟨"KiteLoggerModel", "isRepeated", "(I)Z"⟩, 28), (⟨"KiteLoggerModel", "does", "(I)I"⟩, 28)]
theorem lw_r6 : ∀ q ∈ lw_privs_6, lw_okq q := List.forall_mem_cons.mpr ⟨lw_p80, List.forall_mem_cons.mpr ⟨lw_p81, List.forall_mem_cons.mpr ⟨lw_p82, List.forall_mem_cons.mpr ⟨lw_p83, List.forall_mem_cons.mpr ⟨lw_p84, List.forall_mem_cons.mpr ⟨lw_p85, List.forall_mem_cons.mpr ⟨lw_p86, fun _ h => absurd h List.not_mem_nil⟩⟩⟩⟩⟩⟩⟩
def lw_privs : List (MethodName × Nat) := lw_privs_1 ++ (lw_privs_2 ++ (lw_privs_3 ++ (lw_privs_4 ++ (lw_privs_5 ++ (lw_privs_6)))))
def lw_tbl : List Cond := k2_sels lw_privs ++ tables_1
theorem lw_privs_ok : ∀ q ∈ lw_privs, lw_okq q := by
  show ∀ q ∈ lw_privs_1 ++ (lw_privs_2 ++ (lw_privs_3 ++ (lw_privs_4 ++ (lw_privs_5 ++ (lw_privs_6))))), lw_okq q
  exact List.forall_mem_append.mpr ⟨lw_r1, List.forall_mem_append.mpr ⟨lw_r2, List.forall_mem_append.mpr ⟨lw_r3, List.forall_mem_append.mpr ⟨lw_r4, List.forall_mem_append.mpr ⟨lw_r5, lw_r6⟩⟩⟩⟩⟩
/-- the streams that the claim lets the run draw from -/
abbrev lw_cs : List Choice := [Jvm.Choice.named "NaN.bits"]
theorem lw_bits : nanBits ∈ lw_cs := by first | decide | exact List.mem_cons_self | simp [lw_cs, nanBits]
-- ===== end of PART A; then your names; then what follows =====
/-- the tables' words that stay true in every heap: all methods share them -/
def TT : List Cond := lw_tbl.filter goodWord
theorem TT_in {w : Cond} {i : Nat} (h : lw_tbl[i]? = some w) (g : goodWord w = true) : w ∈ TT := List.mem_filter.mpr ⟨List.mem_of_getElem? h, g⟩
theorem TT_good {w : Cond} (h : w ∈ TT) : w ∈ lw_tbl ∧ goodWord w = true := List.mem_filter.mp h
theorem TT_goodIn {x y : Cond} (hy : y ∈ TT) : GoodIn (x :: TT) (y :: TT) := by
  intro w hw
  have hm : w ∈ TT := by
    rcases List.mem_cons.mp hw with rfl | h
    · exact hy
    · exact h
  exact ⟨List.mem_cons_of_mem _ hm, good_of_word (TT_good hm).2⟩
/-- the words of private members of nest mates -/
def isNest : Cond → Bool
  | .fieldLinkNest _ _ _ _ _ _ => true
  | .methodLinkNest _ _ _ _ => true
  | .castable _ _ => true
  | .declares _ => true
  | _ => false
def NW : List Cond := lw_tbl.filter isNest
theorem NW_in {w : Cond} {i : Nat} (h : lw_tbl[i]? = some w) (g : isNest w = true) : w ∈ NW := List.mem_filter.mpr ⟨List.mem_of_getElem? h, g⟩
theorem NW_warm {s U : State} (hW : s.WarmedH U.vm) (h : ∀ w ∈ NW, va_Nw w s) : ∀ w ∈ NW, va_Nw w U := by
  intro w hw
  have hn := (List.mem_filter.mp hw).2
  have hs := h w hw
  unfold isNest at hn
  split at hn
  · exact va_Nw.warmF hW hs
  · exact va_Nw.warmM hW hs
  · exact va_Nw.warmC hW hs
  · exact va_Nw.warmD hW hs
  · cases hn
theorem NW_same {u U : State} (hv : u.vm = U.vm) (h : ∀ w ∈ NW, va_Nw w u) : ∀ w ∈ NW, va_Nw w U := by
  intro w hw
  have hn := (List.mem_filter.mp hw).2
  have hs := h w hw
  unfold isNest at hn
  split at hn
  · exact va_Nw.same rfl hv hs
  · exact va_Nw.same rfl hv hs
  · exact va_Nw.same rfl hv hs
  · exact va_Nw.same rfl hv hs
  · cases hn
end
section
/-! names: classes and their fields, methods and their code -/
def T0 : u_T := fun k => match k with
  | 0 => ("KiteLogger$History", "stations", "[LKiteLogger$Station;", true)
  | 1 => ("KiteLogger$History", "next", "I", false)
  | _ => ("KiteLogger$History", "count", "I", false)
def ty0 : Nat → FieldType := fun k => match k with
  | 0 => .array (.object "KiteLogger$Station")
  | 1 => .int
  | _ => .int
theorem nm0 : ∀ a, a < 3 → ∀ b, b < 3 → a ≠ b → (T0 a).2.1 ≠ (T0 b).2.1 := by decide +kernel
theorem tyk0 : ∀ k, k < 3 → parseFieldDescriptor (T0 k).2.2.1 = some (ty0 k) := by decide +kernel
def T1 : u_T := fun k => match k with
  | 0 => ("KiteLogger$Kite", "mode", "I", false)
  | 1 => ("KiteLogger$Kite", "height", "I", false)
  | 2 => ("KiteLogger$Kite", "tether", "I", false)
  | 3 => ("KiteLogger$Kite", "area", "I", false)
  | 4 => ("KiteLogger$Kite", "limit", "I", false)
  | 5 => ("KiteLogger$Kite", "endurance", "I", false)
  | 6 => ("KiteLogger$Kite", "wear", "I", false)
  | 7 => ("KiteLogger$Kite", "distance", "I", false)
  | 8 => ("KiteLogger$Kite", "beacon", "I", false)
  | 9 => ("KiteLogger$Kite", "flightTime", "I", false)
  | 10 => ("KiteLogger$Kite", "launches", "I", false)
  | 11 => ("KiteLogger$Kite", "snaps", "I", false)
  | _ => ("KiteLogger$Kite", "searches", "I", false)
def ty1 : Nat → FieldType := fun k => match k with
  | 0 => .int
  | 1 => .int
  | 2 => .int
  | 3 => .int
  | 4 => .int
  | 5 => .int
  | 6 => .int
  | 7 => .int
  | 8 => .int
  | 9 => .int
  | 10 => .int
  | 11 => .int
  | _ => .int
theorem nm1 : ∀ a, a < 13 → ∀ b, b < 13 → a ≠ b → (T1 a).2.1 ≠ (T1 b).2.1 := by decide +kernel
theorem tyk1 : ∀ k, k < 13 → parseFieldDescriptor (T1 k).2.2.1 = some (ty1 k) := by decide +kernel
def T2 : u_T := fun k => match k with
  | 0 => ("KiteLogger$Output", "bytes", "[B", true)
  | _ => ("KiteLogger$Output", "length", "I", false)
def ty2 : Nat → FieldType := fun k => match k with
  | 0 => .array (.byte)
  | _ => .int
theorem nm2 : ∀ a, a < 2 → ∀ b, b < 2 → a ≠ b → (T2 a).2.1 ≠ (T2 b).2.1 := by decide +kernel
theorem tyk2 : ∀ k, k < 2 → parseFieldDescriptor (T2 k).2.2.1 = some (ty2 k) := by decide +kernel
def T3 : u_T := fun k => match k with
  | 0 => ("KiteLogger$Samples", "size", "I", true)
  | 1 => ("KiteLogger$Samples", "ticks", "[I", true)
  | 2 => ("KiteLogger$Samples", "heights", "[I", true)
  | 3 => ("KiteLogger$Samples", "gusts", "[I", true)
  | 4 => ("KiteLogger$Samples", "oldest", "I", false)
  | 5 => ("KiteLogger$Samples", "count", "I", false)
  | _ => ("KiteLogger$Samples", "dropped", "I", false)
def ty3 : Nat → FieldType := fun k => match k with
  | 0 => .int
  | 1 => .array (.int)
  | 2 => .array (.int)
  | 3 => .array (.int)
  | 4 => .int
  | 5 => .int
  | _ => .int
theorem nm3 : ∀ a, a < 7 → ∀ b, b < 7 → a ≠ b → (T3 a).2.1 ≠ (T3 b).2.1 := by decide +kernel
theorem tyk3 : ∀ k, k < 7 → parseFieldDescriptor (T3 k).2.2.1 = some (ty3 k) := by decide +kernel
def T4 : u_T := fun k => match k with
  | 0 => ("KiteLogger$Script", "commands", "[I", true)
  | 1 => ("KiteLogger$Script", "firsts", "[I", true)
  | 2 => ("KiteLogger$Script", "seconds", "[I", true)
  | 3 => ("KiteLogger$Script", "ends", "[I", true)
  | 4 => ("KiteLogger$Script", "count", "I", false)
  | _ => ("KiteLogger$Script", "executed", "I", false)
def ty4 : Nat → FieldType := fun k => match k with
  | 0 => .array (.int)
  | 1 => .array (.int)
  | 2 => .array (.int)
  | 3 => .array (.int)
  | 4 => .int
  | _ => .int
theorem nm4 : ∀ a, a < 6 → ∀ b, b < 6 → a ≠ b → (T4 a).2.1 ≠ (T4 b).2.1 := by decide +kernel
theorem tyk4 : ∀ k, k < 6 → parseFieldDescriptor (T4 k).2.2.1 = some (ty4 k) := by decide +kernel
def T5 : u_T := fun k => match k with
  | 0 => ("KiteLogger$Station", "kite", "LKiteLogger$Kite;", true)
  | 1 => ("KiteLogger$Station", "gusts", "[I", true)
  | 2 => ("KiteLogger$Station", "gustCount", "I", false)
  | 3 => ("KiteLogger$Station", "winds", "LKiteLogger$WindBuffer;", true)
  | 4 => ("KiteLogger$Station", "logger", "LKiteLogger$Samples;", true)
  | 5 => ("KiteLogger$Station", "archive", "LKiteLogger$Samples;", true)
  | 6 => ("KiteLogger$Station", "interval", "I", false)
  | 7 => ("KiteLogger$Station", "tick", "I", false)
  | _ => ("KiteLogger$Station", "made", "I", false)
def ty5 : Nat → FieldType := fun k => match k with
  | 0 => .object "KiteLogger$Kite"
  | 1 => .array (.int)
  | 2 => .int
  | 3 => .object "KiteLogger$WindBuffer"
  | 4 => .object "KiteLogger$Samples"
  | 5 => .object "KiteLogger$Samples"
  | 6 => .int
  | 7 => .int
  | _ => .int
theorem nm5 : ∀ a, a < 9 → ∀ b, b < 9 → a ≠ b → (T5 a).2.1 ≠ (T5 b).2.1 := by decide +kernel
theorem tyk5 : ∀ k, k < 9 → parseFieldDescriptor (T5 k).2.2.1 = some (ty5 k) := by decide +kernel
def T6 : u_T := fun k => match k with
  | 0 => ("KiteLogger$StationPlan", "area", "I", false)
  | 1 => ("KiteLogger$StationPlan", "limit", "I", false)
  | 2 => ("KiteLogger$StationPlan", "endurance", "I", false)
  | 3 => ("KiteLogger$StationPlan", "interval", "I", false)
  | 4 => ("KiteLogger$StationPlan", "gusts", "[I", true)
  | _ => ("KiteLogger$StationPlan", "gustCount", "I", false)
def ty6 : Nat → FieldType := fun k => match k with
  | 0 => .int
  | 1 => .int
  | 2 => .int
  | 3 => .int
  | 4 => .array (.int)
  | _ => .int
theorem nm6 : ∀ a, a < 6 → ∀ b, b < 6 → a ≠ b → (T6 a).2.1 ≠ (T6 b).2.1 := by decide +kernel
theorem tyk6 : ∀ k, k < 6 → parseFieldDescriptor (T6 k).2.2.1 = some (ty6 k) := by decide +kernel
def T7 : u_T := fun k => match k with
  | 0 => ("KiteLogger$TextReader", "bytes", "[B", true)
  | 1 => ("KiteLogger$TextReader", "filled", "I", false)
  | 2 => ("KiteLogger$TextReader", "end", "I", false)
  | 3 => ("KiteLogger$TextReader", "kind", "I", false)
  | 4 => ("KiteLogger$TextReader", "start", "I", false)
  | 5 => ("KiteLogger$TextReader", "next", "I", false)
  | 6 => ("KiteLogger$TextReader", "number", "I", false)
  | 7 => ("KiteLogger$TextReader", "taken", "I", false)
  | 8 => ("KiteLogger$TextReader", "errorCode", "I", false)
  | _ => ("KiteLogger$TextReader", "errorOffset", "I", false)
def ty7 : Nat → FieldType := fun k => match k with
  | 0 => .array (.byte)
  | 1 => .int
  | 2 => .int
  | 3 => .int
  | 4 => .int
  | 5 => .int
  | 6 => .int
  | 7 => .int
  | 8 => .int
  | _ => .int
theorem nm7 : ∀ a, a < 10 → ∀ b, b < 10 → a ≠ b → (T7 a).2.1 ≠ (T7 b).2.1 := by decide +kernel
theorem tyk7 : ∀ k, k < 10 → parseFieldDescriptor (T7 k).2.2.1 = some (ty7 k) := by decide +kernel
def T8 : u_T := fun k => match k with
  | 0 => ("KiteLogger$WindBuffer", "winds", "[I", true)
  | 1 => ("KiteLogger$WindBuffer", "oldest", "I", false)
  | _ => ("KiteLogger$WindBuffer", "count", "I", false)
def ty8 : Nat → FieldType := fun k => match k with
  | 0 => .array (.int)
  | 1 => .int
  | _ => .int
theorem nm8 : ∀ a, a < 3 → ∀ b, b < 3 → a ≠ b → (T8 a).2.1 ≠ (T8 b).2.1 := by decide +kernel
theorem tyk8 : ∀ k, k < 3 → parseFieldDescriptor (T8 k).2.2.1 = some (ty8 k) := by decide +kernel
def T9 : u_T := fun k => match k with
  | 0 => ("KiteLogger", "text", "LKiteLogger$TextReader;", true)
  | 1 => ("KiteLogger", "plan", "LKiteLogger$StationPlan;", true)
  | 2 => ("KiteLogger", "script", "LKiteLogger$Script;", true)
  | 3 => ("KiteLogger", "station", "LKiteLogger$Station;", true)
  | 4 => ("KiteLogger", "forecast", "LKiteLogger$Kite;", true)
  | 5 => ("KiteLogger", "history", "LKiteLogger$History;", true)
  | 6 => ("KiteLogger", "snapshot", "LKiteLogger$Station;", true)
  | 7 => ("KiteLogger", "snapshotSaved", "Z", false)
  | _ => ("KiteLogger", "output", "LKiteLogger$Output;", true)
def ty9 : Nat → FieldType := fun k => match k with
  | 0 => .object "KiteLogger$TextReader"
  | 1 => .object "KiteLogger$StationPlan"
  | 2 => .object "KiteLogger$Script"
  | 3 => .object "KiteLogger$Station"
  | 4 => .object "KiteLogger$Kite"
  | 5 => .object "KiteLogger$History"
  | 6 => .object "KiteLogger$Station"
  | 7 => .boolean
  | _ => .object "KiteLogger$Output"
theorem nm9 : ∀ a, a < 9 → ∀ b, b < 9 → a ≠ b → (T9 a).2.1 ≠ (T9 b).2.1 := by decide +kernel
theorem tyk9 : ∀ k, k < 9 → parseFieldDescriptor (T9 k).2.2.1 = some (ty9 k) := by decide +kernel
def T10 : u_T := fun k => match k with
  | 0 => ("KiteLoggerModel", "now", "[I", true)
  | 1 => ("KiteLoggerModel", "draft", "[I", true)
  | 2 => ("KiteLoggerModel", "aside", "[I", true)
  | 3 => ("KiteLoggerModel", "kept", "[I", true)
  | 4 => ("KiteLoggerModel", "snapshot", "[I", true)
  | 5 => ("KiteLoggerModel", "history", "[I", true)
  | 6 => ("KiteLoggerModel", "row", "[I", false)
  | 7 => ("KiteLoggerModel", "undoCount", "I", false)
  | 8 => ("KiteLoggerModel", "thrown", "I", false)
  | 9 => ("KiteLoggerModel", "latestCode", "I", false)
  | 10 => ("KiteLoggerModel", "result", "I", false)
  | 11 => ("KiteLoggerModel", "hasSnapshot", "Z", false)
  | 12 => ("KiteLoggerModel", "output", "[I", true)
  | 13 => ("KiteLoggerModel", "outputLength", "I", false)
  | 14 => ("KiteLoggerModel", "buffer", "[I", true)
  | 15 => ("KiteLoggerModel", "bufferLength", "I", false)
  | 16 => ("KiteLoggerModel", "limit", "I", false)
  | 17 => ("KiteLoggerModel", "next", "I", false)
  | 18 => ("KiteLoggerModel", "beginsAt", "I", false)
  | 19 => ("KiteLoggerModel", "token", "I", false)
  | 20 => ("KiteLoggerModel", "error", "I", false)
  | 21 => ("KiteLoggerModel", "errorAt", "I", false)
  | 22 => ("KiteLoggerModel", "errorPosition", "I", false)
  | 23 => ("KiteLoggerModel", "nested", "I", false)
  | 24 => ("KiteLoggerModel", "orders", "[I", true)
  | 25 => ("KiteLoggerModel", "orderWords", "[Ljava/lang/String;", true)
  | 26 => ("KiteLoggerModel", "orderCount", "I", false)
  | _ => ("KiteLoggerModel", "done", "I", false)
def ty10 : Nat → FieldType := fun k => match k with
  | 0 => .array (.int)
  | 1 => .array (.int)
  | 2 => .array (.int)
  | 3 => .array (.int)
  | 4 => .array (.int)
  | 5 => .array (.int)
  | 6 => .array (.int)
  | 7 => .int
  | 8 => .int
  | 9 => .int
  | 10 => .int
  | 11 => .boolean
  | 12 => .array (.int)
  | 13 => .int
  | 14 => .array (.int)
  | 15 => .int
  | 16 => .int
  | 17 => .int
  | 18 => .int
  | 19 => .int
  | 20 => .int
  | 21 => .int
  | 22 => .int
  | 23 => .int
  | 24 => .array (.int)
  | 25 => .array (.object "java/lang/String")
  | 26 => .int
  | _ => .int
theorem nm10 : ∀ a, a < 28 → ∀ b, b < 28 → a ≠ b → (T10 a).2.1 ≠ (T10 b).2.1 := by decide +kernel
theorem tyk10 : ∀ k, k < 28 → parseFieldDescriptor (T10 k).2.2.1 = some (ty10 k) := by decide +kernel
abbrev vwCl : List vw_C := [("KiteLogger$History", T0, 3), ("KiteLogger$Kite", T1, 13), ("KiteLogger$Output", T2, 2), ("KiteLogger$Samples", T3, 7), ("KiteLogger$Script", T4, 6), ("KiteLogger$Station", T5, 9), ("KiteLogger$StationPlan", T6, 6), ("KiteLogger$TextReader", T7, 10), ("KiteLogger$WindBuffer", T8, 3), ("KiteLogger", T9, 9), ("KiteLoggerModel", T10, 28)]
abbrev b_H_init : ByteArray := prog_2_method_1_code
abbrev y_H_init : MethodName := ⟨"KiteLogger$History", "<init>", "()V"⟩
abbrev b_H_forget : ByteArray := prog_2_method_2_code
abbrev y_H_forget : MethodName := ⟨"KiteLogger$History", "forget", "()V"⟩
abbrev b_H_remember : ByteArray := prog_2_method_3_code
abbrev y_H_remember : MethodName := ⟨"KiteLogger$History", "remember", "(LKiteLogger$Station;)V"⟩
abbrev b_H_takeBack : ByteArray := prog_2_method_4_code
abbrev y_H_takeBack : MethodName := ⟨"KiteLogger$History", "takeBack", "(LKiteLogger$Station;)V"⟩
abbrev b_H_placeAt : ByteArray := prog_2_method_5_code
abbrev y_H_placeAt : MethodName := ⟨"KiteLogger$History", "placeAt", "(I)LKiteLogger$Station;"⟩
abbrev b_K_init : ByteArray := prog_3_method_1_code
abbrev y_K_init : MethodName := ⟨"KiteLogger$Kite", "<init>", "()V"⟩
abbrev b_K_setUp : ByteArray := prog_3_method_2_code
abbrev y_K_setUp : MethodName := ⟨"KiteLogger$Kite", "setUp", "(III)V"⟩
abbrev b_K_copyFrom : ByteArray := prog_3_method_3_code
abbrev y_K_copyFrom : MethodName := ⟨"KiteLogger$Kite", "copyFrom", "(LKiteLogger$Kite;)V"⟩
abbrev b_K_windOver : ByteArray := prog_3_method_4_code
abbrev y_K_windOver : MethodName := ⟨"KiteLogger$Kite", "windOver", "(I)I"⟩
abbrev b_K_loadUnder : ByteArray := prog_3_method_5_code
abbrev y_K_loadUnder : MethodName := ⟨"KiteLogger$Kite", "loadUnder", "(I)I"⟩
abbrev b_K_passTick : ByteArray := prog_3_method_6_code
abbrev y_K_passTick : MethodName := ⟨"KiteLogger$Kite", "passTick", "(I)V"⟩
abbrev b_K_fly : ByteArray := prog_3_method_7_code
abbrev y_K_fly : MethodName := ⟨"KiteLogger$Kite", "fly", "(I)V"⟩
abbrev b_K_fall : ByteArray := prog_3_method_8_code
abbrev y_K_fall : MethodName := ⟨"KiteLogger$Kite", "fall", "(I)V"⟩
abbrev b_K_landOnGround : ByteArray := prog_3_method_9_code
abbrev y_K_landOnGround : MethodName := ⟨"KiteLogger$Kite", "landOnGround", "()V"⟩
abbrev b_K_rise : ByteArray := prog_3_method_10_code
abbrev y_K_rise : MethodName := ⟨"KiteLogger$Kite", "rise", "()I"⟩
abbrev b_K_lengthen : ByteArray := prog_3_method_11_code
abbrev y_K_lengthen : MethodName := ⟨"KiteLogger$Kite", "lengthen", "(I)I"⟩
abbrev b_K_shorten : ByteArray := prog_3_method_12_code
abbrev y_K_shorten : MethodName := ⟨"KiteLogger$Kite", "shorten", "(I)I"⟩
abbrev b_K_renewBridle : ByteArray := prog_3_method_13_code
abbrev y_K_renewBridle : MethodName := ⟨"KiteLogger$Kite", "renewBridle", "(II)I"⟩
abbrev b_K_searchAt : ByteArray := prog_3_method_14_code
abbrev y_K_searchAt : MethodName := ⟨"KiteLogger$Kite", "searchAt", "(I)I"⟩
abbrev b_O_init : ByteArray := prog_4_method_1_code
abbrev y_O_init : MethodName := ⟨"KiteLogger$Output", "<init>", "()V"⟩
abbrev b_O_at : ByteArray := prog_4_method_2_code
abbrev y_O_at : MethodName := ⟨"KiteLogger$Output", "at", "(I)I"⟩
abbrev b_O_writeSamples : ByteArray := prog_4_method_3_code
abbrev y_O_writeSamples : MethodName := ⟨"KiteLogger$Output", "writeSamples", "(LKiteLogger$Samples;)I"⟩
abbrev b_O_addNumber : ByteArray := prog_4_method_4_code
abbrev y_O_addNumber : MethodName := ⟨"KiteLogger$Output", "addNumber", "(I)V"⟩
abbrev b_O_addSign : ByteArray := prog_4_method_5_code
abbrev y_O_addSign : MethodName := ⟨"KiteLogger$Output", "addSign", "(C)V"⟩
abbrev b_S_init : ByteArray := prog_5_method_1_code
abbrev y_S_init : MethodName := ⟨"KiteLogger$Samples", "<init>", "(I)V"⟩
abbrev b_S_setUp : ByteArray := prog_5_method_2_code
abbrev y_S_setUp : MethodName := ⟨"KiteLogger$Samples", "setUp", "()V"⟩
abbrev b_S_empty : ByteArray := prog_5_method_3_code
abbrev y_S_empty : MethodName := ⟨"KiteLogger$Samples", "empty", "()V"⟩
abbrev b_S_copyFrom : ByteArray := prog_5_method_4_code
abbrev y_S_copyFrom : MethodName := ⟨"KiteLogger$Samples", "copyFrom", "(LKiteLogger$Samples;)V"⟩
abbrev b_S_add : ByteArray := prog_5_method_5_code
abbrev y_S_add : MethodName := ⟨"KiteLogger$Samples", "add", "(III)V"⟩
abbrev b_S_placeOf : ByteArray := prog_5_method_6_code
abbrev y_S_placeOf : MethodName := ⟨"KiteLogger$Samples", "placeOf", "(I)I"⟩
abbrev b_S_has : ByteArray := prog_5_method_7_code
abbrev y_S_has : MethodName := ⟨"KiteLogger$Samples", "has", "(I)Z"⟩
abbrev b_S_tickAt : ByteArray := prog_5_method_8_code
abbrev y_S_tickAt : MethodName := ⟨"KiteLogger$Samples", "tickAt", "(I)I"⟩
abbrev b_S_heightAt : ByteArray := prog_5_method_9_code
abbrev y_S_heightAt : MethodName := ⟨"KiteLogger$Samples", "heightAt", "(I)I"⟩
abbrev b_S_gustAt : ByteArray := prog_5_method_10_code
abbrev y_S_gustAt : MethodName := ⟨"KiteLogger$Samples", "gustAt", "(I)I"⟩
abbrev b_S_countBetween : ByteArray := prog_5_method_11_code
abbrev y_S_countBetween : MethodName := ⟨"KiteLogger$Samples", "countBetween", "(II)I"⟩
abbrev b_S_gustsBetween : ByteArray := prog_5_method_12_code
abbrev y_S_gustsBetween : MethodName := ⟨"KiteLogger$Samples", "gustsBetween", "(II)I"⟩
abbrev b_S_highest : ByteArray := prog_5_method_13_code
abbrev y_S_highest : MethodName := ⟨"KiteLogger$Samples", "highest", "()I"⟩
abbrev b_S_lastUntil : ByteArray := prog_5_method_14_code
abbrev y_S_lastUntil : MethodName := ⟨"KiteLogger$Samples", "lastUntil", "(I)I"⟩
abbrev b_S_misplaced : ByteArray := prog_5_method_15_code
abbrev y_S_misplaced : MethodName := ⟨"KiteLogger$Samples", "misplaced", "()I"⟩
abbrev b_C_init : ByteArray := prog_6_method_1_code
abbrev y_C_init : MethodName := ⟨"KiteLogger$Script", "<init>", "()V"⟩
abbrev b_C_read : ByteArray := prog_6_method_2_code
abbrev y_C_read : MethodName := ⟨"KiteLogger$Script", "read", "(LKiteLogger$TextReader;I)Z"⟩
abbrev b_C_readBlock : ByteArray := prog_6_method_3_code
abbrev y_C_readBlock : MethodName := ⟨"KiteLogger$Script", "readBlock", "(LKiteLogger$TextReader;I)Z"⟩
abbrev b_C_readCommand : ByteArray := prog_6_method_4_code
abbrev y_C_readCommand : MethodName := ⟨"KiteLogger$Script", "readCommand", "(LKiteLogger$TextReader;I)Z"⟩
abbrev b_C_readBody : ByteArray := prog_6_method_5_code
abbrev y_C_readBody : MethodName := ⟨"KiteLogger$Script", "readBody", "(LKiteLogger$TextReader;I)Z"⟩
abbrev b_C_readNumbers : ByteArray := prog_6_method_6_code
abbrev y_C_readNumbers : MethodName := ⟨"KiteLogger$Script", "readNumbers", "(LKiteLogger$TextReader;II)Z"⟩
abbrev b_C_commandAt : ByteArray := prog_6_method_7_code
abbrev y_C_commandAt : MethodName := ⟨"KiteLogger$Script", "commandAt", "(LKiteLogger$TextReader;)I"⟩
abbrev b_C_wordOf : ByteArray := prog_6_method_8_code
abbrev y_C_wordOf : MethodName := ⟨"KiteLogger$Script", "wordOf", "(I)Ljava/lang/String;"⟩
abbrev b_C_runBlock : ByteArray := prog_6_method_9_code
abbrev y_C_runBlock : MethodName := ⟨"KiteLogger$Script", "runBlock", "(LKiteLogger$Station;III)Z"⟩
abbrev b_T_init : ByteArray := prog_7_method_1_code
abbrev y_T_init : MethodName := ⟨"KiteLogger$Station", "<init>", "()V"⟩
abbrev b_T_setUp : ByteArray := prog_7_method_2_code
abbrev y_T_setUp : MethodName := ⟨"KiteLogger$Station", "setUp", "(LKiteLogger$StationPlan;)V"⟩
abbrev b_T_copyFrom : ByteArray := prog_7_method_3_code
abbrev y_T_copyFrom : MethodName := ⟨"KiteLogger$Station", "copyFrom", "(LKiteLogger$Station;)V"⟩
abbrev b_T_gustOf : ByteArray := prog_7_method_4_code
abbrev y_T_gustOf : MethodName := ⟨"KiteLogger$Station", "gustOf", "(I)I"⟩
abbrev b_T_greatestGust : ByteArray := prog_7_method_5_code
abbrev y_T_greatestGust : MethodName := ⟨"KiteLogger$Station", "greatestGust", "()I"⟩
abbrev b_T_obstacle : ByteArray := prog_7_method_6_code
abbrev y_T_obstacle : MethodName := ⟨"KiteLogger$Station", "obstacle", "()I"⟩
abbrev b_T_faultOf : ByteArray := prog_7_method_7_code
abbrev y_T_faultOf : MethodName := ⟨"KiteLogger$Station", "faultOf", "(III)I"⟩
abbrev b_T_hasBadNumber : ByteArray := prog_7_method_8_code
abbrev y_T_hasBadNumber : MethodName := ⟨"KiteLogger$Station", "hasBadNumber", "(III)Z"⟩
abbrev b_T_isForbidden : ByteArray := prog_7_method_9_code
abbrev y_T_isForbidden : MethodName := ⟨"KiteLogger$Station", "isForbidden", "(II)Z"⟩
abbrev b_T_perform : ByteArray := prog_7_method_10_code
abbrev y_T_perform : MethodName := ⟨"KiteLogger$Station", "perform", "(III)I"⟩
abbrev b_T_changeInterval : ByteArray := prog_7_method_11_code
abbrev y_T_changeInterval : MethodName := ⟨"KiteLogger$Station", "changeInterval", "(I)I"⟩
abbrev b_T_moveSamples : ByteArray := prog_7_method_12_code
abbrev y_T_moveSamples : MethodName := ⟨"KiteLogger$Station", "moveSamples", "()I"⟩
abbrev b_T_passMany : ByteArray := prog_7_method_13_code
abbrev y_T_passMany : MethodName := ⟨"KiteLogger$Station", "passMany", "(I)I"⟩
abbrev b_T_passOne : ByteArray := prog_7_method_14_code
abbrev y_T_passOne : MethodName := ⟨"KiteLogger$Station", "passOne", "()V"⟩
abbrev b_P_init : ByteArray := prog_8_method_1_code
abbrev y_P_init : MethodName := ⟨"KiteLogger$StationPlan", "<init>", "()V"⟩
abbrev b_P_read : ByteArray := prog_8_method_2_code
abbrev y_P_read : MethodName := ⟨"KiteLogger$StationPlan", "read", "(LKiteLogger$TextReader;I)Z"⟩
abbrev b_P_readKite : ByteArray := prog_8_method_3_code
abbrev y_P_readKite : MethodName := ⟨"KiteLogger$StationPlan", "readKite", "(LKiteLogger$TextReader;)Z"⟩
abbrev b_P_readGusts : ByteArray := prog_8_method_4_code
abbrev y_P_readGusts : MethodName := ⟨"KiteLogger$StationPlan", "readGusts", "(LKiteLogger$TextReader;)Z"⟩
abbrev b_P_readInterval : ByteArray := prog_8_method_5_code
abbrev y_P_readInterval : MethodName := ⟨"KiteLogger$StationPlan", "readInterval", "(LKiteLogger$TextReader;)Z"⟩
abbrev b_X_init : ByteArray := prog_9_method_1_code
abbrev y_X_init : MethodName := ⟨"KiteLogger$TextReader", "<init>", "()V"⟩
abbrev b_X_hasRoomFor : ByteArray := prog_9_method_2_code
abbrev y_X_hasRoomFor : MethodName := ⟨"KiteLogger$TextReader", "hasRoomFor", "(I)Z"⟩
abbrev b_X_appendFour : ByteArray := prog_9_method_3_code
abbrev y_X_appendFour : MethodName := ⟨"KiteLogger$TextReader", "appendFour", "(I)V"⟩
abbrev b_X_begin : ByteArray := prog_9_method_4_code
abbrev y_X_begin : MethodName := ⟨"KiteLogger$TextReader", "begin", "(I)V"⟩
abbrev b_X_byteAt : ByteArray := prog_9_method_5_code
abbrev y_X_byteAt : MethodName := ⟨"KiteLogger$TextReader", "byteAt", "(I)I"⟩
abbrev b_X_isBlank : ByteArray := prog_9_method_6_code
abbrev y_X_isBlank : MethodName := ⟨"KiteLogger$TextReader", "isBlank", "(I)Z"⟩
abbrev b_X_advance : ByteArray := prog_9_method_7_code
abbrev y_X_advance : MethodName := ⟨"KiteLogger$TextReader", "advance", "()V"⟩
abbrev b_X_kindOf : ByteArray := prog_9_method_8_code
abbrev y_X_kindOf : MethodName := ⟨"KiteLogger$TextReader", "kindOf", "(I)I"⟩
abbrev b_X_isAtWord : ByteArray := prog_9_method_9_code
abbrev y_X_isAtWord : MethodName := ⟨"KiteLogger$TextReader", "isAtWord", "(Ljava/lang/String;)Z"⟩
abbrev b_X_fail : ByteArray := prog_9_method_10_code
abbrev y_X_fail : MethodName := ⟨"KiteLogger$TextReader", "fail", "(I)Z"⟩
abbrev b_X_takeWord : ByteArray := prog_9_method_11_code
abbrev y_X_takeWord : MethodName := ⟨"KiteLogger$TextReader", "takeWord", "(Ljava/lang/String;)Z"⟩
abbrev b_X_takeSign : ByteArray := prog_9_method_12_code
abbrev y_X_takeSign : MethodName := ⟨"KiteLogger$TextReader", "takeSign", "(I)Z"⟩
abbrev b_X_checkNumber : ByteArray := prog_9_method_13_code
abbrev y_X_checkNumber : MethodName := ⟨"KiteLogger$TextReader", "checkNumber", "(II)Z"⟩
abbrev b_X_takeNumber : ByteArray := prog_9_method_14_code
abbrev y_X_takeNumber : MethodName := ⟨"KiteLogger$TextReader", "takeNumber", "(II)Z"⟩
abbrev b_B_init : ByteArray := prog_10_method_1_code
abbrev y_B_init : MethodName := ⟨"KiteLogger$WindBuffer", "<init>", "()V"⟩
abbrev b_B_empty : ByteArray := prog_10_method_2_code
abbrev y_B_empty : MethodName := ⟨"KiteLogger$WindBuffer", "empty", "()V"⟩
abbrev b_B_copyFrom : ByteArray := prog_10_method_3_code
abbrev y_B_copyFrom : MethodName := ⟨"KiteLogger$WindBuffer", "copyFrom", "(LKiteLogger$WindBuffer;)V"⟩
abbrev b_B_add : ByteArray := prog_10_method_4_code
abbrev y_B_add : MethodName := ⟨"KiteLogger$WindBuffer", "add", "(I)V"⟩
abbrev b_B_has : ByteArray := prog_10_method_5_code
abbrev y_B_has : MethodName := ⟨"KiteLogger$WindBuffer", "has", "(I)Z"⟩
abbrev b_B_at : ByteArray := prog_10_method_6_code
abbrev y_B_at : MethodName := ⟨"KiteLogger$WindBuffer", "at", "(I)I"⟩
abbrev b_B_greatest : ByteArray := prog_10_method_7_code
abbrev y_B_greatest : MethodName := ⟨"KiteLogger$WindBuffer", "greatest", "()I"⟩
abbrev b_B_sum : ByteArray := prog_10_method_8_code
abbrev y_B_sum : MethodName := ⟨"KiteLogger$WindBuffer", "sum", "()I"⟩
abbrev b_G_init : ByteArray := prog_1_method_1_code
abbrev y_G_init : MethodName := ⟨"KiteLogger", "<init>", "()V"⟩
abbrev b_G_appendText : ByteArray := prog_1_method_2_code
abbrev y_G_appendText : MethodName := ⟨"KiteLogger", "appendText", "(IIIII)I"⟩
abbrev b_G_loadStation : ByteArray := prog_1_method_3_code
abbrev y_G_loadStation : MethodName := ⟨"KiteLogger", "loadStation", "(I)I"⟩
abbrev b_G_errorCode : ByteArray := prog_1_method_4_code
abbrev y_G_errorCode : MethodName := ⟨"KiteLogger", "errorCode", "()I"⟩
abbrev b_G_errorOffset : ByteArray := prog_1_method_5_code
abbrev y_G_errorOffset : MethodName := ⟨"KiteLogger", "errorOffset", "()I"⟩
abbrev b_G_tick : ByteArray := prog_1_method_6_code
abbrev y_G_tick : MethodName := ⟨"KiteLogger", "tick", "()I"⟩
abbrev b_G_patternLength : ByteArray := prog_1_method_7_code
abbrev y_G_patternLength : MethodName := ⟨"KiteLogger", "patternLength", "()I"⟩
abbrev b_G_gust : ByteArray := prog_1_method_8_code
abbrev y_G_gust : MethodName := ⟨"KiteLogger", "gust", "(I)I"⟩
abbrev b_G_windAt : ByteArray := prog_1_method_9_code
abbrev y_G_windAt : MethodName := ⟨"KiteLogger", "windAt", "(I)I"⟩
abbrev b_G_bufferSize : ByteArray := prog_1_method_10_code
abbrev y_G_bufferSize : MethodName := ⟨"KiteLogger", "bufferSize", "()I"⟩
abbrev b_G_bufferedWind : ByteArray := prog_1_method_11_code
abbrev y_G_bufferedWind : MethodName := ⟨"KiteLogger", "bufferedWind", "(I)I"⟩
abbrev b_G_greatestWind : ByteArray := prog_1_method_12_code
abbrev y_G_greatestWind : MethodName := ⟨"KiteLogger", "greatestWind", "()I"⟩
abbrev b_G_meanWind : ByteArray := prog_1_method_13_code
abbrev y_G_meanWind : MethodName := ⟨"KiteLogger", "meanWind", "()D"⟩
abbrev b_G_isLanded : ByteArray := prog_1_method_14_code
abbrev y_G_isLanded : MethodName := ⟨"KiteLogger", "isLanded", "()Z"⟩
abbrev b_G_isFlying : ByteArray := prog_1_method_15_code
abbrev y_G_isFlying : MethodName := ⟨"KiteLogger", "isFlying", "()Z"⟩
abbrev b_G_isFallen : ByteArray := prog_1_method_16_code
abbrev y_G_isFallen : MethodName := ⟨"KiteLogger", "isFallen", "()Z"⟩
abbrev b_G_height : ByteArray := prog_1_method_17_code
abbrev y_G_height : MethodName := ⟨"KiteLogger", "height", "()I"⟩
abbrev b_G_tether : ByteArray := prog_1_method_18_code
abbrev y_G_tether : MethodName := ⟨"KiteLogger", "tether", "()I"⟩
abbrev b_G_area : ByteArray := prog_1_method_19_code
abbrev y_G_area : MethodName := ⟨"KiteLogger", "area", "()I"⟩
abbrev b_G_limit : ByteArray := prog_1_method_20_code
abbrev y_G_limit : MethodName := ⟨"KiteLogger", "limit", "()I"⟩
abbrev b_G_endurance : ByteArray := prog_1_method_21_code
abbrev y_G_endurance : MethodName := ⟨"KiteLogger", "endurance", "()I"⟩
abbrev b_G_wear : ByteArray := prog_1_method_22_code
abbrev y_G_wear : MethodName := ⟨"KiteLogger", "wear", "()I"⟩
abbrev b_G_loadOf : ByteArray := prog_1_method_23_code
abbrev y_G_loadOf : MethodName := ⟨"KiteLogger", "loadOf", "(I)I"⟩
abbrev b_G_flightTime : ByteArray := prog_1_method_24_code
abbrev y_G_flightTime : MethodName := ⟨"KiteLogger", "flightTime", "()I"⟩
abbrev b_G_beaconTime : ByteArray := prog_1_method_25_code
abbrev y_G_beaconTime : MethodName := ⟨"KiteLogger", "beaconTime", "()I"⟩
abbrev b_G_launches : ByteArray := prog_1_method_26_code
abbrev y_G_launches : MethodName := ⟨"KiteLogger", "launches", "()I"⟩
abbrev b_G_snaps : ByteArray := prog_1_method_27_code
abbrev y_G_snaps : MethodName := ⟨"KiteLogger", "snaps", "()I"⟩
abbrev b_G_searches : ByteArray := prog_1_method_28_code
abbrev y_G_searches : MethodName := ⟨"KiteLogger", "searches", "()I"⟩
abbrev b_G_interval : ByteArray := prog_1_method_29_code
abbrev y_G_interval : MethodName := ⟨"KiteLogger", "interval", "()I"⟩
abbrev b_G_loggedCount : ByteArray := prog_1_method_30_code
abbrev y_G_loggedCount : MethodName := ⟨"KiteLogger", "loggedCount", "()I"⟩
abbrev b_G_loggedTick : ByteArray := prog_1_method_31_code
abbrev y_G_loggedTick : MethodName := ⟨"KiteLogger", "loggedTick", "(I)I"⟩
abbrev b_G_loggedHeight : ByteArray := prog_1_method_32_code
abbrev y_G_loggedHeight : MethodName := ⟨"KiteLogger", "loggedHeight", "(I)I"⟩
abbrev b_G_loggedGust : ByteArray := prog_1_method_33_code
abbrev y_G_loggedGust : MethodName := ⟨"KiteLogger", "loggedGust", "(I)I"⟩
abbrev b_G_droppedCount : ByteArray := prog_1_method_34_code
abbrev y_G_droppedCount : MethodName := ⟨"KiteLogger", "droppedCount", "()I"⟩
abbrev b_G_archivedCount : ByteArray := prog_1_method_35_code
abbrev y_G_archivedCount : MethodName := ⟨"KiteLogger", "archivedCount", "()I"⟩
abbrev b_G_archivedTick : ByteArray := prog_1_method_36_code
abbrev y_G_archivedTick : MethodName := ⟨"KiteLogger", "archivedTick", "(I)I"⟩
abbrev b_G_archivedHeight : ByteArray := prog_1_method_37_code
abbrev y_G_archivedHeight : MethodName := ⟨"KiteLogger", "archivedHeight", "(I)I"⟩
abbrev b_G_archivedGust : ByteArray := prog_1_method_38_code
abbrev y_G_archivedGust : MethodName := ⟨"KiteLogger", "archivedGust", "(I)I"⟩
abbrev b_G_archivedBetween : ByteArray := prog_1_method_39_code
abbrev y_G_archivedBetween : MethodName := ⟨"KiteLogger", "archivedBetween", "(II)I"⟩
abbrev b_G_highestArchived : ByteArray := prog_1_method_40_code
abbrev y_G_highestArchived : MethodName := ⟨"KiteLogger", "highestArchived", "()I"⟩
abbrev b_G_archivedBefore : ByteArray := prog_1_method_41_code
abbrev y_G_archivedBefore : MethodName := ⟨"KiteLogger", "archivedBefore", "(I)I"⟩
abbrev b_G_meanGust : ByteArray := prog_1_method_42_code
abbrev y_G_meanGust : MethodName := ⟨"KiteLogger", "meanGust", "(I)D"⟩
abbrev b_G_archivedShare : ByteArray := prog_1_method_43_code
abbrev y_G_archivedShare : MethodName := ⟨"KiteLogger", "archivedShare", "()F"⟩
abbrev b_G_gap : ByteArray := prog_1_method_44_code
abbrev y_G_gap : MethodName := ⟨"KiteLogger", "gap", "()I"⟩
abbrev b_G_launchObstacle : ByteArray := prog_1_method_45_code
abbrev y_G_launchObstacle : MethodName := ⟨"KiteLogger", "launchObstacle", "()I"⟩
abbrev b_G_heightAfter : ByteArray := prog_1_method_46_code
abbrev y_G_heightAfter : MethodName := ⟨"KiteLogger", "heightAfter", "(I)I"⟩
abbrev b_G_ticksToSnap : ByteArray := prog_1_method_47_code
abbrev y_G_ticksToSnap : MethodName := ⟨"KiteLogger", "ticksToSnap", "()I"⟩
abbrev b_G_safeHeight : ByteArray := prog_1_method_48_code
abbrev y_G_safeHeight : MethodName := ⟨"KiteLogger", "safeHeight", "()I"⟩
abbrev b_G_launch : ByteArray := prog_1_method_49_code
abbrev y_G_launch : MethodName := ⟨"KiteLogger", "launch", "()I"⟩
abbrev b_G_payOut : ByteArray := prog_1_method_50_code
abbrev y_G_payOut : MethodName := ⟨"KiteLogger", "payOut", "(I)I"⟩
abbrev b_G_reelIn : ByteArray := prog_1_method_51_code
abbrev y_G_reelIn : MethodName := ⟨"KiteLogger", "reelIn", "(I)I"⟩
abbrev b_G_replaceBridle : ByteArray := prog_1_method_52_code
abbrev y_G_replaceBridle : MethodName := ⟨"KiteLogger", "replaceBridle", "(II)I"⟩
abbrev b_G_setInterval : ByteArray := prog_1_method_53_code
abbrev y_G_setInterval : MethodName := ⟨"KiteLogger", "setInterval", "(I)I"⟩
abbrev b_G_search : ByteArray := prog_1_method_54_code
abbrev y_G_search : MethodName := ⟨"KiteLogger", "search", "(I)I"⟩
abbrev b_G_archive : ByteArray := prog_1_method_55_code
abbrev y_G_archive : MethodName := ⟨"KiteLogger", "archive", "()I"⟩
abbrev b_G_passTicks : ByteArray := prog_1_method_56_code
abbrev y_G_passTicks : MethodName := ⟨"KiteLogger", "passTicks", "(I)I"⟩
abbrev b_G_runScript : ByteArray := prog_1_method_57_code
abbrev y_G_runScript : MethodName := ⟨"KiteLogger", "runScript", "(I)I"⟩
abbrev b_G_writeLogger : ByteArray := prog_1_method_58_code
abbrev y_G_writeLogger : MethodName := ⟨"KiteLogger", "writeLogger", "()I"⟩
abbrev b_G_outputByte : ByteArray := prog_1_method_59_code
abbrev y_G_outputByte : MethodName := ⟨"KiteLogger", "outputByte", "(I)I"⟩
abbrev b_G_undoableCount : ByteArray := prog_1_method_60_code
abbrev y_G_undoableCount : MethodName := ⟨"KiteLogger", "undoableCount", "()I"⟩
abbrev b_G_undo : ByteArray := prog_1_method_61_code
abbrev y_G_undo : MethodName := ⟨"KiteLogger", "undo", "()I"⟩
abbrev b_G_saveSnapshot : ByteArray := prog_1_method_62_code
abbrev y_G_saveSnapshot : MethodName := ⟨"KiteLogger", "saveSnapshot", "()V"⟩
abbrev b_G_restoreSnapshot : ByteArray := prog_1_method_63_code
abbrev y_G_restoreSnapshot : MethodName := ⟨"KiteLogger", "restoreSnapshot", "()I"⟩
abbrev b_G_change : ByteArray := prog_1_method_64_code
abbrev y_G_change : MethodName := ⟨"KiteLogger", "change", "(III)I"⟩
abbrev b_G_refuseLength : ByteArray := prog_1_method_65_code
abbrev y_G_refuseLength : MethodName := ⟨"KiteLogger", "refuseLength", "(I)V"⟩
abbrev b_G_refuseOutside : ByteArray := prog_1_method_66_code
abbrev y_G_refuseOutside : MethodName := ⟨"KiteLogger", "refuseOutside", "(III)V"⟩
abbrev b_G_refuseMissing : ByteArray := prog_1_method_67_code
abbrev y_G_refuseMissing : MethodName := ⟨"KiteLogger", "refuseMissing", "(LKiteLogger$Samples;I)V"⟩
abbrev b_G_isOutside : ByteArray := prog_1_method_68_code
abbrev y_G_isOutside : MethodName := ⟨"KiteLogger", "isOutside", "(III)Z"⟩
abbrev b_G_meanOf : ByteArray := prog_1_method_69_code
abbrev y_G_meanOf : MethodName := ⟨"KiteLogger", "meanOf", "(II)D"⟩
abbrev b_G_valueAt : ByteArray := prog_1_method_70_code
abbrev y_G_valueAt : MethodName := ⟨"KiteLogger", "valueAt", "([II)I"⟩
abbrev b_G_putAt : ByteArray := prog_1_method_71_code
abbrev y_G_putAt : MethodName := ⟨"KiteLogger", "putAt", "([III)V"⟩
abbrev b_G_copyRow : ByteArray := prog_1_method_72_code
abbrev y_G_copyRow : MethodName := ⟨"KiteLogger", "copyRow", "([I[I)V"⟩
abbrev b_M_init : ByteArray := prog_12_method_1_code
abbrev y_M_init : MethodName := ⟨"KiteLoggerModel", "<init>", "()V"⟩
abbrev b_M_thrown : ByteArray := prog_12_method_2_code
abbrev y_M_thrown : MethodName := ⟨"KiteLoggerModel", "thrown", "()I"⟩
abbrev b_M_inRange : ByteArray := prog_12_method_3_code
abbrev y_M_inRange : MethodName := ⟨"KiteLoggerModel", "inRange", "(III)Z"⟩
abbrev b_M_lacks : ByteArray := prog_12_method_4_code
abbrev y_M_lacks : MethodName := ⟨"KiteLoggerModel", "lacks", "(Z)Z"⟩
abbrev b_M_sizeOf : ByteArray := prog_12_method_5_code
abbrev y_M_sizeOf : MethodName := ⟨"KiteLoggerModel", "sizeOf", "(I)I"⟩
abbrev b_M_least : ByteArray := prog_12_method_6_code
abbrev y_M_least : MethodName := ⟨"KiteLoggerModel", "least", "(II)I"⟩
abbrev b_M_most : ByteArray := prog_12_method_7_code
abbrev y_M_most : MethodName := ⟨"KiteLoggerModel", "most", "(II)I"⟩
abbrev b_M_begin : ByteArray := prog_12_method_8_code
abbrev y_M_begin : MethodName := ⟨"KiteLoggerModel", "begin", "(III)V"⟩
abbrev b_M_addGust : ByteArray := prog_12_method_9_code
abbrev y_M_addGust : MethodName := ⟨"KiteLoggerModel", "addGust", "(I)V"⟩
abbrev b_M_gustOf : ByteArray := prog_12_method_10_code
abbrev y_M_gustOf : MethodName := ⟨"KiteLoggerModel", "gustOf", "(I)I"⟩
abbrev b_M_windNow : ByteArray := prog_12_method_11_code
abbrev y_M_windNow : MethodName := ⟨"KiteLoggerModel", "windNow", "(I)I"⟩
abbrev b_M_load : ByteArray := prog_12_method_12_code
abbrev y_M_load : MethodName := ⟨"KiteLoggerModel", "load", "(I)I"⟩
abbrev b_M_is : ByteArray := prog_12_method_13_code
abbrev y_M_is : MethodName := ⟨"KiteLoggerModel", "is", "(I)Z"⟩
abbrev b_M_tick : ByteArray := prog_12_method_14_code
abbrev y_M_tick : MethodName := ⟨"KiteLoggerModel", "tick", "()I"⟩
abbrev b_M_patternLength : ByteArray := prog_12_method_15_code
abbrev y_M_patternLength : MethodName := ⟨"KiteLoggerModel", "patternLength", "()I"⟩
abbrev b_M_gust : ByteArray := prog_12_method_16_code
abbrev y_M_gust : MethodName := ⟨"KiteLoggerModel", "gust", "(I)I"⟩
abbrev b_M_windAt : ByteArray := prog_12_method_17_code
abbrev y_M_windAt : MethodName := ⟨"KiteLoggerModel", "windAt", "(I)I"⟩
abbrev b_M_bufferSize : ByteArray := prog_12_method_18_code
abbrev y_M_bufferSize : MethodName := ⟨"KiteLoggerModel", "bufferSize", "()I"⟩
abbrev b_M_bufferedWind : ByteArray := prog_12_method_19_code
abbrev y_M_bufferedWind : MethodName := ⟨"KiteLoggerModel", "bufferedWind", "(I)I"⟩
abbrev b_M_greatest : ByteArray := prog_12_method_20_code
abbrev y_M_greatest : MethodName := ⟨"KiteLoggerModel", "greatest", "()I"⟩
abbrev b_M_greatestWind : ByteArray := prog_12_method_21_code
abbrev y_M_greatestWind : MethodName := ⟨"KiteLoggerModel", "greatestWind", "()I"⟩
abbrev b_M_mean : ByteArray := prog_12_method_22_code
abbrev y_M_mean : MethodName := ⟨"KiteLoggerModel", "mean", "(II)D"⟩
abbrev b_M_meanWind : ByteArray := prog_12_method_23_code
abbrev y_M_meanWind : MethodName := ⟨"KiteLoggerModel", "meanWind", "()D"⟩
abbrev b_M_isLanded : ByteArray := prog_12_method_24_code
abbrev y_M_isLanded : MethodName := ⟨"KiteLoggerModel", "isLanded", "()Z"⟩
abbrev b_M_isFlying : ByteArray := prog_12_method_25_code
abbrev y_M_isFlying : MethodName := ⟨"KiteLoggerModel", "isFlying", "()Z"⟩
abbrev b_M_isFallen : ByteArray := prog_12_method_26_code
abbrev y_M_isFallen : MethodName := ⟨"KiteLoggerModel", "isFallen", "()Z"⟩
abbrev b_M_height : ByteArray := prog_12_method_27_code
abbrev y_M_height : MethodName := ⟨"KiteLoggerModel", "height", "()I"⟩
abbrev b_M_tether : ByteArray := prog_12_method_28_code
abbrev y_M_tether : MethodName := ⟨"KiteLoggerModel", "tether", "()I"⟩
abbrev b_M_area : ByteArray := prog_12_method_29_code
abbrev y_M_area : MethodName := ⟨"KiteLoggerModel", "area", "()I"⟩
abbrev b_M_limit : ByteArray := prog_12_method_30_code
abbrev y_M_limit : MethodName := ⟨"KiteLoggerModel", "limit", "()I"⟩
abbrev b_M_endurance : ByteArray := prog_12_method_31_code
abbrev y_M_endurance : MethodName := ⟨"KiteLoggerModel", "endurance", "()I"⟩
abbrev b_M_wear : ByteArray := prog_12_method_32_code
abbrev y_M_wear : MethodName := ⟨"KiteLoggerModel", "wear", "()I"⟩
abbrev b_M_loadOf : ByteArray := prog_12_method_33_code
abbrev y_M_loadOf : MethodName := ⟨"KiteLoggerModel", "loadOf", "(I)I"⟩
abbrev b_M_flightTime : ByteArray := prog_12_method_34_code
abbrev y_M_flightTime : MethodName := ⟨"KiteLoggerModel", "flightTime", "()I"⟩
abbrev b_M_beaconTime : ByteArray := prog_12_method_35_code
abbrev y_M_beaconTime : MethodName := ⟨"KiteLoggerModel", "beaconTime", "()I"⟩
abbrev b_M_launches : ByteArray := prog_12_method_36_code
abbrev y_M_launches : MethodName := ⟨"KiteLoggerModel", "launches", "()I"⟩
abbrev b_M_snaps : ByteArray := prog_12_method_37_code
abbrev y_M_snaps : MethodName := ⟨"KiteLoggerModel", "snaps", "()I"⟩
abbrev b_M_searches : ByteArray := prog_12_method_38_code
abbrev y_M_searches : MethodName := ⟨"KiteLoggerModel", "searches", "()I"⟩
abbrev b_M_interval : ByteArray := prog_12_method_39_code
abbrev y_M_interval : MethodName := ⟨"KiteLoggerModel", "interval", "()I"⟩
abbrev b_M_loggedCount : ByteArray := prog_12_method_40_code
abbrev y_M_loggedCount : MethodName := ⟨"KiteLoggerModel", "loggedCount", "()I"⟩
abbrev b_M_logged : ByteArray := prog_12_method_41_code
abbrev y_M_logged : MethodName := ⟨"KiteLoggerModel", "logged", "(II)I"⟩
abbrev b_M_loggedTick : ByteArray := prog_12_method_42_code
abbrev y_M_loggedTick : MethodName := ⟨"KiteLoggerModel", "loggedTick", "(I)I"⟩
abbrev b_M_loggedHeight : ByteArray := prog_12_method_43_code
abbrev y_M_loggedHeight : MethodName := ⟨"KiteLoggerModel", "loggedHeight", "(I)I"⟩
abbrev b_M_loggedGust : ByteArray := prog_12_method_44_code
abbrev y_M_loggedGust : MethodName := ⟨"KiteLoggerModel", "loggedGust", "(I)I"⟩
abbrev b_M_droppedCount : ByteArray := prog_12_method_45_code
abbrev y_M_droppedCount : MethodName := ⟨"KiteLoggerModel", "droppedCount", "()I"⟩
abbrev b_M_archivedCount : ByteArray := prog_12_method_46_code
abbrev y_M_archivedCount : MethodName := ⟨"KiteLoggerModel", "archivedCount", "()I"⟩
abbrev b_M_ofArchive : ByteArray := prog_12_method_47_code
abbrev y_M_ofArchive : MethodName := ⟨"KiteLoggerModel", "ofArchive", "(II)I"⟩
abbrev b_M_archived : ByteArray := prog_12_method_48_code
abbrev y_M_archived : MethodName := ⟨"KiteLoggerModel", "archived", "(II)I"⟩
abbrev b_M_archivedTick : ByteArray := prog_12_method_49_code
abbrev y_M_archivedTick : MethodName := ⟨"KiteLoggerModel", "archivedTick", "(I)I"⟩
abbrev b_M_archivedHeight : ByteArray := prog_12_method_50_code
abbrev y_M_archivedHeight : MethodName := ⟨"KiteLoggerModel", "archivedHeight", "(I)I"⟩
abbrev b_M_archivedGust : ByteArray := prog_12_method_51_code
abbrev y_M_archivedGust : MethodName := ⟨"KiteLoggerModel", "archivedGust", "(I)I"⟩
abbrev b_M_countBetween : ByteArray := prog_12_method_52_code
abbrev y_M_countBetween : MethodName := ⟨"KiteLoggerModel", "countBetween", "(II)I"⟩
abbrev b_M_archivedBetween : ByteArray := prog_12_method_53_code
abbrev y_M_archivedBetween : MethodName := ⟨"KiteLoggerModel", "archivedBetween", "(II)I"⟩
abbrev b_M_highestArchived : ByteArray := prog_12_method_54_code
abbrev y_M_highestArchived : MethodName := ⟨"KiteLoggerModel", "highestArchived", "()I"⟩
abbrev b_M_archivedBefore : ByteArray := prog_12_method_55_code
abbrev y_M_archivedBefore : MethodName := ⟨"KiteLoggerModel", "archivedBefore", "(I)I"⟩
abbrev b_M_meanGust : ByteArray := prog_12_method_56_code
abbrev y_M_meanGust : MethodName := ⟨"KiteLoggerModel", "meanGust", "(I)D"⟩
abbrev b_M_archivedShare : ByteArray := prog_12_method_57_code
abbrev y_M_archivedShare : MethodName := ⟨"KiteLoggerModel", "archivedShare", "()F"⟩
abbrev b_M_disorder : ByteArray := prog_12_method_58_code
abbrev y_M_disorder : MethodName := ⟨"KiteLoggerModel", "disorder", "(II)I"⟩
abbrev b_M_gap : ByteArray := prog_12_method_59_code
abbrev y_M_gap : MethodName := ⟨"KiteLoggerModel", "gap", "()I"⟩
abbrev b_M_bufferWind : ByteArray := prog_12_method_60_code
abbrev y_M_bufferWind : MethodName := ⟨"KiteLoggerModel", "bufferWind", "(I)V"⟩
abbrev b_M_snap : ByteArray := prog_12_method_61_code
abbrev y_M_snap : MethodName := ⟨"KiteLoggerModel", "snap", "(I)V"⟩
abbrev b_M_strain : ByteArray := prog_12_method_62_code
abbrev y_M_strain : MethodName := ⟨"KiteLoggerModel", "strain", "(I)V"⟩
abbrev b_M_climb : ByteArray := prog_12_method_63_code
abbrev y_M_climb : MethodName := ⟨"KiteLoggerModel", "climb", "(I)V"⟩
abbrev b_M_makeSample : ByteArray := prog_12_method_64_code
abbrev y_M_makeSample : MethodName := ⟨"KiteLoggerModel", "makeSample", "()V"⟩
abbrev b_M_fly : ByteArray := prog_12_method_65_code
abbrev y_M_fly : MethodName := ⟨"KiteLoggerModel", "fly", "()V"⟩
abbrev b_M_passTick : ByteArray := prog_12_method_66_code
abbrev y_M_passTick : MethodName := ⟨"KiteLoggerModel", "passTick", "()V"⟩
abbrev b_M_pass : ByteArray := prog_12_method_67_code
abbrev y_M_pass : MethodName := ⟨"KiteLoggerModel", "pass", "(I)V"⟩
abbrev b_M_whyNotLaunch : ByteArray := prog_12_method_68_code
abbrev y_M_whyNotLaunch : MethodName := ⟨"KiteLoggerModel", "whyNotLaunch", "()I"⟩
abbrev b_M_launchObstacle : ByteArray := prog_12_method_69_code
abbrev y_M_launchObstacle : MethodName := ⟨"KiteLoggerModel", "launchObstacle", "()I"⟩
abbrev b_M_copy : ByteArray := prog_12_method_70_code
abbrev y_M_copy : MethodName := ⟨"KiteLoggerModel", "copy", "([II[II)V"⟩
abbrev b_M_putAside : ByteArray := prog_12_method_71_code
abbrev y_M_putAside : MethodName := ⟨"KiteLoggerModel", "putAside", "()V"⟩
abbrev b_M_laidBack : ByteArray := prog_12_method_72_code
abbrev y_M_laidBack : MethodName := ⟨"KiteLoggerModel", "laidBack", "(I)I"⟩
abbrev b_M_heightAfter : ByteArray := prog_12_method_73_code
abbrev y_M_heightAfter : MethodName := ⟨"KiteLoggerModel", "heightAfter", "(I)I"⟩
abbrev b_M_untilSnap : ByteArray := prog_12_method_74_code
abbrev y_M_untilSnap : MethodName := ⟨"KiteLoggerModel", "untilSnap", "()I"⟩
abbrev b_M_ticksToSnap : ByteArray := prog_12_method_75_code
abbrev y_M_ticksToSnap : MethodName := ⟨"KiteLoggerModel", "ticksToSnap", "()I"⟩
abbrev b_M_greatestGust : ByteArray := prog_12_method_76_code
abbrev y_M_greatestGust : MethodName := ⟨"KiteLoggerModel", "greatestGust", "()I"⟩
abbrev b_M_safeHeight : ByteArray := prog_12_method_77_code
abbrev y_M_safeHeight : MethodName := ⟨"KiteLoggerModel", "safeHeight", "()I"⟩
abbrev b_M_doLaunch : ByteArray := prog_12_method_78_code
abbrev y_M_doLaunch : MethodName := ⟨"KiteLoggerModel", "doLaunch", "()I"⟩
abbrev b_M_doOut : ByteArray := prog_12_method_79_code
abbrev y_M_doOut : MethodName := ⟨"KiteLoggerModel", "doOut", "(I)I"⟩
abbrev b_M_doIn : ByteArray := prog_12_method_80_code
abbrev y_M_doIn : MethodName := ⟨"KiteLoggerModel", "doIn", "(I)I"⟩
abbrev b_M_doBridle : ByteArray := prog_12_method_81_code
abbrev y_M_doBridle : MethodName := ⟨"KiteLoggerModel", "doBridle", "(II)I"⟩
abbrev b_M_doEvery : ByteArray := prog_12_method_82_code
abbrev y_M_doEvery : MethodName := ⟨"KiteLoggerModel", "doEvery", "(I)I"⟩
abbrev b_M_doSearch : ByteArray := prog_12_method_83_code
abbrev y_M_doSearch : MethodName := ⟨"KiteLoggerModel", "doSearch", "(I)I"⟩
abbrev b_M_doArchive : ByteArray := prog_12_method_84_code
abbrev y_M_doArchive : MethodName := ⟨"KiteLoggerModel", "doArchive", "()I"⟩
abbrev b_M_doWait : ByteArray := prog_12_method_85_code
abbrev y_M_doWait : MethodName := ⟨"KiteLoggerModel", "doWait", "(I)I"⟩
abbrev b_M_keep : ByteArray := prog_12_method_86_code
abbrev y_M_keep : MethodName := ⟨"KiteLoggerModel", "keep", "()V"⟩
abbrev b_M_record : ByteArray := prog_12_method_87_code
abbrev y_M_record : MethodName := ⟨"KiteLoggerModel", "record", "()V"⟩
abbrev b_M_ends : ByteArray := prog_12_method_88_code
abbrev y_M_ends : MethodName := ⟨"KiteLoggerModel", "ends", "(I)I"⟩
abbrev b_M_launch : ByteArray := prog_12_method_89_code
abbrev y_M_launch : MethodName := ⟨"KiteLoggerModel", "launch", "()I"⟩
abbrev b_M_payOut : ByteArray := prog_12_method_90_code
abbrev y_M_payOut : MethodName := ⟨"KiteLoggerModel", "payOut", "(I)I"⟩
abbrev b_M_reelIn : ByteArray := prog_12_method_91_code
abbrev y_M_reelIn : MethodName := ⟨"KiteLoggerModel", "reelIn", "(I)I"⟩
abbrev b_M_replaceBridle : ByteArray := prog_12_method_92_code
abbrev y_M_replaceBridle : MethodName := ⟨"KiteLoggerModel", "replaceBridle", "(II)I"⟩
abbrev b_M_setInterval : ByteArray := prog_12_method_93_code
abbrev y_M_setInterval : MethodName := ⟨"KiteLoggerModel", "setInterval", "(I)I"⟩
abbrev b_M_search : ByteArray := prog_12_method_94_code
abbrev y_M_search : MethodName := ⟨"KiteLoggerModel", "search", "(I)I"⟩
abbrev b_M_archive : ByteArray := prog_12_method_95_code
abbrev y_M_archive : MethodName := ⟨"KiteLoggerModel", "archive", "()I"⟩
abbrev b_M_passTicks : ByteArray := prog_12_method_96_code
abbrev y_M_passTicks : MethodName := ⟨"KiteLoggerModel", "passTicks", "(I)I"⟩
abbrev b_M_write : ByteArray := prog_12_method_97_code
abbrev y_M_write : MethodName := ⟨"KiteLoggerModel", "write", "(I)V"⟩
abbrev b_M_writeNumber : ByteArray := prog_12_method_98_code
abbrev y_M_writeNumber : MethodName := ⟨"KiteLoggerModel", "writeNumber", "(I)V"⟩
abbrev b_M_writeLogger : ByteArray := prog_12_method_99_code
abbrev y_M_writeLogger : MethodName := ⟨"KiteLoggerModel", "writeLogger", "()I"⟩
abbrev b_M_outputByte : ByteArray := prog_12_method_100_code
abbrev y_M_outputByte : MethodName := ⟨"KiteLoggerModel", "outputByte", "(I)I"⟩
abbrev b_M_undoableCount : ByteArray := prog_12_method_101_code
abbrev y_M_undoableCount : MethodName := ⟨"KiteLoggerModel", "undoableCount", "()I"⟩
abbrev b_M_undo : ByteArray := prog_12_method_102_code
abbrev y_M_undo : MethodName := ⟨"KiteLoggerModel", "undo", "()I"⟩
abbrev b_M_saveSnapshot : ByteArray := prog_12_method_103_code
abbrev y_M_saveSnapshot : MethodName := ⟨"KiteLoggerModel", "saveSnapshot", "()V"⟩
abbrev b_M_restoreSnapshot : ByteArray := prog_12_method_104_code
abbrev y_M_restoreSnapshot : MethodName := ⟨"KiteLoggerModel", "restoreSnapshot", "()I"⟩
abbrev b_M_appendText : ByteArray := prog_12_method_105_code
abbrev y_M_appendText : MethodName := ⟨"KiteLoggerModel", "appendText", "(IIIII)I"⟩
abbrev b_M_errorOffset : ByteArray := prog_12_method_106_code
abbrev y_M_errorOffset : MethodName := ⟨"KiteLoggerModel", "errorOffset", "()I"⟩
abbrev b_M_byteAt : ByteArray := prog_12_method_107_code
abbrev y_M_byteAt : MethodName := ⟨"KiteLoggerModel", "byteAt", "(I)I"⟩
abbrev b_M_isLetter : ByteArray := prog_12_method_108_code
abbrev y_M_isLetter : MethodName := ⟨"KiteLoggerModel", "isLetter", "(I)Z"⟩
abbrev b_M_isDigit : ByteArray := prog_12_method_109_code
abbrev y_M_isDigit : MethodName := ⟨"KiteLoggerModel", "isDigit", "(I)Z"⟩
abbrev b_M_scan : ByteArray := prog_12_method_110_code
abbrev y_M_scan : MethodName := ⟨"KiteLoggerModel", "scan", "()V"⟩
abbrev b_M_startText : ByteArray := prog_12_method_111_code
abbrev y_M_startText : MethodName := ⟨"KiteLoggerModel", "startText", "(I)V"⟩
abbrev b_M_finish : ByteArray := prog_12_method_112_code
abbrev y_M_finish : MethodName := ⟨"KiteLoggerModel", "finish", "()I"⟩
abbrev b_M_check : ByteArray := prog_12_method_113_code
abbrev y_M_check : MethodName := ⟨"KiteLoggerModel", "check", "(ZI)V"⟩
abbrev b_M_advance : ByteArray := prog_12_method_114_code
abbrev y_M_advance : MethodName := ⟨"KiteLoggerModel", "advance", "()V"⟩
abbrev b_M_isSymbol : ByteArray := prog_12_method_115_code
abbrev y_M_isSymbol : MethodName := ⟨"KiteLoggerModel", "isSymbol", "(I)Z"⟩
abbrev b_M_isWord : ByteArray := prog_12_method_116_code
abbrev y_M_isWord : MethodName := ⟨"KiteLoggerModel", "isWord", "(Ljava/lang/String;)Z"⟩
abbrev b_M_expect : ByteArray := prog_12_method_118_code
abbrev y_M_expect : MethodName := ⟨"KiteLoggerModel", "expect", "(I)V"⟩
abbrev b_M_value : ByteArray := prog_12_method_119_code
abbrev y_M_value : MethodName := ⟨"KiteLoggerModel", "value", "()I"⟩
abbrev b_M_look : ByteArray := prog_12_method_120_code
abbrev y_M_look : MethodName := ⟨"KiteLoggerModel", "look", "(II)I"⟩
abbrev b_M_readNumber : ByteArray := prog_12_method_121_code
abbrev y_M_readNumber : MethodName := ⟨"KiteLoggerModel", "readNumber", "(II)I"⟩
abbrev b_M_errorCode : ByteArray := prog_12_method_122_code
abbrev y_M_errorCode : MethodName := ⟨"KiteLoggerModel", "errorCode", "()I"⟩
abbrev b_M_isFaulty : ByteArray := prog_12_method_123_code
abbrev y_M_isFaulty : MethodName := ⟨"KiteLoggerModel", "isFaulty", "()Z"⟩
abbrev b_M_isLength : ByteArray := prog_12_method_124_code
abbrev y_M_isLength : MethodName := ⟨"KiteLoggerModel", "isLength", "(I)Z"⟩
abbrev b_M_readGust : ByteArray := prog_12_method_125_code
abbrev y_M_readGust : MethodName := ⟨"KiteLoggerModel", "readGust", "()V"⟩
abbrev b_M_readStation : ByteArray := prog_12_method_126_code
abbrev y_M_readStation : MethodName := ⟨"KiteLoggerModel", "readStation", "()V"⟩
abbrev b_M_loadStation : ByteArray := prog_12_method_127_code
abbrev y_M_loadStation : MethodName := ⟨"KiteLoggerModel", "loadStation", "(I)I"⟩
abbrev b_M_orderHere : ByteArray := prog_12_method_128_code
abbrev y_M_orderHere : MethodName := ⟨"KiteLoggerModel", "orderHere", "()I"⟩
abbrev b_M_readFirst : ByteArray := prog_12_method_129_code
abbrev y_M_readFirst : MethodName := ⟨"KiteLoggerModel", "readFirst", "(I)I"⟩
abbrev b_M_readRepeat : ByteArray := prog_12_method_130_code
abbrev y_M_readRepeat : MethodName := ⟨"KiteLoggerModel", "readRepeat", "(II)V"⟩
abbrev b_M_readOrder : ByteArray := prog_12_method_131_code
abbrev y_M_readOrder : MethodName := ⟨"KiteLoggerModel", "readOrder", "(I)V"⟩
abbrev b_M_does : ByteArray := prog_12_method_132_code
abbrev y_M_does : MethodName := ⟨"KiteLoggerModel", "does", "(I)I"⟩
abbrev b_M_isRepeated : ByteArray := prog_12_method_133_code
abbrev y_M_isRepeated : MethodName := ⟨"KiteLoggerModel", "isRepeated", "(I)Z"⟩
abbrev b_M_areDone : ByteArray := prog_12_method_134_code
abbrev y_M_areDone : MethodName := ⟨"KiteLoggerModel", "areDone", "(II)Z"⟩
abbrev b_M_runScript : ByteArray := prog_12_method_135_code
abbrev y_M_runScript : MethodName := ⟨"KiteLoggerModel", "runScript", "(I)I"⟩
abbrev b_L_loadStation : ByteArray := method_3_code
abbrev y_L_loadStation : MethodName := ⟨"KiteLoggerLaw", "loadStation", "(LKiteLogger;I[J)I"⟩
abbrev b_L_gust : ByteArray := method_4_code
abbrev y_L_gust : MethodName := ⟨"KiteLoggerLaw", "gust", "(LKiteLogger;I[J)I"⟩
abbrev b_L_windAt : ByteArray := method_5_code
abbrev y_L_windAt : MethodName := ⟨"KiteLoggerLaw", "windAt", "(LKiteLogger;I[J)I"⟩
abbrev b_L_loadOf : ByteArray := method_6_code
abbrev y_L_loadOf : MethodName := ⟨"KiteLoggerLaw", "loadOf", "(LKiteLogger;I[J)I"⟩
abbrev b_L_loggedTick : ByteArray := method_7_code
abbrev y_L_loggedTick : MethodName := ⟨"KiteLoggerLaw", "loggedTick", "(LKiteLogger;I[J)I"⟩
abbrev b_L_loggedHeight : ByteArray := method_8_code
abbrev y_L_loggedHeight : MethodName := ⟨"KiteLoggerLaw", "loggedHeight", "(LKiteLogger;I[J)I"⟩
abbrev b_L_loggedGust : ByteArray := method_9_code
abbrev y_L_loggedGust : MethodName := ⟨"KiteLoggerLaw", "loggedGust", "(LKiteLogger;I[J)I"⟩
abbrev b_L_archivedTick : ByteArray := method_10_code
abbrev y_L_archivedTick : MethodName := ⟨"KiteLoggerLaw", "archivedTick", "(LKiteLogger;I[J)I"⟩
abbrev b_L_archivedHeight : ByteArray := method_11_code
abbrev y_L_archivedHeight : MethodName := ⟨"KiteLoggerLaw", "archivedHeight", "(LKiteLogger;I[J)I"⟩
abbrev b_L_archivedGust : ByteArray := method_12_code
abbrev y_L_archivedGust : MethodName := ⟨"KiteLoggerLaw", "archivedGust", "(LKiteLogger;I[J)I"⟩
abbrev b_L_meanGust : ByteArray := method_13_code
abbrev y_L_meanGust : MethodName := ⟨"KiteLoggerLaw", "meanGust", "(LKiteLogger;I[D)I"⟩
abbrev b_L_heightAfter : ByteArray := method_14_code
abbrev y_L_heightAfter : MethodName := ⟨"KiteLoggerLaw", "heightAfter", "(LKiteLogger;I[J)I"⟩
abbrev b_L_launch : ByteArray := method_15_code
abbrev y_L_launch : MethodName := ⟨"KiteLoggerLaw", "launch", "(LKiteLogger;[J)I"⟩
abbrev b_L_payOut : ByteArray := method_16_code
abbrev y_L_payOut : MethodName := ⟨"KiteLoggerLaw", "payOut", "(LKiteLogger;I[J)I"⟩
abbrev b_L_reelIn : ByteArray := method_17_code
abbrev y_L_reelIn : MethodName := ⟨"KiteLoggerLaw", "reelIn", "(LKiteLogger;I[J)I"⟩
abbrev b_L_replaceBridle : ByteArray := method_18_code
abbrev y_L_replaceBridle : MethodName := ⟨"KiteLoggerLaw", "replaceBridle", "(LKiteLogger;II[J)I"⟩
abbrev b_L_setInterval : ByteArray := method_19_code
abbrev y_L_setInterval : MethodName := ⟨"KiteLoggerLaw", "setInterval", "(LKiteLogger;I[J)I"⟩
abbrev b_L_search : ByteArray := method_20_code
abbrev y_L_search : MethodName := ⟨"KiteLoggerLaw", "search", "(LKiteLogger;I[J)I"⟩
abbrev b_L_archive : ByteArray := method_21_code
abbrev y_L_archive : MethodName := ⟨"KiteLoggerLaw", "archive", "(LKiteLogger;[J)I"⟩
abbrev b_L_passTicks : ByteArray := method_22_code
abbrev y_L_passTicks : MethodName := ⟨"KiteLoggerLaw", "passTicks", "(LKiteLogger;I[J)I"⟩
abbrev b_L_runScript : ByteArray := method_23_code
abbrev y_L_runScript : MethodName := ⟨"KiteLoggerLaw", "runScript", "(LKiteLogger;I[J)I"⟩
abbrev b_L_outputByte : ByteArray := method_24_code
abbrev y_L_outputByte : MethodName := ⟨"KiteLoggerLaw", "outputByte", "(LKiteLogger;I[J)I"⟩
abbrev b_L_undo : ByteArray := method_25_code
abbrev y_L_undo : MethodName := ⟨"KiteLoggerLaw", "undo", "(LKiteLogger;[J)I"⟩
abbrev b_L_restoreSnapshot : ByteArray := method_26_code
abbrev y_L_restoreSnapshot : MethodName := ⟨"KiteLoggerLaw", "restoreSnapshot", "(LKiteLogger;[J)I"⟩
end
section
/-! ===== BEGIN exceptions that leave a method, and their catching by the caller (launches without stack traces) ===== -/
section VXA
/-! The laws vx_back, vx_callV, vx_callS, vx_callSW, vx_throw0, vx_throwS follow proofs of the library, with one case more: JvmDerived/Free/Laws.lean (Back.of_free), Shelf42/LK1.lean (callV, callS), Shelf/KitTraced.lean (throwNew0V, throwNewS). -/
/-- where a method has thrown q: the class by its name, the cell, what was written, the world -/
def vx_T (XC : String → State → State → Prop) (st : State) (q : Addr) (t : State) (mc ms : Nat) (free : Addr → Prop) : Prop :=
  ∃ (E : String) (ce : Cell) (L : List Loc), XC E st t ∧ t.heap[q]? = some ce ∧ ce.vm = .none ∧ st.vm.findClass E = some ce.cls ∧ st.WarmedH t.vm ∧ st.sameButNew ({ t with vm := st.vm } : State) L mc ms ∧ ∀ z ∈ L, free z.base
def vx_Q (Qc : Array Value → State → Outcome → State → Prop) (XC : String → State → State → Prop) (mc ms : Nat) (free : Addr → Prop) : Array Value → State → Outcome → State → Prop := fun a st o t =>
  (Qc a st o t ∧ ∃ L, FrameEnd st o t L mc ms ∧ ∀ q ∈ L, free q.base) ∨ ∃ q, o = .threw q ∧ vx_T XC st q t mc ms free
/-- a callee that returns or throws -/
def vx_Met (l : Launch) (y : MethodName) (ws : List Cond) (rm : Room) (Pc : Array Value → State → Prop) (Qc : Array Value → State → Outcome → State → Prop) (XC : String → State → State → Prop) (mc ms : Nat) (free : Addr → Prop) : Prop :=
  MetFree l y (headSpec ws rm) Pc (fun _ _ _ _ _ => True) (vx_Q Qc XC mc ms free)
def vx_Post (XC : String → State → State → Prop) (mc ms : Nat) (free : Addr → Prop) : Pt → Array Value → Addr → Pt → Prop := fun A a q B =>
  ∃ (g : JFrame) (mk : MethodId) (t : State) (L : List Loc) (E : String) (ce : Cell), B.U.heap = t.heap ∧ B.U.vm = t.vm ∧ XC E (A.U.calling g mk a) t ∧ t.heap[q]? = some ce ∧ ce.vm = .none ∧ A.U.vm.findClass E = some ce.cls ∧ B.locs = A.locs ++ L ∧ (∀ z ∈ L, free z.base) ∧ B.cells = A.cells + mc ∧ B.slots = A.slots + ms
def vx_Back (l : Launch) (R : Room) (p : Program) (e : Env) (below : List Frame) (s : State) (sargs : Array Value) (y : MethodName) (len W9 : Nat)
    (Pre : Pt → Array Value → Prop) (Post : Pt → Array Value → Option Value → Pt → Prop) (PostX : Pt → Array Value → Addr → Pt → Prop) : Prop :=
  ∀ (m : MethodId) (meth : Method) (c : Code) (A : Pt) (g : JFrame) (ig : Instr) (mk : MethodId) (a : Array Value),
    Stand p l e R s m sargs below meth c A.U A.locs A.cells A.slots → g.method = m → g.locals.size = c.maxLocals → decode c.code g.pc = .ok (ig, len) →
    2 * g.monitorRoom + (g.stack.map fun v => v.category).sum ≤ W9 → A.U.methodNamed? y = some mk → Pre A a →
    (∃ (v : Option Value) (B : Pt), Stand p l e R s m sargs below meth c B.U B.locs B.cells B.slots ∧ Post A a v B ∧
      Steps p.tables e below (doInvoke e (A.U.setTop g) [] mk a).1 (B.U.setTop { g with pc := g.pc + len, stack := v.toList ++ g.stack })) ∨
    (∃ (q : Addr) (B : Pt), Stand p l e R s m sargs below meth c B.U B.locs B.cells B.slots ∧ PostX A a q B ∧
      Steps p.tables e below (doInvoke e (A.U.setTop g) [] mk a).1 ((B.U.setTop g).pushFrame (.throwing q)))
section Payer
variable {l : Launch} {R : Room} {p : Program} {e : Env} {below : List Frame} {s : State} {sargs : Array Value} {y : MethodName} {len W9 : Nat}
theorem vx_back {ws : List Cond} {rm : Room} {Pc : Array Value → State → Prop} {Qc : Array Value → State → Outcome → State → Prop} {XC : String → State → State → Prop} {mc ms : Nat} {free : Addr → Prop} {bytes : ByteArray} {maxL : Nat} {ret : Option FieldType}
    (hM : vx_Met l y ws rm Pc Qc XC mc ms free) (hblind : FrameBlind Pc) (hrc : rm.cells = mc) (hrs : rm.slots = ms)
    (hframes : rm.frames + 1 ≤ R.frames) (hlocals : W9 + (maxL + 11) + rm.locals ≤ R.locals)
    (hws : ∀ w ∈ ws, ∀ a' U, s.WarmedH U.vm → w.before a' U = true) (hcode : Cond.code y bytes maxL ret ∈ ws) (hinit : ∀ a' U, s.WarmedH U.vm → (Cond.initialized y.cls).before a' U = true) :
    vx_Back l R p e below s sargs y len W9 (PreOf R mc ms Pc) (PostOf Qc mc ms free) (vx_Post XC mc ms free) := by
  intro m meth c A g ig mk a X hg hsize hdg hW hn hp
  have h1 : (headSpec ws rm).pre.before a A.U = true := atoms_intro fun w hw => hws w hw _ _ X.warmed
  have h2 : (Cond.code y bytes maxL ret).before a A.U = true := hws _ hcode _ _ X.warmed
  have h3 : (Cond.initialized y.cls).before a A.U = true := hinit _ _ X.warmed
  have h4 : A.cells + (headSpec ws rm).room.cells ≤ R.cells := by rw [show (headSpec ws rm).room.cells = mc from hrc]; exact hp.1
  have h5 : A.slots + (headSpec ws rm).room.slots ≤ R.slots := by rw [show (headSpec ws rm).room.slots = ms from hrs]; exact hp.2.1
  have hPc : Pc a (A.U.calling g mk a) := hblind _ _ _ _ hp.2.2
  obtain ⟨U, Ls, c0, s0⟩ := A
  dsimp only [Pt.U, Pt.locs, Pt.cells, Pt.slots] at h1 h2 h3 h4 h5 X hn hPc ⊢
  obtain ⟨methY, cY, hmY, hcY, -, hlY, -, -, -, -⟩ := Cond.code_spec hn h2
  obtain ⟨kY, hkY, -⟩ := className_of_methodNamed hn
  have hinitY : kY.init = .initialized := Cond.initialized_spec (findClass_of_methodNamed hn) hkY h3
  have h : At U g.method c below := by rw [hg]; exact X.here
  have hlocals9 : W9 + (maxL + 11) + (headSpec ws rm).room.locals ≤ R.locals := hlocals
  have happ : (headSpec ws rm).appliesLoose y e.platform (U.calling g mk a) = true :=
    Spec.appliesLoose_calling (g := g) h hdg hn hkY hinitY
      (X.room_calling (g := g) (R' := (headSpec ws rm).room) hsize hmY hcY hframes (by rw [hlY]; omega) h4 h5) h1
  obtain ⟨mid, hmid⟩ := h.above
  have hfr : (U.setTop g).frames = (.java g :: mid) ++ below := by rw [State.frames_setTop' g h.top, hmid]; rfl
  obtain ⟨o, s₂, hsteps, -, hend, hq⟩ := Steps.callFree hM p X.admits X.cas X.clock (acts := []) hfr happ hPc trivial
  have hq' : vx_Q Qc XC mc ms free a (U.calling g mk a) o s₂ := hq
  rw [State.frames_setTop' g h.top] at hend
  obtain ⟨g₀, hg0⟩ := Option.isSome_iff_exists.mp h.top
  obtain ⟨r, hr⟩ := State.topJava?_eq_some.mp hg0
  have hr' : (({ U with heap := s₂.heap, slotsUsed := s₂.slotsUsed } : State).setVm s₂.vm).frames = .java g₀ :: r := hr
  rcases hq' with ⟨hqc, L, hfe, hL⟩ | ⟨q, rfl, E, ce, L, hx, hce, hcv, hcl, hW₂, hsm, hL⟩
  · obtain ⟨⟨v, rfl⟩, hW₂, e2, q2, q3, q4, q5, q6⟩ := id hfe
    have e3 : s₂ = ({ (U.calling g mk a).setFrames s₂.frames with heap := s₂.heap, slotsUsed := s₂.slotsUsed } : State).setVm s₂.vm := by
      have : s₂ = ({ s₂ with vm := (U.calling g mk a).vm } : State).setVm s₂.vm := rfl
      rw [e2] at this
      exact this
    obtain ⟨c₂, i₂, len₂, hc₂, hd₂, hf₂⟩ := hend
    have hW' : U.WarmedH s₂.vm := hW₂
    have hcc : c₂ = c := by
      have h1 : s₂.code? g.method = U.code? g.method := by
        rw [State.code?_eq, State.code?_eq, hW'.alike.method?]
      exact Option.some.inj (hc₂.symm.trans (h1.trans h.code))
    subst hcc
    have hlen : len₂ = len := by rw [hdg] at hd₂; cases hd₂; rfl
    subst hlen
    have hs₂ : s₂ = (({ U with heap := s₂.heap, slotsUsed := s₂.slotsUsed } : State).setVm s₂.vm).setTop { g with pc := g.pc + len₂, stack := v.toList ++ g.stack } := by
      refine e3.trans ?_
      rw [hf₂, State.calling_eq h.top, State.setFrames_setFrames, State.setTop_of_frames _ hr', hr]
      rfl
    have hsame : U.sameButNew ({ U with heap := s₂.heap, slotsUsed := s₂.slotsUsed } : State) L mc ms := by
      refine ⟨?_, q2, q3, q4, q5, q6⟩
      obtain ⟨t, ht, -⟩ := State.frames_cons hr
      show ({ U with heap := s₂.heap, slotsUsed := s₂.slotsUsed } : State) = { U.setFrames U.frames with heap := s₂.heap, slotsUsed := s₂.slotsUsed }
      rw [State.setFrames_self ht]
    subst hg
    refine Or.inl ⟨v, ⟨(({ U with heap := s₂.heap, slotsUsed := s₂.slotsUsed } : State).setVm s₂.vm), Ls ++ L, c0 + mc, s0 + ms⟩,
      ⟨X.admits, X.cas, X.clock, X.frames, X.room, X.hears, X.method, X.code, (X.here.setHeapUsed s₂.heap s₂.slotsUsed).setVm hW'.alike, X.tail, State.WarmedH.trans X.warmed hW', X.limits, X.bytes, X.same.trans (hsame.setVm s.vm)⟩,
      ⟨g, mk, s₂, L, rfl, rfl, hqc, rfl, hL, rfl, rfl⟩, ?_⟩
    show Steps p.tables e below _ ((({ U with heap := s₂.heap, slotsUsed := s₂.slotsUsed } : State).setVm s₂.vm).setTop { g with pc := g.pc + len₂, stack := v.toList ++ g.stack })
    rw [← hs₂]
    exact hsteps
  · obtain ⟨e2, q2, q3, q4, q5, q6⟩ := id hsm
    have e3 : s₂ = ({ (U.calling g mk a).setFrames s₂.frames with heap := s₂.heap, slotsUsed := s₂.slotsUsed } : State).setVm s₂.vm := by
      have : s₂ = ({ s₂ with vm := (U.calling g mk a).vm } : State).setVm s₂.vm := rfl
      rw [e2] at this
      exact this
    have hf₂ : s₂.frames = .throwing q :: .java g :: U.frames.tail := hend
    have hW' : U.WarmedH s₂.vm := hW₂
    have hs₂ : s₂ = ((({ U with heap := s₂.heap, slotsUsed := s₂.slotsUsed } : State).setVm s₂.vm).setTop g).pushFrame (.throwing q) := by
      refine e3.trans ?_
      rw [hf₂, State.calling_eq h.top, State.setFrames_setFrames, State.pushFrame, State.frames_setTop _ hr', State.setTop_of_frames _ hr', State.setFrames_setFrames, hr]
      rfl
    have hsame : U.sameButNew ({ U with heap := s₂.heap, slotsUsed := s₂.slotsUsed } : State) L mc ms := by
      refine ⟨?_, q2, q3, q4, q5, q6⟩
      obtain ⟨t, ht, -⟩ := State.frames_cons hr
      show ({ U with heap := s₂.heap, slotsUsed := s₂.slotsUsed } : State) = { U.setFrames U.frames with heap := s₂.heap, slotsUsed := s₂.slotsUsed }
      rw [State.setFrames_self ht]
    subst hg
    refine Or.inr ⟨q, ⟨(({ U with heap := s₂.heap, slotsUsed := s₂.slotsUsed } : State).setVm s₂.vm), Ls ++ L, c0 + mc, s0 + ms⟩,
      ⟨X.admits, X.cas, X.clock, X.frames, X.room, X.hears, X.method, X.code, (X.here.setHeapUsed s₂.heap s₂.slotsUsed).setVm hW'.alike, X.tail, State.WarmedH.trans X.warmed hW', X.limits, X.bytes, X.same.trans (hsame.setVm s.vm)⟩,
      ⟨g, mk, s₂, L, E, ce, rfl, rfl, hx, hce, hcv, hcl, rfl, hL, rfl, rfl⟩, ?_⟩
    show Steps p.tables e below _ (((({ U with heap := s₂.heap, slotsUsed := s₂.slotsUsed } : State).setVm s₂.vm).setTop g).pushFrame (.throwing q))
    rw [← hs₂]
    exact hsteps
end Payer
section Calls
variable {p : Program} {l : Launch} {e : Env} {R : Room} {s : State} {m : MethodId} {args : Array Value} {below : List Frame} {meth : Method} {c : Code} {T : State} {locs : List Loc} {cells slots : Nat}
theorem vx_callV (X : Stand p l e R s m args below meth c T locs cells slots) (hexec : p.tables.exec = Jvm.exec) {own C : String} {index : Nat} {y : MethodName} {bytes : ByteArray} {maxL : Nat} {ret : Option FieldType}
    (hown : s.vm.findClass own = some m.cls) (hlink : (Cond.methodLink own index y).before args s = true) (hinst : (Cond.instanceMethod y).before args s = true) (hsel : (Cond.selects C y y).before args s = true)
    (hcode : (Cond.code y bytes maxL ret).before args s = true) (hy : y.cls ≠ "java/lang/invoke/MethodHandle" ∧ y.cls ≠ "java/lang/invoke/VarHandle")
    {W9 : Nat} {Pre : Pt → Array Value → Prop} {Post : Pt → Array Value → Option Value → Pt → Prop} {PostX : Pt → Array Value → Addr → Pt → Prop} (hK : vx_Back l R p e below s args y 3 W9 Pre Post PostX)
    {b : Addr} {cellB : Cell} (hcell : T.heap[b]? = some cellB) (hobj : cellB.vm.isStatics = false) (hcls : s.vm.findClass C = some cellB.cls)
    {g : JFrame} (hg : g.method = m) (hsize : g.locals.size = c.maxLocals) {argsL rest : List Value} (hlen : ∀ sig, parseMethodDescriptor y.desc = some sig → argsL.length = sig.parameters.length)
    (hstack : g.stack = argsL.reverse ++ .ref b :: rest) (hW : 2 * g.monitorRoom + (rest.map fun v => v.category).sum ≤ W9) (hdg : decode c.code g.pc = .ok (.invokevirtual index, 3))
    (hpre : ∀ vm₁, s.WarmedH vm₁ → Pre ⟨T.setVm vm₁, locs, cells, slots⟩ (Value.ref b :: argsL).toArray) :
    (∃ (v : Option Value) (vm₁ : Vm) (B : Pt), s.WarmedH vm₁ ∧ Stand p l e R s m args below meth c B.U B.locs B.cells B.slots ∧ Post ⟨T.setVm vm₁, locs, cells, slots⟩ (Value.ref b :: argsL).toArray v B ∧
      ∀ target, Steps p.tables e below (B.U.setTop { g with pc := g.pc + 3, stack := v.toList ++ rest }) target → Steps p.tables e below (T.setTop g) target) ∨
    (∃ (q : Addr) (vm₁ : Vm) (B : Pt), s.WarmedH vm₁ ∧ Stand p l e R s m args below meth c B.U B.locs B.cells B.slots ∧ PostX ⟨T.setVm vm₁, locs, cells, slots⟩ (Value.ref b :: argsL).toArray q B ∧
      Steps p.tables e below (T.setTop g) ((B.U.setTop { g with stack := rest }).pushFrame (.throwing q))) := by
  obtain ⟨mk, methM, hnamed, hmethM, hstM, habM⟩ := Cond.instanceMethod_spec hinst
  obtain ⟨methM', cM, hmethM', -, -, -, -, -, -, hsigM⟩ := Cond.code_spec hnamed hcode
  cases hmethM.symm.trans hmethM'
  obtain ⟨c2, r2, m2, q1, q2, q3, q4, kP, hkP, hkPi⟩ := Cond.selects_spec hsel
  cases hcls.symm.trans q1
  cases (State.methodFound?_of_named hnamed hy).symm.trans q2
  cases hnamed.symm.trans q3
  have hselP : selectMethod e.platform s.vm cellB.cls mk = .method mk := by rw [Launch.admits_selectMethod X.admits]; exact q4
  obtain ⟨vm₁, X₁, hstep₁⟩ := X.invokevirtual hexec hown hlink hnamed hmethM hstM hkP hkPi hy (a := b) (cell := cellB) hcell
    (fun z h => by rw [h] at hobj; cases hobj) hselP hmethM habM hkP hkPi (g := g) hg (argsL := argsL) (rest := rest) (hlen _ hsigM) hstack hdg
  rcases hK m meth c ⟨T.setVm vm₁, locs, cells, slots⟩ { g with stack := rest } (.invokevirtual index) mk (Value.ref b :: argsL).toArray X₁ hg hsize hdg hW (X₁.named hnamed) (hpre vm₁ X₁.warmed) with ⟨v, B, X', hpost, hsteps⟩ | ⟨q, B, X', hpost, hsteps⟩
  · exact Or.inl ⟨v, vm₁, B, X₁.warmed, X', hpost, fun target h => hstep₁ _ fun acts => by rw [doInvoke_state]; exact hsteps.trans h⟩
  · exact Or.inr ⟨q, vm₁, B, X₁.warmed, X', hpost, hstep₁ _ fun acts => by rw [doInvoke_state]; exact hsteps⟩
theorem vx_callS (X : Stand p l e R s m args below meth c T locs cells slots) (hexec : p.tables.exec = Jvm.exec) {own : String} {index : Nat} {y : MethodName} {bytes : ByteArray} {maxL : Nat} {ret : Option FieldType}
    (hown : s.vm.findClass own = some m.cls) (hlink : (Cond.methodLink own index y).before args s = true) (hstat : (Cond.static y).before args s = true) (hinit : (Cond.initialized y.cls).before args s = true)
    (hcode : (Cond.code y bytes maxL ret).before args s = true) (hy : y.cls ≠ "java/lang/invoke/MethodHandle" ∧ y.cls ≠ "java/lang/invoke/VarHandle")
    {W9 : Nat} {Pre : Pt → Array Value → Prop} {Post : Pt → Array Value → Option Value → Pt → Prop} {PostX : Pt → Array Value → Addr → Pt → Prop} (hK : vx_Back l R p e below s args y 3 W9 Pre Post PostX)
    {g : JFrame} (hg : g.method = m) (hsize : g.locals.size = c.maxLocals) {argsL rest : List Value} (hlen : ∀ sig, parseMethodDescriptor y.desc = some sig → argsL.length = sig.parameters.length)
    (hstack : g.stack = argsL.reverse ++ rest) (hW : 2 * g.monitorRoom + (rest.map fun v => v.category).sum ≤ W9) (hdg : decode c.code g.pc = .ok (.invokestatic index, 3))
    (hpre : ∀ vm₁, s.WarmedH vm₁ → Pre ⟨T.setVm vm₁, locs, cells, slots⟩ argsL.toArray) :
    (∃ (v : Option Value) (vm₁ : Vm) (B : Pt), s.WarmedH vm₁ ∧ Stand p l e R s m args below meth c B.U B.locs B.cells B.slots ∧ Post ⟨T.setVm vm₁, locs, cells, slots⟩ argsL.toArray v B ∧
      ∀ target, Steps p.tables e below (B.U.setTop { g with pc := g.pc + 3, stack := v.toList ++ rest }) target → Steps p.tables e below (T.setTop g) target) ∨
    (∃ (q : Addr) (vm₁ : Vm) (B : Pt), s.WarmedH vm₁ ∧ Stand p l e R s m args below meth c B.U B.locs B.cells B.slots ∧ PostX ⟨T.setVm vm₁, locs, cells, slots⟩ argsL.toArray q B ∧
      Steps p.tables e below (T.setTop g) ((B.U.setTop { g with stack := rest }).pushFrame (.throwing q))) := by
  obtain ⟨mk, hnamed⟩ := Cond.code_named hcode
  obtain ⟨methM, cM, hmethM, -, -, -, -, -, -, hsigM⟩ := Cond.code_spec hnamed hcode
  have hstatic : methM.isStatic = true := Cond.static_spec hnamed hmethM hstat
  obtain ⟨kP, hkP, -⟩ := className_of_methodNamed hnamed
  have hinitP : kP.init = .initialized := Cond.initialized_spec (findClass_of_methodNamed hnamed) hkP hinit
  obtain ⟨vm₁, X₁, hstep₁⟩ := X.invokestatic hexec hown hlink hnamed hmethM hstatic hkP hinitP hy (g := g) hg (argsL := argsL) (rest := rest) (hlen _ hsigM) hstack hdg
  rcases hK m meth c ⟨T.setVm vm₁, locs, cells, slots⟩ { g with stack := rest } (.invokestatic index) mk argsL.toArray X₁ hg hsize hdg hW (X₁.named hnamed) (hpre vm₁ X₁.warmed) with ⟨v, B, X', hpost, hsteps⟩ | ⟨q, B, X', hpost, hsteps⟩
  · exact Or.inl ⟨v, vm₁, B, X₁.warmed, X', hpost, fun target h => hstep₁ _ fun acts => by rw [doInvoke_state]; exact hsteps.trans h⟩
  · exact Or.inr ⟨q, vm₁, B, X₁.warmed, X', hpost, hstep₁ _ fun acts => by rw [doInvoke_state]; exact hsteps⟩
end Calls
theorem vx_cls {s : State} {T : State} {vm₁ : Vm} {E : String} {k : ClassId} (hW : s.WarmedH vm₁) (h : (T.setVm vm₁).vm.findClass E = some k) : s.vm.findClass E = some k := by
  have h1 : vm₁.findClass E = some k := h
  rw [hW.alike.findClass] at h1
  exact h1
/-- the method's frame g, with q thrown over it -/
def vx_W (p : Program) (l : Launch) (e : Env) (R : Room) (s : State) (m : MethodId) (args : Array Value) (below : List Frame) (meth : Method) (c : Code) (H : Heap) (locs : List Loc) (cells slots : Nat) (Q : State → Prop) (g : JFrame) (q : Addr) : Prop :=
  ∀ T : State, T.heap = H → Stand p l e R s m args below meth c T locs cells slots → ∃ t, Steps p.tables e below ((T.setTop g).pushFrame (.throwing q)) t ∧ Q t
def vx_Run (p : Program) (l : Launch) (e : Env) (R : Room) (s : State) (m : MethodId) (args : Array Value) (below : List Frame) (meth : Method) (c : Code) (H : Heap) (locs : List Loc) (cells slots mc ms : Nat) (g : JFrame) (rest : List Value) (Qa : State → Outcome → State → Prop) (XC : String → State → State → Prop) (free : Addr → Prop) : Prop :=
  ∀ T : State, T.heap = H → Stand p l e R s m args below meth c T locs cells slots →
    (∃ (v : Option Value) (st₀ t T' : State) (L : List Loc), st₀.heap = H ∧ Stand p l e R s m args below meth c T' (locs ++ L) (cells + mc) (slots + ms) ∧ (∀ q ∈ L, free q.base) ∧ T'.heap = t.heap ∧ T'.vm = t.vm ∧ Qa st₀ (.returned v) t ∧
      Goes p e below T g T' { g with pc := g.pc + 3, stack := v.toList ++ rest }) ∨
    (∃ (q : Addr) (st₀ t T' : State) (L : List Loc) (E : String) (ce : Cell), st₀.heap = H ∧ Stand p l e R s m args below meth c T' (locs ++ L) (cells + mc) (slots + ms) ∧ (∀ z ∈ L, free z.base) ∧ T'.heap = t.heap ∧ T'.vm = t.vm ∧ XC E st₀ t ∧ t.heap[q]? = some ce ∧ ce.vm = .none ∧ s.vm.findClass E = some ce.cls ∧
      Steps p.tables e below (T.setTop g) ((T'.setTop { g with stack := rest }).pushFrame (.throwing q)))
def vx_X {S : Type} (px : S → Prop) (B : String → S → State → Prop) (A : Nat → Prop) : String → State → State → Prop := fun E st t => ∃ u : S, px u ∧ B E u t ∧ va_F A st t
section Runs
variable {p : Program} {l : Launch} {e : Env} {R : Room} {s : State} {m : MethodId} {args : Array Value} {below : List Frame} {meth : Method} {c : Code} {H : Heap} {locs : List Loc} {cells slots : Nat}
variable {y : MethodName} {bytes cc : ByteArray} {maxL nL mc ms n index : Nat} {ret : Option FieldType} {ws : List Cond} {rm : Room} {Pc : Array Value → State → Prop} {Qc : Array Value → State → Outcome → State → Prop} {XC : String → State → State → Prop} {free : Addr → Prop} {Ts : List Cond} {own C : String} {b : Addr} {As rest : List Value} {g : JFrame}
theorem vx_callBack (cb : CallB R s args own index y bytes maxL ret ws rm mc ms n) (hM : vx_Met l y ws rm Pc Qc XC mc ms free) (hbl : FrameBlind Pc) : vx_Back l R p e below s args y 3 8 (PreOf R mc ms Pc) (PostOf Qc mc ms free) (vx_Post XC mc ms free) := by
  obtain ⟨hrc, hrs, hfr, hlo, hws, hcw, -, hini, -⟩ := cb
  exact vx_back (bytes := bytes) (maxL := maxL) (ret := ret) hM hbl hrc hrs hfr hlo hws hcw (fun a' U hW => word_at hW (Or.inl (by first | rfl | simp [Cond.onTables, Cond.keeps, Cond.steady])) hini)
theorem vx_runV (S : CallFix p m c cc nL s args Ts own) (hM : vx_Met l y ws rm Pc Qc XC mc ms free) (cw : CallW R s args own C index y bytes maxL ret ws rm mc ms n) (hp : PreV s H C b Pc As)
    (hg : g.method = m) (hn : As.length = n) (hsize : g.locals.size = nL) (hstack : g.stack = As.reverse ++ .ref b :: rest) (hW : 2 * g.monitorRoom + (rest.map fun v => v.category).sum ≤ 8) (hdg : decode cc g.pc = .ok (.invokevirtual index, 3)) (hf : cells + mc ≤ R.cells ∧ slots + ms ≤ R.slots) :
    vx_Run p l e R s m args below meth c H locs cells slots mc ms g rest (Qc (Value.ref b :: As).toArray) XC free := by
  have hK : vx_Back l R p e below s args y 3 8 (PreOf R mc ms Pc) (PostOf Qc mc ms free) (vx_Post XC mc ms free) := vx_callBack cw.1 hM hp.1
  obtain ⟨⟨-, -, -, -, -, -, hcode, -, hy, hlen, hl⟩, hin, hse⟩ := cw
  obtain ⟨hx, hb, hml, ho, -⟩ := S
  obtain ⟨-, ⟨cellB, hcB, hoB, hclB⟩, hPc⟩ := hp
  intro T hT X
  rcases vx_callV X hx (C := C) (bytes := bytes) (maxL := maxL) (ret := ret) ho hl hin hse hcode hy hK (by rw [hT]; exact hcB) hoB hclB hg (hsize.trans hml.symm) (argsL := As) (rest := rest) (fun sig h => hn.trans (hlen sig h)) hstack hW (by rw [hb]; exact hdg)
    (fun vm₁ hW₁ => ⟨hf.1, hf.2, hPc (T.setVm vm₁) hT hW₁⟩) with ⟨v, vm₁, ⟨U', l2, c2, s2⟩, hW₁, X', ⟨g', mk, t, L, e1, e2, hq, h1, hL, h2, h3⟩, st⟩ | ⟨q, vm₁, ⟨U', l2, c2, s2⟩, hW₁, X', ⟨g', mk, t, L, E, ce, e1, e2, hq, hce, hcv, hcl, h1, hL, h2, h3⟩, st⟩
  · dsimp only [Pt.U, Pt.locs, Pt.cells, Pt.slots] at X' e1 e2 h1 h2 h3 st
    subst h1; subst h2; subst h3
    exact Or.inl ⟨v, (T.setVm vm₁).calling g' mk (Value.ref b :: As).toArray, t, U', L, hT, X', hL, e1, e2, hq, st⟩
  · dsimp only [Pt.U, Pt.locs, Pt.cells, Pt.slots] at X' e1 e2 h1 h2 h3 st hcl
    subst h1; subst h2; subst h3
    exact Or.inr ⟨q, (T.setVm vm₁).calling g' mk (Value.ref b :: As).toArray, t, U', L, E, ce, hT, X', hL, e1, e2, hq, hce, hcv, vx_cls hW₁ hcl, st⟩
theorem vx_runS (S : CallFix p m c cc nL s args Ts own) (hM : vx_Met l y ws rm Pc Qc XC mc ms free) (cw : CallB R s args own index y bytes maxL ret ws rm mc ms n ∧ (Cond.static y).before args s = true) (hp : PreS s H Pc As)
    (hg : g.method = m) (hn : As.length = n) (hsize : g.locals.size = nL) (hstack : g.stack = As.reverse ++ rest) (hW : 2 * g.monitorRoom + (rest.map fun v => v.category).sum ≤ 8) (hdg : decode cc g.pc = .ok (.invokestatic index, 3)) (hf : cells + mc ≤ R.cells ∧ slots + ms ≤ R.slots) :
    vx_Run p l e R s m args below meth c H locs cells slots mc ms g rest (Qc As.toArray) XC free := by
  have hK : vx_Back l R p e below s args y 3 8 (PreOf R mc ms Pc) (PostOf Qc mc ms free) (vx_Post XC mc ms free) := vx_callBack cw.1 hM hp.1
  obtain ⟨⟨-, -, -, -, -, -, hcode, hini, hy, hlen, hl⟩, hstt⟩ := cw
  obtain ⟨hx, hb, hml, ho, -⟩ := S
  intro T hT X
  rcases vx_callS X hx (bytes := bytes) (maxL := maxL) (ret := ret) ho hl hstt hini hcode hy hK hg (hsize.trans hml.symm) (argsL := As) (rest := rest) (fun sig h => hn.trans (hlen sig h)) hstack hW (by rw [hb]; exact hdg)
    (fun vm₁ hW₁ => ⟨hf.1, hf.2, hp.2 (T.setVm vm₁) hT hW₁⟩) with ⟨v, vm₁, ⟨U', l2, c2, s2⟩, hW₁, X', ⟨g', mk, t, L, e1, e2, hq, h1, hL, h2, h3⟩, st⟩ | ⟨q, vm₁, ⟨U', l2, c2, s2⟩, hW₁, X', ⟨g', mk, t, L, E, ce, e1, e2, hq, hce, hcv, hcl, h1, hL, h2, h3⟩, st⟩
  · dsimp only [Pt.U, Pt.locs, Pt.cells, Pt.slots] at X' e1 e2 h1 h2 h3 st
    subst h1; subst h2; subst h3
    exact Or.inl ⟨v, (T.setVm vm₁).calling g' mk As.toArray, t, U', L, hT, X', hL, e1, e2, hq, st⟩
  · dsimp only [Pt.U, Pt.locs, Pt.cells, Pt.slots] at X' e1 e2 h1 h2 h3 st hcl
    subst h1; subst h2; subst h3
    exact Or.inr ⟨q, (T.setVm vm₁).calling g' mk As.toArray, t, U', L, E, ce, hT, X', hL, e1, e2, hq, hce, hcv, vx_cls hW₁ hcl, st⟩
end Runs
section Rows
variable {p : Program} {l : Launch} {e : Env} {R : Room} {s : State} {m : MethodId} {args : Array Value} {below : List Frame} {meth : Method} {c : Code} {H : Heap} {locs : List Loc} {cells slots : Nat} {Q : State → Prop}
variable {mc ms : Nat} {free : Addr → Prop} {A0 A1 : Nat → Prop} {H0 : Heap} {a : Array Value} {pc : Nat} {ls : Array Slot} {st0 rest : List Value}
theorem vx_keep {st₀ t T' : State} {L : List Loc} (h0 : st₀.heap = H) (e1 : T'.heap = t.heap) (hS : va_S A0 H0 H locs) (hA : ∀ q, q < H.size → A1 q → A0 q) (hf : ∀ q, free q → A0 q) (hL : ∀ q ∈ L, free q.base) (hF : va_F A1 st₀ t) :
    H.size ≤ T'.heap.size ∧ (∀ q : Nat, q < H.size → ¬ A1 q → T'.heap[q]? = H[q]?) ∧ va_S A0 H0 T'.heap (locs ++ L) := by
  obtain ⟨hz, hk⟩ := hF
  rw [h0] at hz hk
  exact ⟨by rw [e1]; exact hz, fun q h1 h2 => by rw [e1]; exact hk q h1 h2,
    ⟨Nat.le_trans hS.1 (by rw [e1]; exact hz), fun q h1 h2 => by rw [e1, hk q (Nat.lt_of_lt_of_le h1 hS.1) (fun z => h2 (hA q (Nat.lt_of_lt_of_le h1 hS.1) z))]; exact hS.2.1 q h1 h2, fun q hq => by
      rcases List.mem_append.mp hq with h | h
      · exact hS.2.2 q h
      · exact hf _ (hL q h)⟩⟩
theorem vx_calli {S SX : Type} {post : Int32 → S → Prop} {px : SX → Prop} {B : S → State → Prop} {BX : String → SX → State → Prop} {AX : Nat → Prop} (hr : vx_Run p l e R s m args below meth c H locs cells slots mc ms (F0 m pc ls st0) rest (va_Qi post B A1 a) (vx_X px BX AX) free) (hS : va_S A0 H0 H locs) (hA : ∀ q, q < H.size → A1 q → A0 q) (hf : ∀ q, free q → A0 q) (hAX : ∀ q, q < H.size → AX q → A0 q)
    (kx : ∀ (E : String) (ce : Cell) (q9 : Addr) (u : SX) (t : State) (H1 : Heap) (locs1 : List Loc), t.heap = H1 → s.vm.Alike t.vm → px u → BX E u t → H.size ≤ H1.size → (∀ q : Nat, q < H.size → ¬ AX q → H1[q]? = H[q]?) → va_S A0 H0 H1 locs1 → H1[q9]? = some ce → ce.vm = .none → s.vm.findClass E = some ce.cls → vx_W p l e R s m args below meth c H1 locs1 (cells + mc) (slots + ms) Q (F0 m pc ls rest) q9)
    (kk : ∀ (r : Int32) (u : S) (t : State) (H1 : Heap) (locs1 : List Loc), t.heap = H1 → s.vm.Alike t.vm → post r u → B u t → H.size ≤ H1.size → (∀ q : Nat, q < H.size → ¬ A1 q → H1[q]? = H[q]?) → va_S A0 H0 H1 locs1 → W p l e R s m args below meth c H1 locs1 (cells + mc) (slots + ms) Q (F0 m (pc + 3) ls (.int r :: rest))) : W p l e R s m args below meth c H locs cells slots Q (F0 m pc ls st0) := by
  intro T hT X
  rcases hr T hT X with ⟨v, st₀, t, T', L, h0, X', hL, e1, e2, ⟨⟨r, u, hv, hp, hb⟩, hF⟩, st⟩ | ⟨q, st₀, t, T', L, E, ce, h0, X', hL, e1, e2, ⟨u, hp, hb, hF⟩, hce, hcv, hcl, st⟩
  · cases hv
    obtain ⟨k1, k2, k3⟩ := vx_keep h0 e1 hS hA hf hL hF
    obtain ⟨t2, a1, b1⟩ := kk r u t T'.heap (locs ++ L) e1.symm (by rw [← e2]; exact X'.warmed.alike) hp hb k1 k2 k3 T' rfl X'
    exact ⟨t2, st t2 a1, b1⟩
  · obtain ⟨k1, k2, k3⟩ := vx_keep h0 e1 hS hAX hf hL hF
    obtain ⟨t2, a1, b1⟩ := kx E ce q u t T'.heap (locs ++ L) e1.symm (by rw [← e2]; exact X'.warmed.alike) hp hb k1 k2 k3 (by rw [e1]; exact hce) hcv hcl T' rfl X'
    exact ⟨t2, st.trans a1, b1⟩
theorem vx_calll {S SX : Type} {post : Int64 → S → Prop} {px : SX → Prop} {B : S → State → Prop} {BX : String → SX → State → Prop} {AX : Nat → Prop} (hr : vx_Run p l e R s m args below meth c H locs cells slots mc ms (F0 m pc ls st0) rest (va_Ql post B A1 a) (vx_X px BX AX) free) (hS : va_S A0 H0 H locs) (hA : ∀ q, q < H.size → A1 q → A0 q) (hf : ∀ q, free q → A0 q) (hAX : ∀ q, q < H.size → AX q → A0 q)
    (kx : ∀ (E : String) (ce : Cell) (q9 : Addr) (u : SX) (t : State) (H1 : Heap) (locs1 : List Loc), t.heap = H1 → s.vm.Alike t.vm → px u → BX E u t → H.size ≤ H1.size → (∀ q : Nat, q < H.size → ¬ AX q → H1[q]? = H[q]?) → va_S A0 H0 H1 locs1 → H1[q9]? = some ce → ce.vm = .none → s.vm.findClass E = some ce.cls → vx_W p l e R s m args below meth c H1 locs1 (cells + mc) (slots + ms) Q (F0 m pc ls rest) q9)
    (kk : ∀ (r : Int64) (u : S) (t : State) (H1 : Heap) (locs1 : List Loc), t.heap = H1 → s.vm.Alike t.vm → post r u → B u t → H.size ≤ H1.size → (∀ q : Nat, q < H.size → ¬ A1 q → H1[q]? = H[q]?) → va_S A0 H0 H1 locs1 → W p l e R s m args below meth c H1 locs1 (cells + mc) (slots + ms) Q (F0 m (pc + 3) ls (.long r :: rest))) : W p l e R s m args below meth c H locs cells slots Q (F0 m pc ls st0) := by
  intro T hT X
  rcases hr T hT X with ⟨v, st₀, t, T', L, h0, X', hL, e1, e2, ⟨⟨r, u, hv, hp, hb⟩, hF⟩, st⟩ | ⟨q, st₀, t, T', L, E, ce, h0, X', hL, e1, e2, ⟨u, hp, hb, hF⟩, hce, hcv, hcl, st⟩
  · cases hv
    obtain ⟨k1, k2, k3⟩ := vx_keep h0 e1 hS hA hf hL hF
    obtain ⟨t2, a1, b1⟩ := kk r u t T'.heap (locs ++ L) e1.symm (by rw [← e2]; exact X'.warmed.alike) hp hb k1 k2 k3 T' rfl X'
    exact ⟨t2, st t2 a1, b1⟩
  · obtain ⟨k1, k2, k3⟩ := vx_keep h0 e1 hS hAX hf hL hF
    obtain ⟨t2, a1, b1⟩ := kx E ce q u t T'.heap (locs ++ L) e1.symm (by rw [← e2]; exact X'.warmed.alike) hp hb k1 k2 k3 (by rw [e1]; exact hce) hcv hcl T' rfl X'
    exact ⟨t2, st.trans a1, b1⟩
theorem vx_callf {S SX : Type} {post : UInt32 → S → Prop} {px : SX → Prop} {B : S → State → Prop} {BX : String → SX → State → Prop} {AX : Nat → Prop} (hr : vx_Run p l e R s m args below meth c H locs cells slots mc ms (F0 m pc ls st0) rest (va_Qf post B A1 a) (vx_X px BX AX) free) (hS : va_S A0 H0 H locs) (hA : ∀ q, q < H.size → A1 q → A0 q) (hf : ∀ q, free q → A0 q) (hAX : ∀ q, q < H.size → AX q → A0 q)
    (kx : ∀ (E : String) (ce : Cell) (q9 : Addr) (u : SX) (t : State) (H1 : Heap) (locs1 : List Loc), t.heap = H1 → s.vm.Alike t.vm → px u → BX E u t → H.size ≤ H1.size → (∀ q : Nat, q < H.size → ¬ AX q → H1[q]? = H[q]?) → va_S A0 H0 H1 locs1 → H1[q9]? = some ce → ce.vm = .none → s.vm.findClass E = some ce.cls → vx_W p l e R s m args below meth c H1 locs1 (cells + mc) (slots + ms) Q (F0 m pc ls rest) q9)
    (kk : ∀ (r : UInt32) (u : S) (t : State) (H1 : Heap) (locs1 : List Loc), t.heap = H1 → s.vm.Alike t.vm → post r u → B u t → H.size ≤ H1.size → (∀ q : Nat, q < H.size → ¬ A1 q → H1[q]? = H[q]?) → va_S A0 H0 H1 locs1 → W p l e R s m args below meth c H1 locs1 (cells + mc) (slots + ms) Q (F0 m (pc + 3) ls (.float r :: rest))) : W p l e R s m args below meth c H locs cells slots Q (F0 m pc ls st0) := by
  intro T hT X
  rcases hr T hT X with ⟨v, st₀, t, T', L, h0, X', hL, e1, e2, ⟨⟨r, u, hv, hp, hb⟩, hF⟩, st⟩ | ⟨q, st₀, t, T', L, E, ce, h0, X', hL, e1, e2, ⟨u, hp, hb, hF⟩, hce, hcv, hcl, st⟩
  · cases hv
    obtain ⟨k1, k2, k3⟩ := vx_keep h0 e1 hS hA hf hL hF
    obtain ⟨t2, a1, b1⟩ := kk r u t T'.heap (locs ++ L) e1.symm (by rw [← e2]; exact X'.warmed.alike) hp hb k1 k2 k3 T' rfl X'
    exact ⟨t2, st t2 a1, b1⟩
  · obtain ⟨k1, k2, k3⟩ := vx_keep h0 e1 hS hAX hf hL hF
    obtain ⟨t2, a1, b1⟩ := kx E ce q u t T'.heap (locs ++ L) e1.symm (by rw [← e2]; exact X'.warmed.alike) hp hb k1 k2 k3 (by rw [e1]; exact hce) hcv hcl T' rfl X'
    exact ⟨t2, st.trans a1, b1⟩
theorem vx_calld {S SX : Type} {post : UInt64 → S → Prop} {px : SX → Prop} {B : S → State → Prop} {BX : String → SX → State → Prop} {AX : Nat → Prop} (hr : vx_Run p l e R s m args below meth c H locs cells slots mc ms (F0 m pc ls st0) rest (va_Qd post B A1 a) (vx_X px BX AX) free) (hS : va_S A0 H0 H locs) (hA : ∀ q, q < H.size → A1 q → A0 q) (hf : ∀ q, free q → A0 q) (hAX : ∀ q, q < H.size → AX q → A0 q)
    (kx : ∀ (E : String) (ce : Cell) (q9 : Addr) (u : SX) (t : State) (H1 : Heap) (locs1 : List Loc), t.heap = H1 → s.vm.Alike t.vm → px u → BX E u t → H.size ≤ H1.size → (∀ q : Nat, q < H.size → ¬ AX q → H1[q]? = H[q]?) → va_S A0 H0 H1 locs1 → H1[q9]? = some ce → ce.vm = .none → s.vm.findClass E = some ce.cls → vx_W p l e R s m args below meth c H1 locs1 (cells + mc) (slots + ms) Q (F0 m pc ls rest) q9)
    (kk : ∀ (r : UInt64) (u : S) (t : State) (H1 : Heap) (locs1 : List Loc), t.heap = H1 → s.vm.Alike t.vm → post r u → B u t → H.size ≤ H1.size → (∀ q : Nat, q < H.size → ¬ A1 q → H1[q]? = H[q]?) → va_S A0 H0 H1 locs1 → W p l e R s m args below meth c H1 locs1 (cells + mc) (slots + ms) Q (F0 m (pc + 3) ls (.double r :: rest))) : W p l e R s m args below meth c H locs cells slots Q (F0 m pc ls st0) := by
  intro T hT X
  rcases hr T hT X with ⟨v, st₀, t, T', L, h0, X', hL, e1, e2, ⟨⟨r, u, hv, hp, hb⟩, hF⟩, st⟩ | ⟨q, st₀, t, T', L, E, ce, h0, X', hL, e1, e2, ⟨u, hp, hb, hF⟩, hce, hcv, hcl, st⟩
  · cases hv
    obtain ⟨k1, k2, k3⟩ := vx_keep h0 e1 hS hA hf hL hF
    obtain ⟨t2, a1, b1⟩ := kk r u t T'.heap (locs ++ L) e1.symm (by rw [← e2]; exact X'.warmed.alike) hp hb k1 k2 k3 T' rfl X'
    exact ⟨t2, st t2 a1, b1⟩
  · obtain ⟨k1, k2, k3⟩ := vx_keep h0 e1 hS hAX hf hL hF
    obtain ⟨t2, a1, b1⟩ := kx E ce q u t T'.heap (locs ++ L) e1.symm (by rw [← e2]; exact X'.warmed.alike) hp hb k1 k2 k3 (by rw [e1]; exact hce) hcv hcl T' rfl X'
    exact ⟨t2, st.trans a1, b1⟩
theorem vx_callv {S SX : Type} {post : S → Prop} {px : SX → Prop} {B : S → State → Prop} {BX : String → SX → State → Prop} {AX : Nat → Prop} (hr : vx_Run p l e R s m args below meth c H locs cells slots mc ms (F0 m pc ls st0) rest (va_Qv post B A1 a) (vx_X px BX AX) free) (hS : va_S A0 H0 H locs) (hA : ∀ q, q < H.size → A1 q → A0 q) (hf : ∀ q, free q → A0 q) (hAX : ∀ q, q < H.size → AX q → A0 q)
    (kx : ∀ (E : String) (ce : Cell) (q9 : Addr) (u : SX) (t : State) (H1 : Heap) (locs1 : List Loc), t.heap = H1 → s.vm.Alike t.vm → px u → BX E u t → H.size ≤ H1.size → (∀ q : Nat, q < H.size → ¬ AX q → H1[q]? = H[q]?) → va_S A0 H0 H1 locs1 → H1[q9]? = some ce → ce.vm = .none → s.vm.findClass E = some ce.cls → vx_W p l e R s m args below meth c H1 locs1 (cells + mc) (slots + ms) Q (F0 m pc ls rest) q9)
    (kk : ∀ (u : S) (t : State) (H1 : Heap) (locs1 : List Loc), t.heap = H1 → s.vm.Alike t.vm → post u → B u t → H.size ≤ H1.size → (∀ q : Nat, q < H.size → ¬ A1 q → H1[q]? = H[q]?) → va_S A0 H0 H1 locs1 → W p l e R s m args below meth c H1 locs1 (cells + mc) (slots + ms) Q (F0 m (pc + 3) ls (rest))) : W p l e R s m args below meth c H locs cells slots Q (F0 m pc ls st0) := by
  intro T hT X
  rcases hr T hT X with ⟨v, st₀, t, T', L, h0, X', hL, e1, e2, ⟨⟨u, hv, hp, hb⟩, hF⟩, st⟩ | ⟨q, st₀, t, T', L, E, ce, h0, X', hL, e1, e2, ⟨u, hp, hb, hF⟩, hce, hcv, hcl, st⟩
  · cases hv
    obtain ⟨k1, k2, k3⟩ := vx_keep h0 e1 hS hA hf hL hF
    obtain ⟨t2, a1, b1⟩ := kk u t T'.heap (locs ++ L) e1.symm (by rw [← e2]; exact X'.warmed.alike) hp hb k1 k2 k3 T' rfl X'
    exact ⟨t2, st t2 a1, b1⟩
  · obtain ⟨k1, k2, k3⟩ := vx_keep h0 e1 hS hAX hf hL hF
    obtain ⟨t2, a1, b1⟩ := kx E ce q u t T'.heap (locs ++ L) e1.symm (by rw [← e2]; exact X'.warmed.alike) hp hb k1 k2 k3 (by rw [e1]; exact hce) hcv hcl T' rfl X'
    exact ⟨t2, st.trans a1, b1⟩
/-- caught by the row x of this method's table; the rows ahead don't take it -/
theorem vx_catch {own name : String} {E : String} {ce : Cell} {q : Addr} (hown : s.vm.findClass own = some m.cls) (pre : List ExceptionTableEntry) (x : ExceptionTableEntry) (suf : List ExceptionTableEntry) (hsplit : c.exceptionTable.toList = pre ++ x :: suf)
    (hpass : ∀ z ∈ pre, covers z pc = false ∨ (z.catchType ≠ 0 ∧ ∃ nm : String, (Cond.classLink own z.catchType nm).before args s = true ∧ va_Nc E nm s)) (hx : covers x pc = true) (h0 : x.catchType ≠ 0)
    (hlink : (Cond.classLink own x.catchType name).before args s = true) (hcast : (Cond.castable E name).before args s = true) (hcell : H[q]? = some ce) (hv : ce.vm = .none) (hcl : s.vm.findClass E = some ce.cls)
    (kk : W p l e R s m args below meth c H locs cells slots Q (F0 m x.handlerPc ls [.ref q])) : vx_W p l e R s m args below meth c H locs cells slots Q (F0 m pc ls rest) q := by
  intro T hT X
  have hpl : e.platform.magicAccessors = ({} : Platform).magicAccessors := by rw [X.admits.platform]
  obtain ⟨c3, c4, hc3, hc4, hasg⟩ := Cond.castable_spec hcast
  cases Option.some.inj (hc3.symm.trans hcl)
  obtain ⟨c5, hc5, hcl5⟩ := Cond.classLink_spec hown hlink e.platform hpl
  cases Option.some.inj (hc4.symm.trans hc5)
  obtain ⟨vm', X', st⟩ := X.thenCaughtThrough q (g := F0 m pc ls rest) rfl (Steps.refl _) (by rw [hT]; exact hcell) (by rw [hv]; rfl) (by obtain ⟨k9, h9, -⟩ := Vm.findClass_spec hcl; exact ⟨k9, h9⟩) pre x suf hsplit
    (fun z hz => by
      rcases hpass z hz with h | ⟨hz0, nm, hl1, hn1⟩
      · exact Or.inl h
      · obtain ⟨c6, hc6, hcl6⟩ := Cond.classLink_spec hown hl1 e.platform hpl
        obtain ⟨a8, b8, h1, h2, h3⟩ := hn1
        cases Option.some.inj (h1.symm.trans hcl)
        cases Option.some.inj (h2.symm.trans hc6)
        exact Or.inr ⟨hz0, _, hcl6, h3⟩) hx (Or.inr ⟨h0, c4, hcl5, hasg⟩)
  obtain ⟨t, a1, b1⟩ := kk (T.setVm vm') hT X'
  exact ⟨t, st.trans a1, b1⟩
end Rows
section Ends
variable {p : Program} {l : Launch} {e : Env} {R : Room} {s : State} {m : MethodId} {args : Array Value} {below : List Frame} {meth : Method} {c : Code} {H : Heap} {locs : List Loc} {cells slots : Nat} {Q : State → Prop}
variable {mc ms : Nat} {free : Addr → Prop} {A0 A1 : Nat → Prop} {H0 : Heap} {a : Array Value} {ls : Array Slot} {st0 rest : List Value}
variable {Qc : Array Value → State → Outcome → State → Prop} {XC : String → State → State → Prop}
/-- what a body that may throw owes at its end -/
def vx_MQ (below : List Frame) (Qc : Array Value → State → Outcome → State → Prop) (XC : String → State → State → Prop) (a : Array Value) (s : State) (mc ms : Nat) (free : Addr → Prop) : State → Prop := fun t =>
  ∃ o, t.status = .running ∧ Ended t below o ∧ vx_Q Qc XC mc ms free a s o t
theorem vx_ret {g : JFrame} {mc ms : Nat} (k : W p l e R s m args below meth c H locs cells slots (MQ below Qc args s mc ms free) g) : W p l e R s m args below meth c H locs cells slots (vx_MQ below Qc XC args s mc ms free) g := by
  intro T hT X
  obtain ⟨t, a1, o, b1, b2, b3, b4⟩ := k T hT X
  exact ⟨t, a1, o, b1, b2, Or.inl ⟨b3, b4⟩⟩
/-- not caught here: it goes on to the caller -/
theorem vx_widen {g : JFrame} {q : Addr} {k n : Nat} (h1 : cells ≤ k) (h2 : slots ≤ n) (kk : vx_W p l e R s m args below meth c H locs k n Q g q) : vx_W p l e R s m args below meth c H locs cells slots Q g q := fun T hT X => kk T hT (stand_widen X h1 h2)
theorem vx_out {pc : Nat} {E : String} {ce : Cell} {q : Addr} {mc ms : Nat} (hout : ∀ x ∈ c.exceptionTable.toList, covers x pc = false) (hlocks : meth.locks = false) (hcell : H[q]? = some ce) (hv : ce.vm = .none) (hcl : s.vm.findClass E = some ce.cls)
    (hx : ∀ t : State, t.heap = H → s.vm.Alike t.vm → XC E s t) (hf : ∀ z ∈ locs, free z.base) (hc : cells ≤ mc) (hs : slots ≤ ms) :
    vx_W p l e R s m args below meth c H locs cells slots (vx_MQ below Qc XC args s mc ms free) (F0 m pc ls rest) q := by
  intro T hT X
  obtain ⟨st1, hrun, hend, hW, hsm⟩ := X.leaveThrown q (g := F0 m pc ls rest) rfl rfl rfl hout hlocks
  have hcell9 : (T.setFrames (.throwing q :: below)).heap[q]? = some ce := by
    show T.heap[q]? = some ce
    rw [hT]; exact hcell
  exact ⟨_, st1, .threw q, hrun, hend, Or.inr ⟨q, rfl, E, ce, locs, hx _ hT hW.alike, hcell9, hv, hcl, hW, hsm.mono hc hs, hf⟩⟩
theorem vx_frame {U : State} {k n : Nat} (h : s.sameButNew ({ U with vm := s.vm } : State) locs k n) : s.heap.size ≤ U.heap.size ∧ ∀ q : Nat, q < s.heap.size → (∀ z ∈ locs, z.base ≠ q) → U.heap[q]? = s.heap[q]? := by
  obtain ⟨-, h2, -, -, -, h6⟩ := h
  refine ⟨h2, fun q hq hz => ?_⟩
  obtain ⟨c9, e1, e2, e3, e4⟩ := h6 q _ (Array.getElem?_eq_getElem hq)
  have hs : c9.slots = (s.heap[q]).slots := Array.ext_getElem? fun i => e4 i fun hm => hz _ hm rfl
  have h9 : c9 = s.heap[q] := by
    rw [hs] at e2
    exact e2
  have e5 : U.heap[q]? = some c9 := e1
  rw [e5, h9, Array.getElem?_eq_getElem hq]
/-- the words of a throw but the four that speak of the heap -/
def vx_no (w : Cond) : Bool := decide (w ≠ .isRef (.static Bundle.tN "UNASSIGNED_STACK" Bundle.steD)) && decide (w ≠ .isRef (.static Bundle.tN "SUPPRESSED_SENTINEL" Bundle.listD)) && decide (w ≠ .laysStatic Bundle.tN "UNASSIGNED_STACK" Bundle.steD) && decide (w ≠ .laysStatic Bundle.tN "SUPPRESSED_SENTINEL" Bundle.listD)
def vx_at0 (own : String) (ic : Nat) (X : String) (names : List String) : List Cond := (Bundle.ownAtoms0 own ic X names).filter vx_no
def vx_atS (own : String) (ic : Nat) (X : String) (names : List String) : List Cond := (Bundle.ownAtoms own ic X names).filter vx_no
/-- a word that the tables alone decide, or a good one -/
def vx_ot (w : Cond) : Bool := w.onTables || goodWord w
theorem vx_ot_at {args a' : Array Value} {s U : State} {w : Cond} (hW : s.WarmedH U.vm) (hvm : s.vm = U.vm) (hg : vx_ot w = true) (h : w.before args s = true) : w.before a' U = true := by
  simp only [vx_ot, Bool.or_eq_true] at hg
  rcases hg with hg | hg
  · exact va_tabs hg hvm h
  · exact word_at hW (good_of_word hg) h
/-- a list's words: the good ones out of the method's own list, the others by premises of their own -/
theorem vx_hat {args : Array Value} {s : State} {L B : List Cond} (h1 : ∀ w ∈ L.filter goodWord, w.before args s = true) (h2 : ∀ w ∈ L.filter (fun w => !goodWord w), w ∈ B) (h3 : ∀ w ∈ B, w.before args s = true) : ∀ w ∈ L, w.before args s = true := by
  intro w hw
  by_cases g : goodWord w = true
  · exact h1 w (List.mem_filter.mpr ⟨hw, g⟩)
  · refine h3 w (h2 w (List.mem_filter.mpr ⟨hw, ?_⟩))
    show (!goodWord w) = true
    cases hgw : goodWord w
    · rfl
    · exact absurd hgw g
theorem vx_c {args : Array Value} {s : State} {w : Cond} {B : List Cond} (h : w.before args s = true) (t : ∀ w ∈ B, w.before args s = true) : ∀ w' ∈ w :: B, w'.before args s = true := fun w' h' => (List.mem_cons.mp h').elim (fun e => by rw [e]; exact h) (t w')
theorem vx_n {args : Array Value} {s : State} : ∀ w ∈ ([] : List Cond), w.before args s = true := fun _ h => nomatch h
theorem vx_own {args : Array Value} {s : State} {L : List Cond} (h1 : ∀ w ∈ L.filter vx_no, w.before args s = true)
    (hU : (Cond.isRef (.static Bundle.tN "UNASSIGNED_STACK" Bundle.steD)).before args s = true) (hN : (Cond.isRef (.static Bundle.tN "SUPPRESSED_SENTINEL" Bundle.listD)).before args s = true)
    (lU : (Cond.laysStatic Bundle.tN "UNASSIGNED_STACK" Bundle.steD).before args s = true) (lN : (Cond.laysStatic Bundle.tN "SUPPRESSED_SENTINEL" Bundle.listD).before args s = true) : ∀ w ∈ L, w.before args s = true := by
  intro w hw
  by_cases e1 : w = .isRef (.static Bundle.tN "UNASSIGNED_STACK" Bundle.steD)
  · rw [e1]; exact hU
  · by_cases e2 : w = .isRef (.static Bundle.tN "SUPPRESSED_SENTINEL" Bundle.listD)
    · rw [e2]; exact hN
    · by_cases e3 : w = .laysStatic Bundle.tN "UNASSIGNED_STACK" Bundle.steD
      · rw [e3]; exact lU
      · by_cases e4 : w = .laysStatic Bundle.tN "SUPPRESSED_SENTINEL" Bundle.listD
        · rw [e4]; exact lN
        · exact h1 w (List.mem_filter.mpr ⟨hw, by unfold vx_no; rw [decide_eq_true e1, decide_eq_true e2, decide_eq_true e3, decide_eq_true e4]; rfl⟩)
/-- where a static field lies, its class's statics cell in H -/
def vx_L (C n d : String) (A : Nat → Prop) (U : State) (H : Heap) : Prop := ∃ (c : ClassId) (k : Class) (i : Nat) (f : Field) (a : Nat) (cell : Cell), U.vm.findClass C = some c ∧ U.fieldFound? C n d = some (c, k, i, f) ∧ f.isStatic = true ∧ k.statics = some a ∧ H[a]? = some cell ∧ cell.vm.isStatics = true ∧ cell.cls = c ∧ f.slot < cell.slots.size ∧ k.staticTypes[f.slot]? = some f.type ∧ ¬ A a
theorem vx_L.moved {C n d : String} {A : Nat → Prop} {u U : State} {H : Heap} (hvm : u.vm.Alike U.vm) (h : vx_L C n d A u H) : vx_L C n d A U H := by
  obtain ⟨c, k, i, f, a, cell, h1, h2, h3, h4, h5, h6, h7, h8, h9, h10⟩ := h
  obtain ⟨k', hi', he⟩ := State.fieldFound?_setVm hvm h2
  exact ⟨c, k', i, f, a, cell, by rw [hvm.findClass]; exact h1, hi', h3, by rw [he]; exact h4, h5, h6, h7, h8, by rw [he]; exact h9, h10⟩
theorem vx_L.kept {C n d : String} {A : Nat → Prop} {U : State} {H H1 : Heap} (h : vx_L C n d A U H) (hq : ∀ a : Nat, a < H.size → ¬ A a → H1[a]? = H[a]?) : vx_L C n d A U H1 := by
  obtain ⟨c, k, i, f, a, cell, h1, h2, h3, h4, h5, h6, h7, h8, h9, h10⟩ := h
  exact ⟨c, k, i, f, a, cell, h1, h2, h3, h4, by rw [hq a (Array.getElem?_eq_some_iff.mp h5).1 h10]; exact h5, h6, h7, h8, h9, h10⟩
theorem vx_L.narrow {C n d : String} {A B : Nat → Prop} {U : State} {H : Heap} (h : vx_L C n d A U H) (hAB : ∀ q, B q → A q) : vx_L C n d B U H := by
  obtain ⟨c, k, i, f, a, cell, h1, h2, h3, h4, h5, h6, h7, h8, h9, h10⟩ := h
  exact ⟨c, k, i, f, a, cell, h1, h2, h3, h4, h5, h6, h7, h8, h9, fun z => h10 (hAB _ z)⟩
theorem vx_L.word {C n d : String} {A : Nat → Prop} {s : State} {args : Array Value} (h : vx_L C n d A s s.heap) : (Cond.laysStatic C n d).before args s = true := by
  obtain ⟨c, k, i, f, a, cell, h1, h2, h3, h4, h5, h6, h7, h8, h9, -⟩ := h
  show (Cond.laysStatic C n d).holds args s none s [] = true
  exact Cond.laysStatic_of h1 h2 h3 h4 h5 h6 h7 h8 h9
/-- .. and what it holds: null or some reference -/
def vx_Zq (C n d : String) (A : Nat → Prop) (U : State) (H : Heap) : Prop := va_Zq C n d A U H ∧ vx_L C n d A U H
theorem vx_Zq.moved {C n d : String} {A : Nat → Prop} {u U : State} {H : Heap} (hvm : u.vm.Alike U.vm) (h : vx_Zq C n d A u H) : vx_Zq C n d A U H := ⟨va_Zq.moved hvm h.1, vx_L.moved hvm h.2⟩
theorem vx_Zq.kept {C n d : String} {A : Nat → Prop} {U : State} {H H1 : Heap} (h : vx_Zq C n d A U H) (hq : ∀ a : Nat, a < H.size → ¬ A a → H1[a]? = H[a]?) : vx_Zq C n d A U H1 := ⟨va_Zq.kept h.1 hq, vx_L.kept h.2 hq⟩
theorem vx_Zq.narrow {C n d : String} {A B : Nat → Prop} {U : State} {H : Heap} (h : vx_Zq C n d A U H) (hAB : ∀ q, B q → A q) : vx_Zq C n d B U H := ⟨va_Zq.narrow h.1 hAB, vx_L.narrow h.2 hAB⟩
theorem vx_Zqof {args : Array Value} {s : State} {C n d : String} {A : Nat → Prop} (hl : (Cond.laysStatic C n d).before args s = true) (hini : (Cond.initialized C).before args s = true) (h : (Cond.isRef (.static C n d)).before args s = true) (hA : ∀ a : Nat, a < s.heap.size → ¬ A a) : vx_Zq C n d A s s.heap := by
  refine ⟨va_Zqof hl hini h hA, ?_⟩
  obtain ⟨c, k, i, f, a, cell, h1, h2, h3, h4, h5, h6, h7, h8, h9⟩ := Cond.laysStatic_spec hl
  exact ⟨c, k, i, f, a, cell, h1, h2, h3, h4, h5, h6, h7, h8, h9, hA a (Array.getElem?_eq_some_iff.mp h5).1⟩
theorem vx_isRef {C n d : String} {v : Value} {A : Nat → Prop} {s : State} {args : Array Value} (h : va_Z C n d v A s s.heap) (hv : v.isRef = true) : (Cond.isRef (.static C n d)).before args s = true := by
  obtain ⟨cf, kf, fi, f, a, cell, h1, h2, h3, h4, h5, h6, h7, -⟩ := h
  have he : (Term.static C n d).eval args s none [] s = some v := by
    simp [Term.eval, State.fieldNamed?, h1, h2, h4, h5, h6, h7]
  simp only [Cond.before, Cond.holds, Cond.value, he]
  cases v <;> simp_all [Value.isRef]
theorem vx_isRefq {C n d : String} {A : Nat → Prop} {s : State} {args : Array Value} (h : va_Zq C n d A s s.heap) : (Cond.isRef (.static C n d)).before args s = true := by
  rcases h with h | ⟨t, h⟩
  · exact vx_isRef h rfl
  · exact vx_isRef h rfl
/-- the same frame, seen from here: as if the method were called anew in this heap -/
theorem vx_rebase {T : State} (X : Stand p l e R s m args below meth c T locs cells slots) {R' : Room} (hf : R'.frames ≤ R.frames) (hl : R'.locals ≤ R.locals) (hc : cells + R'.cells ≤ R.cells) (hs : slots + R'.slots ≤ R.slots) :
    Stand p l e R' ((T.setVm s.vm).setFrames (.invoking m args :: below)) m args below meth c T [] 0 0 := by
  have htop : (T.setVm s.vm).topJava?.isSome := X.here.top
  have hF : ((T.setVm s.vm).setFrames (.invoking m args :: below)).frames = .invoking m args :: below := State.frames_setFrames _ (State.cur_lt_of_top htop)
  obtain ⟨g₀, hg0⟩ := Option.isSome_iff_exists.mp htop
  obtain ⟨r, hr⟩ := State.topJava?_eq_some.mp hg0
  have hl9 : e.platform.stackLimits (T.setVm s.vm).me = e.platform.stackLimits s.me := X.limits
  have hb9 : (T.setVm s.vm).me.stackBytes = s.me.stackBytes := X.bytes
  refine ⟨X.admits, X.cas, X.clock, hF, ?_, X.hears, X.method, X.code, X.here, X.tail, X.warmed, ?_, ?_, ?_⟩
  · have h := X.room
    have hU : ((T.setVm s.vm).setFrames (.invoking m args :: below)).localsInUse = s.localsInUse := by
      rw [State.localsInUse_invoking hF (meth := meth) (c := c) X.method X.code, State.localsInUse_invoking X.frames X.method X.code]
    simp only [State.hasRoom, Bool.and_eq_true, decide_eq_true_eq] at h ⊢
    obtain ⟨⟨⟨⟨h1, h2, h3, h4, h5, h6⟩, h7⟩, h8⟩, h9⟩ := h
    rw [X.frames, List.length_cons] at h2 h3
    have q1 := X.heapSize
    have q2 := X.used
    simp only [hF, hU, List.length_cons, State.stackLimits_setFrames, State.stackBytes_setFrames, hl9, hb9]
    refine ⟨⟨⟨⟨by omega, by omega, by omega, by omega, by omega, h6⟩, ?_⟩, ?_⟩, X.book⟩
    · show T.heap.size + R'.cells ≤ e.platform.maxCells
      omega
    · show T.slotsUsed + R'.slots ≤ e.platform.maxSlots
      omega
  · rw [State.stackLimits_setFrames]; rfl
  · rw [State.stackBytes_setFrames]; rfl
  · refine ⟨?_, Nat.le_refl _, Nat.le_refl _, ?_, ?_, fun a c9 h9 => ⟨c9, h9, rfl, rfl, fun _ _ => rfl⟩⟩
    · obtain ⟨t, ht, -⟩ := State.frames_cons hr
      show T.setVm s.vm = { ((T.setVm s.vm).setFrames (.invoking m args :: below)).setFrames (T.setVm s.vm).frames with heap := T.heap, slotsUsed := T.slotsUsed }
      rw [State.setFrames_setFrames, State.setFrames_self ht]
      rfl
    · show T.slotsUsed = T.slotsUsed + ((T.heap.toList.drop T.heap.size).map (·.slots.size)).sum
      rw [List.drop_eq_nil_of_le (Nat.le_of_eq Array.length_toList)]
      rfl
    · show ((T.heap.toList.drop T.heap.size).map (·.slots.size)).sum ≤ 0
      rw [List.drop_eq_nil_of_le (Nat.le_of_eq Array.length_toList)]
      exact Nat.le_refl _
/-- 'throw new E()': new; dup; invokespecial; athrow -/
theorem vx_throw0 {cc : ByteArray} {pc : Nat} (hexec : p.tables.exec = Jvm.exec) (hb : c.code = cc) (hl : l.stackTraces = false) {own cls : String} {names : List String} {ik ic mc ms : Nat} {A : Nat → Prop}
    (hown : s.vm.findClass own = some m.cls) (hcls : Bundle.fit cls = true) (hnames : ∀ n ∈ names, Bundle.fit n = true)
    (hk : (Cond.classLink own ik cls).before args s = true) (hini : (Cond.initialized cls).before args s = true) (hat : ∀ w ∈ vx_at0 own ic cls names, w.before args s = true)
    (hgood : ∀ w ∈ Cond.classLink own ik cls :: Cond.initialized cls :: vx_at0 own ic cls names, vx_ot w = true)
    (hU : vx_Zq Bundle.tN "UNASSIGNED_STACK" Bundle.steD A s s.heap) (hN : vx_Zq Bundle.tN "SUPPRESSED_SENTINEL" Bundle.listD A s s.heap) (hS : va_S A s.heap H locs) (hsize : ls.size = c.maxLocals)
    (d0 : decode cc pc = .ok (.new ik, 3)) (d3 : decode cc (pc + 3) = .ok (.dup, 1)) (d4 : decode cc (pc + 4) = .ok (.invokespecial ic, 3)) (d7 : decode cc (pc + 7) = .ok (.athrow, 1))
    (hout : ∀ x ∈ c.exceptionTable.toList, covers x (pc + 7) = false)
    (hRframes : names.length + 3 < R.frames) (hRlocals : (rest.map fun v => v.category).sum + (13 * (names.length + 1) + 42) ≤ R.locals) (hRcells : cells + 1 ≤ R.cells) (hRslots : slots + 6 ≤ R.slots) (hlocks : meth.locks = false)
    (hx : ∀ t : State, s.vm.Alike t.vm → H.size ≤ t.heap.size → (∀ q : Nat, q < H.size → t.heap[q]? = H[q]?) → XC cls s t)
    (hf : ∀ z ∈ locs, free z.base) (hc : cells + 1 ≤ mc) (hs : slots + 6 ≤ ms) :
    W p l e R s m args below meth c H locs cells slots (vx_MQ below Qc XC args s mc ms free) (F0 m pc ls rest) := by
  intro T hT X
  have htr : e.platform.stackTraces = false := (show e.platform.stackTraces = l.stackTraces by rw [X.admits.platform]).trans hl
  have Y := vx_rebase X (R' := { frames := R.frames, locals := R.locals, cells := 1, slots := 6 }) (Nat.le_refl _) (Nat.le_refl _) hRcells hRslots
  obtain ⟨s', hA⟩ : ∃ z, z = (T.setVm s.vm).setFrames (.invoking m args :: below) := ⟨_, rfl⟩
  rw [← hA] at Y
  have hvm : s'.vm = s.vm := by rw [hA]; rfl
  have hhp : s'.heap = H := by rw [hA]; exact hT
  have hW0 : s.WarmedH s'.vm := by rw [hvm]; exact State.WarmedH.refl s
  have hat' : ∀ w ∈ vx_at0 own ic cls names, w.before args s' = true := fun w hw => vx_ot_at hW0 hvm.symm (hgood w (List.mem_cons_of_mem _ (List.mem_cons_of_mem _ hw))) (hat w hw)
  have hk' : (Cond.classLink own ik cls).before args s' = true := vx_ot_at hW0 hvm.symm (hgood _ List.mem_cons_self) hk
  have hini' : (Cond.initialized cls).before args s' = true := vx_ot_at hW0 hvm.symm (hgood _ (List.mem_cons_of_mem _ List.mem_cons_self)) hini
  have hU' : vx_Zq Bundle.tN "UNASSIGNED_STACK" Bundle.steD A s' s'.heap := by rw [hhp]; exact vx_Zq.moved hW0.alike (hU.kept hS.2.1)
  have hN' : vx_Zq Bundle.tN "SUPPRESSED_SENTINEL" Bundle.listD A s' s'.heap := by rw [hhp]; exact vx_Zq.moved hW0.alike (hN.kept hS.2.1)
  have h : ∀ w ∈ Bundle.ownAtoms0 own ic cls names, w.before args s' = true := vx_own hat' (vx_isRefq hU'.1) (vx_isRefq hN'.1) hU'.2.word hN'.2.word
  have hown' : s'.vm.findClass own = some m.cls := by rw [hvm]; exact hown
  have hins : (Cond.instantiable cls 6).before args s' = true := h _ (by simp [Bundle.ownAtoms0])
  obtain ⟨vm₁, cX, kX, hfX, hkX, -, -, X₁, st1⟩ := Y.newCold hexec (own := own) (C := cls) (index := ik) (n := 6) hown' hk' hins hini'
    (g := F0 m pc ls rest) rfl (by rw [hb]; exact d0) (Nat.le_refl _) (Nat.le_refl _)
  generalize hT1 : (T.setVm vm₁).pushCell { cls := cX, slots := kX.instanceTypes.map defaultValue, vm := .none } = T1 at X₁ st1
  have hcat : (Value.ref T.heap.size).category = 1 := rfl
  have hcellA : T1.heap[T.heap.size]? = some (freshCell cX kX) := by rw [← hT1]; exact State.heap_pushCell_size _ _
  have d3' : decode c.code (pc + 3) = .ok (.dup, 1) := by rw [hb]; exact d3
  obtain ⟨U, hsteps, hrun, hend, hW, hsame, ce, hce, hO⟩ := X₁.ctorThrow0 hexec htr (own := own) (cls := cls) (names := names) (ic := ic) hown' hcls hnames h (fun x hx => nomatch hx) hfX hkX hcellA (by rw [hhp, hT]; exact Nat.le_refl _)
    (g := { method := m, pc := pc + 4, locals := ls, stack := .ref T.heap.size :: .ref T.heap.size :: rest, locked := none }) rfl hsize rfl rfl (rest := rest) rfl
    (by rw [hb]; exact d4) (by rw [hb]; exact d7) hout hRframes (by simp only [List.map_cons, List.sum_cons, hcat]; omega) hlocks
  obtain ⟨f1, f2⟩ := vx_frame hsame
  rw [hhp] at f1 f2
  have hWs : s.WarmedH U.vm := State.WarmedH.trans hW0 hW
  have hcl : s.vm.findClass cls = some ce.cls := by
    have h9 := hO.cls
    rw [hvm] at h9
    exact h9
  have hall : s.sameButNew ({ U with vm := s.vm } : State) locs mc ms := by
    subst hA
    obtain ⟨e1, e2⟩ := hsame
    rw [State.setFrames_setFrames] at e1
    have h2 : (T.setVm s.vm).sameButNew ({ U with vm := s.vm } : State) [] (0 + 1) (0 + 6) := ⟨e1, e2⟩
    have h3 := X.same.trans h2
    rw [List.append_nil] at h3
    exact h3.mono hc hs
  refine ⟨U, ?_, .threw T.heap.size, hrun, hend, Or.inr ⟨T.heap.size, rfl, cls, ce, locs, hx U hWs.alike f1 (fun q hq => f2 q hq (fun z hz => nomatch hz)), hce, hO.vm, hcl, hWs, hall, hf⟩⟩
  refine st1 _ ?_
  show Steps p.tables e below (T1.setTop { method := m, pc := pc + 3, locals := ls, stack := .ref T.heap.size :: rest, locked := none }) _
  jvm_step X₁.here [X₁.here.top, hexec, d3', Value.category]
  exact hsteps
/-- 'throw new E("text")': new; dup; ldc; invokespecial; athrow -/
theorem vx_throwS {cc : ByteArray} {pc : Nat} (hexec : p.tables.exec = Jvm.exec) (hb : c.code = cc) (hl : l.stackTraces = false) {own cls text : String} {names : List String} {ik is ic mc ms sa : Nat} {A : Nat → Prop}
    (hown : s.vm.findClass own = some m.cls) (hcls : Bundle.fit cls = true) (hnames : ∀ n ∈ names, Bundle.fit n = true)
    (hk : (Cond.classLink own ik cls).before args s = true) (hini : (Cond.initialized cls).before args s = true) (hstr : vk_R own is text sa s) (hat : ∀ w ∈ vx_atS own ic cls names, w.before args s = true)
    (hgood : ∀ w ∈ Cond.classLink own ik cls :: Cond.initialized cls :: vx_atS own ic cls names, vx_ot w = true)
    (hU : vx_Zq Bundle.tN "UNASSIGNED_STACK" Bundle.steD A s s.heap) (hN : vx_Zq Bundle.tN "SUPPRESSED_SENTINEL" Bundle.listD A s s.heap) (hS : va_S A s.heap H locs) (hsize : ls.size = c.maxLocals)
    (d0 : decode cc pc = .ok (.new ik, 3)) (d3 : decode cc (pc + 3) = .ok (.dup, 1)) (d4 : decode cc (pc + 4) = .ok (.ldc is, 2)) (d6 : decode cc (pc + 6) = .ok (.invokespecial ic, 3)) (d9 : decode cc (pc + 9) = .ok (.athrow, 1))
    (hout : ∀ x ∈ c.exceptionTable.toList, covers x (pc + 9) = false)
    (hRframes : names.length + 3 < R.frames) (hRlocals : (rest.map fun v => v.category).sum + (13 * (names.length + 1) + 43) ≤ R.locals) (hRcells : cells + 1 ≤ R.cells) (hRslots : slots + 6 ≤ R.slots) (hlocks : meth.locks = false)
    (hx : ∀ t : State, s.vm.Alike t.vm → H.size ≤ t.heap.size → (∀ q : Nat, q < H.size → t.heap[q]? = H[q]?) → XC cls s t)
    (hf : ∀ z ∈ locs, free z.base) (hc : cells + 1 ≤ mc) (hs : slots + 6 ≤ ms) :
    W p l e R s m args below meth c H locs cells slots (vx_MQ below Qc XC args s mc ms free) (F0 m pc ls rest) := by
  intro T hT X
  have htr : e.platform.stackTraces = false := (show e.platform.stackTraces = l.stackTraces by rw [X.admits.platform]).trans hl
  have Y := vx_rebase X (R' := { frames := R.frames, locals := R.locals, cells := 1, slots := 6 }) (Nat.le_refl _) (Nat.le_refl _) hRcells hRslots
  obtain ⟨s', hA⟩ : ∃ z, z = (T.setVm s.vm).setFrames (.invoking m args :: below) := ⟨_, rfl⟩
  rw [← hA] at Y
  have hvm : s'.vm = s.vm := by rw [hA]; rfl
  have hhp : s'.heap = H := by rw [hA]; exact hT
  have hW0 : s.WarmedH s'.vm := by rw [hvm]; exact State.WarmedH.refl s
  have hat' : ∀ w ∈ vx_atS own ic cls names, w.before args s' = true := fun w hw => vx_ot_at hW0 hvm.symm (hgood w (List.mem_cons_of_mem _ (List.mem_cons_of_mem _ hw))) (hat w hw)
  have hk' : (Cond.classLink own ik cls).before args s' = true := vx_ot_at hW0 hvm.symm (hgood _ List.mem_cons_self) hk
  have hini' : (Cond.initialized cls).before args s' = true := vx_ot_at hW0 hvm.symm (hgood _ (List.mem_cons_of_mem _ List.mem_cons_self)) hini
  have hU' : vx_Zq Bundle.tN "UNASSIGNED_STACK" Bundle.steD A s' s'.heap := by rw [hhp]; exact vx_Zq.moved hW0.alike (hU.kept hS.2.1)
  have hN' : vx_Zq Bundle.tN "SUPPRESSED_SENTINEL" Bundle.listD A s' s'.heap := by rw [hhp]; exact vx_Zq.moved hW0.alike (hN.kept hS.2.1)
  have h : ∀ w ∈ Bundle.ownAtoms own ic cls names, w.before args s' = true := vx_own hat' (vx_isRefq hU'.1) (vx_isRefq hN'.1) hU'.2.word hN'.2.word
  have hown' : s'.vm.findClass own = some m.cls := by rw [hvm]; exact hown
  have hins : (Cond.instantiable cls 6).before args s' = true := h _ (by simp [Bundle.ownAtoms])
  obtain ⟨vm₁, cX, kX, hfX, hkX, -, -, X₁, st1⟩ := Y.newCold hexec (own := own) (C := cls) (index := ik) (n := 6) hown' hk' hins hini'
    (g := F0 m pc ls rest) rfl (by rw [hb]; exact d0) (Nat.le_refl _) (Nat.le_refl _)
  generalize hT1 : (T.setVm vm₁).pushCell { cls := cX, slots := kX.instanceTypes.map defaultValue, vm := .none } = T1 at X₁ st1
  have hcat : (Value.ref T.heap.size).category = 1 := rfl
  have hcellA : T1.heap[T.heap.size]? = some (freshCell cX kX) := by rw [← hT1]; exact State.heap_pushCell_size _ _
  have d3' : decode c.code (pc + 3) = .ok (.dup, 1) := by rw [hb]; exact d3
  have d4' : decode c.code (pc + 4) = .ok (.ldc is, 2) := by rw [hb]; exact d4
  have hstr' : vk_R own is text sa s' := vk_R.warm hW0 hstr
  obtain ⟨U, hsteps, hrun, hend, hW, hsame, ce, hce, hO⟩ := X₁.ctorThrowS hexec htr (own := own) (cls := cls) (names := names) (ic := ic) hown' hcls hnames h (fun x hx => nomatch hx) hfX hkX hcellA (by rw [hhp, hT]; exact Nat.le_refl _) (msg := .ref sa) rfl
    (g := { method := m, pc := pc + 6, locals := ls, stack := .ref sa :: .ref T.heap.size :: .ref T.heap.size :: rest, locked := none }) rfl hsize rfl rfl (rest := rest) rfl
    (by rw [hb]; exact d6) (by rw [hb]; exact d9) hout hRframes (by simp only [List.map_cons, List.sum_cons, hcat]; omega) hlocks
  obtain ⟨f1, f2⟩ := vx_frame hsame
  rw [hhp] at f1 f2
  have hWs : s.WarmedH U.vm := State.WarmedH.trans hW0 hW
  have hcl : s.vm.findClass cls = some ce.cls := by
    have h9 := hO.cls
    rw [hvm] at h9
    exact h9
  have hall : s.sameButNew ({ U with vm := s.vm } : State) locs mc ms := by
    subst hA
    obtain ⟨e1, e2⟩ := hsame
    rw [State.setFrames_setFrames] at e1
    have h2 : (T.setVm s.vm).sameButNew ({ U with vm := s.vm } : State) [] (0 + 1) (0 + 6) := ⟨e1, e2⟩
    have h3 := X.same.trans h2
    rw [List.append_nil] at h3
    exact h3.mono hc hs
  refine ⟨U, ?_, .threw T.heap.size, hrun, hend, Or.inr ⟨T.heap.size, rfl, cls, ce, locs, hx U hWs.alike f1 (fun q hq => f2 q hq (fun z hz => nomatch hz)), hce, hO.vm, hcl, hWs, hall, hf⟩⟩
  refine st1 _ ?_
  show Steps p.tables e below (T1.setTop { method := m, pc := pc + 3, locals := ls, stack := .ref T.heap.size :: rest, locked := none }) _
  jvm_step X₁.here [X₁.here.top, hexec, d3', Value.category]
  exact X₁.ldcString hexec (own := own) (text := text) (index := is) (a := sa) hown' hstr'.1 hstr'.2
    (g := { method := m, pc := pc + 4, locals := ls, stack := .ref T.heap.size :: .ref T.heap.size :: rest, locked := none }) rfl d4' _ hsteps
/-- 'throw new E("text")', the text by a wide index -/
theorem vx_throwSW {cc : ByteArray} {pc : Nat} (hexec : p.tables.exec = Jvm.exec) (hb : c.code = cc) (hl : l.stackTraces = false) {own cls text : String} {names : List String} {ik is ic mc ms sa : Nat} {A : Nat → Prop}
    (hown : s.vm.findClass own = some m.cls) (hcls : Bundle.fit cls = true) (hnames : ∀ n ∈ names, Bundle.fit n = true)
    (hk : (Cond.classLink own ik cls).before args s = true) (hini : (Cond.initialized cls).before args s = true) (hstr : vk_R own is text sa s) (hat : ∀ w ∈ vx_atS own ic cls names, w.before args s = true)
    (hgood : ∀ w ∈ Cond.classLink own ik cls :: Cond.initialized cls :: vx_atS own ic cls names, vx_ot w = true)
    (hU : vx_Zq Bundle.tN "UNASSIGNED_STACK" Bundle.steD A s s.heap) (hN : vx_Zq Bundle.tN "SUPPRESSED_SENTINEL" Bundle.listD A s s.heap) (hS : va_S A s.heap H locs) (hsize : ls.size = c.maxLocals)
    (d0 : decode cc pc = .ok (.new ik, 3)) (d3 : decode cc (pc + 3) = .ok (.dup, 1)) (d4 : decode cc (pc + 4) = .ok (.ldc_w is, 3)) (d7 : decode cc (pc + 7) = .ok (.invokespecial ic, 3)) (d10 : decode cc (pc + 10) = .ok (.athrow, 1))
    (hout : ∀ x ∈ c.exceptionTable.toList, covers x (pc + 10) = false)
    (hRframes : names.length + 3 < R.frames) (hRlocals : (rest.map fun v => v.category).sum + (13 * (names.length + 1) + 43) ≤ R.locals) (hRcells : cells + 1 ≤ R.cells) (hRslots : slots + 6 ≤ R.slots) (hlocks : meth.locks = false)
    (hx : ∀ t : State, s.vm.Alike t.vm → H.size ≤ t.heap.size → (∀ q : Nat, q < H.size → t.heap[q]? = H[q]?) → XC cls s t)
    (hf : ∀ z ∈ locs, free z.base) (hc : cells + 1 ≤ mc) (hs : slots + 6 ≤ ms) :
    W p l e R s m args below meth c H locs cells slots (vx_MQ below Qc XC args s mc ms free) (F0 m pc ls rest) := by
  intro T hT X
  have htr : e.platform.stackTraces = false := (show e.platform.stackTraces = l.stackTraces by rw [X.admits.platform]).trans hl
  have Y := vx_rebase X (R' := { frames := R.frames, locals := R.locals, cells := 1, slots := 6 }) (Nat.le_refl _) (Nat.le_refl _) hRcells hRslots
  obtain ⟨s', hA⟩ : ∃ z, z = (T.setVm s.vm).setFrames (.invoking m args :: below) := ⟨_, rfl⟩
  rw [← hA] at Y
  have hvm : s'.vm = s.vm := by rw [hA]; rfl
  have hhp : s'.heap = H := by rw [hA]; exact hT
  have hW0 : s.WarmedH s'.vm := by rw [hvm]; exact State.WarmedH.refl s
  have hat' : ∀ w ∈ vx_atS own ic cls names, w.before args s' = true := fun w hw => vx_ot_at hW0 hvm.symm (hgood w (List.mem_cons_of_mem _ (List.mem_cons_of_mem _ hw))) (hat w hw)
  have hk' : (Cond.classLink own ik cls).before args s' = true := vx_ot_at hW0 hvm.symm (hgood _ List.mem_cons_self) hk
  have hini' : (Cond.initialized cls).before args s' = true := vx_ot_at hW0 hvm.symm (hgood _ (List.mem_cons_of_mem _ List.mem_cons_self)) hini
  have hU' : vx_Zq Bundle.tN "UNASSIGNED_STACK" Bundle.steD A s' s'.heap := by rw [hhp]; exact vx_Zq.moved hW0.alike (hU.kept hS.2.1)
  have hN' : vx_Zq Bundle.tN "SUPPRESSED_SENTINEL" Bundle.listD A s' s'.heap := by rw [hhp]; exact vx_Zq.moved hW0.alike (hN.kept hS.2.1)
  have h : ∀ w ∈ Bundle.ownAtoms own ic cls names, w.before args s' = true := vx_own hat' (vx_isRefq hU'.1) (vx_isRefq hN'.1) hU'.2.word hN'.2.word
  have hown' : s'.vm.findClass own = some m.cls := by rw [hvm]; exact hown
  have hins : (Cond.instantiable cls 6).before args s' = true := h _ (by simp [Bundle.ownAtoms])
  obtain ⟨vm₁, cX, kX, hfX, hkX, -, -, X₁, st1⟩ := Y.newCold hexec (own := own) (C := cls) (index := ik) (n := 6) hown' hk' hins hini'
    (g := F0 m pc ls rest) rfl (by rw [hb]; exact d0) (Nat.le_refl _) (Nat.le_refl _)
  generalize hT1 : (T.setVm vm₁).pushCell { cls := cX, slots := kX.instanceTypes.map defaultValue, vm := .none } = T1 at X₁ st1
  have hcat : (Value.ref T.heap.size).category = 1 := rfl
  have hcellA : T1.heap[T.heap.size]? = some (freshCell cX kX) := by rw [← hT1]; exact State.heap_pushCell_size _ _
  have d3' : decode c.code (pc + 3) = .ok (.dup, 1) := by rw [hb]; exact d3
  have d4' : decode c.code (pc + 4) = .ok (.ldc_w is, 3) := by rw [hb]; exact d4
  have hstr' : vk_R own is text sa s' := vk_R.warm hW0 hstr
  obtain ⟨U, hsteps, hrun, hend, hW, hsame, ce, hce, hO⟩ := X₁.ctorThrowS hexec htr (own := own) (cls := cls) (names := names) (ic := ic) hown' hcls hnames h (fun x hx => nomatch hx) hfX hkX hcellA (by rw [hhp, hT]; exact Nat.le_refl _) (msg := .ref sa) rfl
    (g := { method := m, pc := pc + 7, locals := ls, stack := .ref sa :: .ref T.heap.size :: .ref T.heap.size :: rest, locked := none }) rfl hsize rfl rfl (rest := rest) rfl
    (by rw [hb]; exact d7) (by rw [hb]; exact d10) hout hRframes (by simp only [List.map_cons, List.sum_cons, hcat]; omega) hlocks
  obtain ⟨f1, f2⟩ := vx_frame hsame
  rw [hhp] at f1 f2
  have hWs : s.WarmedH U.vm := State.WarmedH.trans hW0 hW
  have hcl : s.vm.findClass cls = some ce.cls := by
    have h9 := hO.cls
    rw [hvm] at h9
    exact h9
  have hall : s.sameButNew ({ U with vm := s.vm } : State) locs mc ms := by
    subst hA
    obtain ⟨e1, e2⟩ := hsame
    rw [State.setFrames_setFrames] at e1
    have h2 : (T.setVm s.vm).sameButNew ({ U with vm := s.vm } : State) [] (0 + 1) (0 + 6) := ⟨e1, e2⟩
    have h3 := X.same.trans h2
    rw [List.append_nil] at h3
    exact h3.mono hc hs
  refine ⟨U, ?_, .threw T.heap.size, hrun, hend, Or.inr ⟨T.heap.size, rfl, cls, ce, locs, hx U hWs.alike f1 (fun q hq => f2 q hq (fun z hz => nomatch hz)), hce, hO.vm, hcl, hWs, hall, hf⟩⟩
  refine st1 _ ?_
  show Steps p.tables e below (T1.setTop { method := m, pc := pc + 3, locals := ls, stack := .ref T.heap.size :: rest, locked := none }) _
  jvm_step X₁.here [X₁.here.top, hexec, d3', Value.category]
  exact X₁.ldcStringW hexec (own := own) (text := text) (index := is) (a := sa) hown' hstr'.1 hstr'.2
    (g := { method := m, pc := pc + 4, locals := ls, stack := .ref T.heap.size :: .ref T.heap.size :: rest, locked := none }) rfl d4' _ hsteps
end Ends
section Bodies
variable {l : Launch}
theorem vx_ofW {y : MethodName} {ws ws' : List Cond} {rm : Room} {Pc : Array Value → State → Prop} {Qc : Array Value → State → Outcome → State → Prop} {XC : String → State → State → Prop} {mc ms : Nat} {free : Addr → Prop} {cc : ByteArray} {maxL : Nat} {ret : Option FieldType}
    (hy : plainName y.cls = true) (hw : ws = Cond.code y cc maxL ret :: ws')
    (body : ∀ p e s m args below meth c s₁, BodyLoose p l y (headSpec ws rm) cc maxL ret e s m args below meth c s₁ → c.maxLocals = maxL → (∀ x ∈ c.exceptionTable.toList, False) → Pc args s →
      W p l e (headSpec ws rm).room s m args below meth c s.heap [] 0 0 (vx_MQ below Qc XC args s mc ms free) (entryFrame m args maxL)) : vx_Met l y ws rm Pc Qc XC mc ms free := by
  refine MetFree.of_bodyS (code := cc) (maxLocals := maxL) (ret := ret) hy ?_ ?_
  · intro args s m h hn
    obtain ⟨meth, c, h1, h2, h3, h4, h5, h6, -, -⟩ := Cond.code_spec hn (atoms_spec (ws := ws) h _ (by rw [hw]; exact List.mem_cons_self))
    exact ⟨meth, c, h1, h2, h3, h4, h5, h6⟩
  · intro p e s m args below meth c s₁ B hml hP _
    have hh0 : s₁.heap = s.heap := by rw [B.state]; rfl
    have ht : ∀ x ∈ c.exceptionTable.toList, False := by
      obtain ⟨meth9, c9, h1, h2, -, -, -, -, h7, -⟩ := Cond.code_spec B.named (atoms_spec (ws := ws) B.pre _ (by rw [hw]; exact List.mem_cons_self))
      cases Option.some.inj (h1.symm.trans B.method)
      cases Option.some.inj (h2.symm.trans (Stand.of_body B).code)
      intro x hx
      rw [Array.isEmpty_iff.mp h7] at hx
      cases hx
    obtain ⟨t, a1, o, b1, b2, b3⟩ := body p e s m args below meth c s₁ B hml ht hP s₁ hh0 (Stand.of_body B)
    exact ⟨t, o, a1, b1, b2, b3⟩
/-- the table of a body with handlers -/
theorem vx_table {p : Program} {x y : MethodName} {S : Spec} {cc bytes : ByteArray} {maxL maxL' : Nat} {ret ret' : Option FieldType} {e : Env} {s s₁ : State} {m : MethodId} {args : Array Value} {below : List Frame} {meth : Method} {c : Code} {hh : List (Nat × Nat × Nat × Nat)}
    (B : BodyLoose p l y S cc maxL ret e s m args below meth c s₁) (h : (Cond.codeWith y bytes maxL' ret' hh).before args s = true) : c.exceptionTable.toList = tableOf hh := by
  obtain ⟨m9, meth9, c9, hn9, h1, h2, -, -, h6, -⟩ := Cond.codeWith_spec h
  cases Option.some.inj (hn9.symm.trans B.named)
  cases Option.some.inj (h1.symm.trans B.method)
  cases Option.some.inj (h2.symm.trans (Stand.of_body B).code)
  rw [← h6, table_eq]
end Bodies
end VXA
/-! ===== END ===== -/
/-! ===== BEGIN a static call of a method with an exception table ===== -/
section VXS
variable {p : Program} {l : Launch} {e : Env} {R : Room} {s : State} {m : MethodId} {args : Array Value} {below : List Frame} {meth : Method} {c : Code} {T : State} {H : Heap} {locs : List Loc} {cells slots : Nat}
abbrev vx_CSW (R : Room) (s : State) (args : Array Value) (own : String) (index : Nat) (y : MethodName) (bytes : ByteArray) (maxL : Nat) (ret : Option FieldType) (hh : List (Nat × Nat × Nat × Nat)) (ws : List Cond) (rm : Room) (mc ms n : Nat) : Prop :=
  (rm.cells = mc ∧ rm.slots = ms ∧ rm.frames + 1 ≤ R.frames ∧ 8 + (maxL + 11) + rm.locals ≤ R.locals ∧ (∀ w ∈ ws, ∀ (a' : Array Value) (U : State), s.WarmedH U.vm → w.before a' U = true) ∧ Cond.codeWith y bytes maxL ret hh ∈ ws) ∧
  (Cond.codeWith y bytes maxL ret hh).before args s = true ∧ (Cond.initialized y.cls).before args s = true ∧ (y.cls ≠ "java/lang/invoke/MethodHandle" ∧ y.cls ≠ "java/lang/invoke/VarHandle") ∧
  (∀ sig, parseMethodDescriptor y.desc = some sig → n = sig.parameters.length) ∧ (Cond.methodLink own index y).before args s = true ∧ (Cond.static y).before args s = true
theorem vx_cwSW {own : String} {index maxL mc ms : Nat} {y : MethodName} {bytes : ByteArray} {ret : Option FieldType} {hh : List (Nat × Nat × Nat × Nat)} {Ts ws ws' : List Cond} {rm : Room} (n : Nat) (ht : ∀ w ∈ Ts, w.before args s = true) (hT : GoodIn Ts (va_wsS own index y ws)) (hw : ws = Cond.codeWith y bytes maxL ret hh :: ws') (hrc : rm.cells = mc) (hrs : rm.slots = ms)
    (hd : y.cls ≠ "java/lang/invoke/MethodHandle" ∧ y.cls ≠ "java/lang/invoke/VarHandle" ∧ (parseMethodDescriptor y.desc).map (fun d => d.parameters.length) = some n) (hR : rm.frames + 1 ≤ R.frames ∧ 8 + (maxL + 11) + rm.locals ≤ R.locals) :
    vx_CSW R s args own index y bytes maxL ret hh ws rm mc ms n := by
  have ok : ∀ w ∈ va_wsS own index y ws, w.before args s = true := fun w h => ht w (hT w h).1
  have hG : GoodIn Ts ws := fun w h => hT w (by unfold va_wsS; exact List.mem_append_right _ h)
  have hc : Cond.codeWith y bytes maxL ret hh ∈ ws := by rw [hw]; exact List.mem_cons_self
  refine ⟨⟨hrc, hrs, hR.1, hR.2, pay_in ht hG, hc⟩, ht _ (hG _ hc).1, ok _ (by simp [va_wsS]), ⟨hd.1, hd.2.1⟩, fun sig h => ?_, ok _ (by simp [va_wsS]), ok _ (by simp [va_wsS])⟩
  have h2 := hd.2.2
  rw [h] at h2
  exact (Option.some.inj h2).symm
theorem vx_callSW (X : Stand p l e R s m args below meth c T locs cells slots) (hexec : p.tables.exec = Jvm.exec) {own : String} {index : Nat} {y : MethodName} {bytes : ByteArray} {maxL : Nat} {ret : Option FieldType} {hh : List (Nat × Nat × Nat × Nat)}
    (hown : s.vm.findClass own = some m.cls) (hlink : (Cond.methodLink own index y).before args s = true) (hstat : (Cond.static y).before args s = true) (hinit : (Cond.initialized y.cls).before args s = true)
    (hcode : (Cond.codeWith y bytes maxL ret hh).before args s = true) (hy : y.cls ≠ "java/lang/invoke/MethodHandle" ∧ y.cls ≠ "java/lang/invoke/VarHandle")
    {W9 : Nat} {Pre : Pt → Array Value → Prop} {Post : Pt → Array Value → Option Value → Pt → Prop} (hK : Back l R p e below s args y 3 W9 Pre Post)
    {g : JFrame} (hg : g.method = m) (hsize : g.locals.size = c.maxLocals) {argsL rest : List Value} (hlen : ∀ sig, parseMethodDescriptor y.desc = some sig → argsL.length = sig.parameters.length)
    (hstack : g.stack = argsL.reverse ++ rest) (hW : 2 * g.monitorRoom + (rest.map fun v => v.category).sum ≤ W9) (hdg : decode c.code g.pc = .ok (.invokestatic index, 3))
    (hpre : ∀ vm₁, s.WarmedH vm₁ → Pre ⟨T.setVm vm₁, locs, cells, slots⟩ argsL.toArray) :
    ∃ (v : Option Value) (vm₁ : Vm) (B : Pt), s.WarmedH vm₁ ∧ Stand p l e R s m args below meth c B.U B.locs B.cells B.slots ∧ Post ⟨T.setVm vm₁, locs, cells, slots⟩ argsL.toArray v B ∧
      ∀ target, Steps p.tables e below (B.U.setTop { g with pc := g.pc + 3, stack := v.toList ++ rest }) target → Steps p.tables e below (T.setTop g) target := by
  obtain ⟨mk, methM, cM, hnamed, hmethM, -, -, -, -, -, -, hsigM⟩ := Cond.codeWith_spec hcode
  have hstatic : methM.isStatic = true := Cond.static_spec hnamed hmethM hstat
  obtain ⟨kP, hkP, -⟩ := className_of_methodNamed hnamed
  have hinitP : kP.init = .initialized := Cond.initialized_spec (findClass_of_methodNamed hnamed) hkP hinit
  obtain ⟨vm₁, X₁, hstep₁⟩ := X.invokestatic hexec hown hlink hnamed hmethM hstatic hkP hinitP hy (g := g) hg (argsL := argsL) (rest := rest) (hlen _ hsigM) hstack hdg
  obtain ⟨v, B, X', hpost, hsteps⟩ := hK m meth c ⟨T.setVm vm₁, locs, cells, slots⟩ { g with stack := rest } (.invokestatic index) mk argsL.toArray X₁ hg hsize hdg hW (X₁.named hnamed) (hpre vm₁ X₁.warmed)
  exact ⟨v, vm₁, B, X₁.warmed, X', hpost, fun target h => hstep₁ _ fun acts => by rw [doInvoke_state]; exact hsteps.trans h⟩
theorem vx_runSW {y : MethodName} {bytes cc : ByteArray} {maxL nL mc ms n index : Nat} {ret : Option FieldType} {hh : List (Nat × Nat × Nat × Nat)} {ws : List Cond} {rm : Room} {Pc : Array Value → State → Prop} {Qc : Array Value → State → Outcome → State → Prop} {free : Addr → Prop} {Ts : List Cond} {own : String} {As rest : List Value} {g : JFrame}
    (S : CallFix p m c cc nL s args Ts own) (hM : Met l y ws rm Pc Qc mc ms free) (cw : vx_CSW R s args own index y bytes maxL ret hh ws rm mc ms n) (hp : PreS s H Pc As)
    (hg : g.method = m) (hn : As.length = n) (hsize : g.locals.size = nL) (hstack : g.stack = As.reverse ++ rest) (hW : 2 * g.monitorRoom + (rest.map fun v => v.category).sum ≤ 8) (hdg : decode cc g.pc = .ok (.invokestatic index, 3)) (hf : cells + mc ≤ R.cells ∧ slots + ms ≤ R.slots) :
    va_Run p l e R s m args below meth c H locs cells slots mc ms g rest (Qc As.toArray) (free) := by
  obtain ⟨⟨hrc, hrs, hfr, hlo, hws, hcw⟩, hcode, hini, hy, hlen, hl, hstt⟩ := cw
  have hK : Back l R p e below s args y 3 8 (PreOf R mc ms Pc) (PostOf Qc mc ms free) := va_backW (hh := hh) (bytes := bytes) (maxL := maxL) (ret := ret) hM hp.1 hrc hrs hfr hlo hws hcw (fun a' U hW => word_at hW (Or.inl (by first | rfl | simp [Cond.onTables, Cond.keeps, Cond.steady])) hini)
  obtain ⟨hx, hb, hml, ho, -⟩ := S
  intro T hT X
  obtain ⟨v, vm₁, ⟨U', l2, c2, s2⟩, hW₁, X', ⟨g', mk, t, L, e1, e2, hq, h1, hL, h2, h3⟩, st⟩ := vx_callSW X hx (hh := hh) (bytes := bytes) (maxL := maxL) (ret := ret) ho hl hstt hini hcode hy hK hg (hsize.trans hml.symm) (argsL := As) (rest := rest) (fun sig h => hn.trans (hlen sig h)) hstack hW (by rw [hb]; exact hdg)
    (fun vm₁ hW₁ => ⟨hf.1, hf.2, hp.2 (T.setVm vm₁) hT hW₁⟩)
  dsimp only [Pt.U, Pt.locs, Pt.cells, Pt.slots] at X' e1 e2 h1 h2 h3 st
  subst h1; subst h2; subst h3
  exact ⟨v, (T.setVm vm₁).calling g' mk As.toArray, t, U', L, hT, X', hL, e1, e2, hq, st⟩
/-- not caught here, past rows that name other classes: it goes on to the caller -/
theorem vx_outP {p : Program} {l : Launch} {e : Env} {R : Room} {s : State} {m : MethodId} {args : Array Value} {below : List Frame} {meth : Method} {c : Code} {H : Heap} {locs : List Loc} {cells slots : Nat} {free : Addr → Prop} {ls : Array Slot} {rest : List Value} {Qc : Array Value → State → Outcome → State → Prop} {XC : String → State → State → Prop}
    {pc : Nat} {own E : String} {ce : Cell} {q : Addr} {mc ms : Nat} (hown : s.vm.findClass own = some m.cls) (hlocks : meth.locks = false)
    (hpass : ∀ z ∈ c.exceptionTable.toList, covers z pc = false ∨ (z.catchType ≠ 0 ∧ ∃ nm : String, (Cond.classLink own z.catchType nm).before args s = true ∧ va_Nc E nm s)) (hcell : H[q]? = some ce) (hv : ce.vm = .none) (hcl : s.vm.findClass E = some ce.cls)
    (hx : ∀ t : State, t.heap = H → s.vm.Alike t.vm → XC E s t) (hf : ∀ z ∈ locs, free z.base) (hc : cells ≤ mc) (hs : slots ≤ ms) :
    vx_W p l e R s m args below meth c H locs cells slots (vx_MQ below Qc XC args s mc ms free) (F0 m pc ls rest) q := by
  intro T hT X
  have hpl : e.platform.magicAccessors = ({} : Platform).magicAccessors := by rw [X.admits.platform]
  obtain ⟨vm', hW', X', st⟩ := X.outThrough hlocks q (g := F0 m pc ls rest) rfl rfl rfl (cell := ce) (by rw [hT]; exact hcell) (by rw [hv]; rfl)
    (by obtain ⟨k9, h9, -⟩ := Vm.findClass_spec hcl; exact ⟨k9, h9⟩) (fun z hz => by
      rcases hpass z hz with h | ⟨hz0, nm, hl1, hn1⟩
      · exact Or.inl h
      · obtain ⟨c6, hc6, hcl6⟩ := Cond.classLink_spec hown hl1 e.platform hpl
        obtain ⟨a8, b8, h1, h2, h3⟩ := hn1
        cases Option.some.inj (h1.symm.trans hcl)
        cases Option.some.inj (h2.symm.trans hc6)
        exact Or.inr ⟨hz0, _, hcl6, h3⟩)
  obtain ⟨g₀, hfr⟩ := X'.frames_eq
  have hcell9 : ((T.setVm vm').setFrames (.throwing q :: below)).heap[q]? = some ce := by
    show T.heap[q]? = some ce
    rw [hT]; exact hcell
  have hend : Ended ((T.setVm vm').setFrames (.throwing q :: below)) below (.threw q) := State.frames_setFrames _ (State.cur_lt_of_frames hfr)
  refine ⟨(T.setVm vm').setFrames (.throwing q :: below), ?_, .threw q, X'.here.running, hend, Or.inr ⟨q, rfl, E, ce, locs, hx _ hT (X'.ends _).1.alike, hcell9, hv, hcl, (X'.ends _).1, (X'.ends _).2.mono hc hs, hf⟩⟩
  rw [X.pushThrowing_eq]
  exact st
/-- a thing of a world lies in the heap -/
theorem vx_lt {D : va_G} {cl : List vw_C} {ws : va_W} {H1 : Heap} (h : va_P D cl ws H1) {k : Nat} {q : Nat × va_E} (hk : ws[k]? = some q) : q.1 < H1.size := (h k q hk).lt
end VXS
/-! ===== END ===== -/
/-! ===== BEGIN methods with a table of their own: called by a name, returning or throwing ===== -/
section VXH
/-! vx_backW, vx_callVX, vx_callSX, vx_callVW, vx_runVW, vx_runVX, vx_runSX, vx_ofWH follow the same proofs as their sisters above (Free/Laws.lean, Shelf42/LK1.lean); vx_outP calls Shelf42/NT130.lean (outThrough). -/
section
variable {l : Launch} {R : Room} {p : Program} {e : Env} {below : List Frame} {s : State} {sargs : Array Value} {y : MethodName} {len W9 : Nat}
theorem vx_backW {ws : List Cond} {rm : Room} {Pc : Array Value → State → Prop} {Qc : Array Value → State → Outcome → State → Prop} {XC : String → State → State → Prop} {mc ms : Nat} {free : Addr → Prop} {bytes : ByteArray} {maxL : Nat} {ret : Option FieldType} {hh : List (Nat × Nat × Nat × Nat)}
    (hM : vx_Met l y ws rm Pc Qc XC mc ms free) (hblind : FrameBlind Pc) (hrc : rm.cells = mc) (hrs : rm.slots = ms)
    (hframes : rm.frames + 1 ≤ R.frames) (hlocals : W9 + (maxL + 11) + rm.locals ≤ R.locals)
    (hws : ∀ w ∈ ws, ∀ a' U, s.WarmedH U.vm → w.before a' U = true) (hcode : Cond.codeWith y bytes maxL ret hh ∈ ws) (hinit : ∀ a' U, s.WarmedH U.vm → (Cond.initialized y.cls).before a' U = true) :
    vx_Back l R p e below s sargs y len W9 (PreOf R mc ms Pc) (PostOf Qc mc ms free) (vx_Post XC mc ms free) := by
  intro m meth c A g ig mk a X hg hsize hdg hW hn hp
  have h1 : (headSpec ws rm).pre.before a A.U = true := atoms_intro fun w hw => hws w hw _ _ X.warmed
  have h2 : (Cond.codeWith y bytes maxL ret hh).before a A.U = true := hws _ hcode _ _ X.warmed
  have h3 : (Cond.initialized y.cls).before a A.U = true := hinit _ _ X.warmed
  have h4 : A.cells + (headSpec ws rm).room.cells ≤ R.cells := by rw [show (headSpec ws rm).room.cells = mc from hrc]; exact hp.1
  have h5 : A.slots + (headSpec ws rm).room.slots ≤ R.slots := by rw [show (headSpec ws rm).room.slots = ms from hrs]; exact hp.2.1
  have hPc : Pc a (A.U.calling g mk a) := hblind _ _ _ _ hp.2.2
  obtain ⟨U, Ls, c0, s0⟩ := A
  dsimp only [Pt.U, Pt.locs, Pt.cells, Pt.slots] at h1 h2 h3 h4 h5 X hn hPc ⊢
  obtain ⟨m9, methY, cY, hn9, hmY, hcY, -, hlY, -⟩ := Cond.codeWith_spec h2
  cases Option.some.inj (hn9.symm.trans hn)
  obtain ⟨kY, hkY, -⟩ := className_of_methodNamed hn
  have hinitY : kY.init = .initialized := Cond.initialized_spec (findClass_of_methodNamed hn) hkY h3
  have h : At U g.method c below := by rw [hg]; exact X.here
  have hlocals9 : W9 + (maxL + 11) + (headSpec ws rm).room.locals ≤ R.locals := hlocals
  have happ : (headSpec ws rm).appliesLoose y e.platform (U.calling g mk a) = true :=
    Spec.appliesLoose_calling (g := g) h hdg hn hkY hinitY
      (X.room_calling (g := g) (R' := (headSpec ws rm).room) hsize hmY hcY hframes (by rw [hlY]; omega) h4 h5) h1
  obtain ⟨mid, hmid⟩ := h.above
  have hfr : (U.setTop g).frames = (.java g :: mid) ++ below := by rw [State.frames_setTop' g h.top, hmid]; rfl
  obtain ⟨o, s₂, hsteps, -, hend, hq⟩ := Steps.callFree hM p X.admits X.cas X.clock (acts := []) hfr happ hPc trivial
  have hq' : vx_Q Qc XC mc ms free a (U.calling g mk a) o s₂ := hq
  rw [State.frames_setTop' g h.top] at hend
  obtain ⟨g₀, hg0⟩ := Option.isSome_iff_exists.mp h.top
  obtain ⟨r, hr⟩ := State.topJava?_eq_some.mp hg0
  have hr' : (({ U with heap := s₂.heap, slotsUsed := s₂.slotsUsed } : State).setVm s₂.vm).frames = .java g₀ :: r := hr
  rcases hq' with ⟨hqc, L, hfe, hL⟩ | ⟨q, rfl, E, ce, L, hx, hce, hcv, hcl, hW₂, hsm, hL⟩
  · obtain ⟨⟨v, rfl⟩, hW₂, e2, q2, q3, q4, q5, q6⟩ := id hfe
    have e3 : s₂ = ({ (U.calling g mk a).setFrames s₂.frames with heap := s₂.heap, slotsUsed := s₂.slotsUsed } : State).setVm s₂.vm := by
      have : s₂ = ({ s₂ with vm := (U.calling g mk a).vm } : State).setVm s₂.vm := rfl
      rw [e2] at this
      exact this
    obtain ⟨c₂, i₂, len₂, hc₂, hd₂, hf₂⟩ := hend
    have hW' : U.WarmedH s₂.vm := hW₂
    have hcc : c₂ = c := by
      have h1 : s₂.code? g.method = U.code? g.method := by
        rw [State.code?_eq, State.code?_eq, hW'.alike.method?]
      exact Option.some.inj (hc₂.symm.trans (h1.trans h.code))
    subst hcc
    have hlen : len₂ = len := by rw [hdg] at hd₂; cases hd₂; rfl
    subst hlen
    have hs₂ : s₂ = (({ U with heap := s₂.heap, slotsUsed := s₂.slotsUsed } : State).setVm s₂.vm).setTop { g with pc := g.pc + len₂, stack := v.toList ++ g.stack } := by
      refine e3.trans ?_
      rw [hf₂, State.calling_eq h.top, State.setFrames_setFrames, State.setTop_of_frames _ hr', hr]
      rfl
    have hsame : U.sameButNew ({ U with heap := s₂.heap, slotsUsed := s₂.slotsUsed } : State) L mc ms := by
      refine ⟨?_, q2, q3, q4, q5, q6⟩
      obtain ⟨t, ht, -⟩ := State.frames_cons hr
      show ({ U with heap := s₂.heap, slotsUsed := s₂.slotsUsed } : State) = { U.setFrames U.frames with heap := s₂.heap, slotsUsed := s₂.slotsUsed }
      rw [State.setFrames_self ht]
    subst hg
    refine Or.inl ⟨v, ⟨(({ U with heap := s₂.heap, slotsUsed := s₂.slotsUsed } : State).setVm s₂.vm), Ls ++ L, c0 + mc, s0 + ms⟩,
      ⟨X.admits, X.cas, X.clock, X.frames, X.room, X.hears, X.method, X.code, (X.here.setHeapUsed s₂.heap s₂.slotsUsed).setVm hW'.alike, X.tail, State.WarmedH.trans X.warmed hW', X.limits, X.bytes, X.same.trans (hsame.setVm s.vm)⟩,
      ⟨g, mk, s₂, L, rfl, rfl, hqc, rfl, hL, rfl, rfl⟩, ?_⟩
    show Steps p.tables e below _ ((({ U with heap := s₂.heap, slotsUsed := s₂.slotsUsed } : State).setVm s₂.vm).setTop { g with pc := g.pc + len₂, stack := v.toList ++ g.stack })
    rw [← hs₂]
    exact hsteps
  · obtain ⟨e2, q2, q3, q4, q5, q6⟩ := id hsm
    have e3 : s₂ = ({ (U.calling g mk a).setFrames s₂.frames with heap := s₂.heap, slotsUsed := s₂.slotsUsed } : State).setVm s₂.vm := by
      have : s₂ = ({ s₂ with vm := (U.calling g mk a).vm } : State).setVm s₂.vm := rfl
      rw [e2] at this
      exact this
    have hf₂ : s₂.frames = .throwing q :: .java g :: U.frames.tail := hend
    have hW' : U.WarmedH s₂.vm := hW₂
    have hs₂ : s₂ = ((({ U with heap := s₂.heap, slotsUsed := s₂.slotsUsed } : State).setVm s₂.vm).setTop g).pushFrame (.throwing q) := by
      refine e3.trans ?_
      rw [hf₂, State.calling_eq h.top, State.setFrames_setFrames, State.pushFrame, State.frames_setTop _ hr', State.setTop_of_frames _ hr', State.setFrames_setFrames, hr]
      rfl
    have hsame : U.sameButNew ({ U with heap := s₂.heap, slotsUsed := s₂.slotsUsed } : State) L mc ms := by
      refine ⟨?_, q2, q3, q4, q5, q6⟩
      obtain ⟨t, ht, -⟩ := State.frames_cons hr
      show ({ U with heap := s₂.heap, slotsUsed := s₂.slotsUsed } : State) = { U.setFrames U.frames with heap := s₂.heap, slotsUsed := s₂.slotsUsed }
      rw [State.setFrames_self ht]
    subst hg
    refine Or.inr ⟨q, ⟨(({ U with heap := s₂.heap, slotsUsed := s₂.slotsUsed } : State).setVm s₂.vm), Ls ++ L, c0 + mc, s0 + ms⟩,
      ⟨X.admits, X.cas, X.clock, X.frames, X.room, X.hears, X.method, X.code, (X.here.setHeapUsed s₂.heap s₂.slotsUsed).setVm hW'.alike, X.tail, State.WarmedH.trans X.warmed hW', X.limits, X.bytes, X.same.trans (hsame.setVm s.vm)⟩,
      ⟨g, mk, s₂, L, E, ce, rfl, rfl, hx, hce, hcv, hcl, rfl, hL, rfl, rfl⟩, ?_⟩
    show Steps p.tables e below _ (((({ U with heap := s₂.heap, slotsUsed := s₂.slotsUsed } : State).setVm s₂.vm).setTop g).pushFrame (.throwing q))
    rw [← hs₂]
    exact hsteps
end
variable {p : Program} {l : Launch} {e : Env} {R : Room} {s : State} {m : MethodId} {args : Array Value} {below : List Frame} {meth : Method} {c : Code} {T : State} {H : Heap} {locs : List Loc} {cells slots : Nat}
theorem vx_callVX (X : Stand p l e R s m args below meth c T locs cells slots) (hexec : p.tables.exec = Jvm.exec) {own C : String} {index : Nat} {y : MethodName} {bytes : ByteArray} {maxL : Nat} {ret : Option FieldType} {hh : List (Nat × Nat × Nat × Nat)}
    (hown : s.vm.findClass own = some m.cls) (hlink : (Cond.methodLink own index y).before args s = true) (hinst : (Cond.instanceMethod y).before args s = true) (hsel : (Cond.selects C y y).before args s = true)
    (hcode : (Cond.codeWith y bytes maxL ret hh).before args s = true) (hy : y.cls ≠ "java/lang/invoke/MethodHandle" ∧ y.cls ≠ "java/lang/invoke/VarHandle")
    {W9 : Nat} {Pre : Pt → Array Value → Prop} {Post : Pt → Array Value → Option Value → Pt → Prop} {PostX : Pt → Array Value → Addr → Pt → Prop} (hK : vx_Back l R p e below s args y 3 W9 Pre Post PostX)
    {b : Addr} {cellB : Cell} (hcell : T.heap[b]? = some cellB) (hobj : cellB.vm.isStatics = false) (hcls : s.vm.findClass C = some cellB.cls)
    {g : JFrame} (hg : g.method = m) (hsize : g.locals.size = c.maxLocals) {argsL rest : List Value} (hlen : ∀ sig, parseMethodDescriptor y.desc = some sig → argsL.length = sig.parameters.length)
    (hstack : g.stack = argsL.reverse ++ .ref b :: rest) (hW : 2 * g.monitorRoom + (rest.map fun v => v.category).sum ≤ W9) (hdg : decode c.code g.pc = .ok (.invokevirtual index, 3))
    (hpre : ∀ vm₁, s.WarmedH vm₁ → Pre ⟨T.setVm vm₁, locs, cells, slots⟩ (Value.ref b :: argsL).toArray) :
    (∃ (v : Option Value) (vm₁ : Vm) (B : Pt), s.WarmedH vm₁ ∧ Stand p l e R s m args below meth c B.U B.locs B.cells B.slots ∧ Post ⟨T.setVm vm₁, locs, cells, slots⟩ (Value.ref b :: argsL).toArray v B ∧
      ∀ target, Steps p.tables e below (B.U.setTop { g with pc := g.pc + 3, stack := v.toList ++ rest }) target → Steps p.tables e below (T.setTop g) target) ∨
    (∃ (q : Addr) (vm₁ : Vm) (B : Pt), s.WarmedH vm₁ ∧ Stand p l e R s m args below meth c B.U B.locs B.cells B.slots ∧ PostX ⟨T.setVm vm₁, locs, cells, slots⟩ (Value.ref b :: argsL).toArray q B ∧
      Steps p.tables e below (T.setTop g) ((B.U.setTop { g with stack := rest }).pushFrame (.throwing q))) := by
  obtain ⟨mk, methM, hnamed, hmethM, hstM, habM⟩ := Cond.instanceMethod_spec hinst
  obtain ⟨m8, methM', cM, hn8, hmethM', -, -, -, -, -, -, hsigM⟩ := Cond.codeWith_spec hcode
  cases Option.some.inj (hn8.symm.trans hnamed)
  cases hmethM.symm.trans hmethM'
  obtain ⟨c2, r2, m2, q1, q2, q3, q4, kP, hkP, hkPi⟩ := Cond.selects_spec hsel
  cases hcls.symm.trans q1
  cases (State.methodFound?_of_named hnamed hy).symm.trans q2
  cases hnamed.symm.trans q3
  have hselP : selectMethod e.platform s.vm cellB.cls mk = .method mk := by rw [Launch.admits_selectMethod X.admits]; exact q4
  obtain ⟨vm₁, X₁, hstep₁⟩ := X.invokevirtual hexec hown hlink hnamed hmethM hstM hkP hkPi hy (a := b) (cell := cellB) hcell
    (fun z h => by rw [h] at hobj; cases hobj) hselP hmethM habM hkP hkPi (g := g) hg (argsL := argsL) (rest := rest) (hlen _ hsigM) hstack hdg
  rcases hK m meth c ⟨T.setVm vm₁, locs, cells, slots⟩ { g with stack := rest } (.invokevirtual index) mk (Value.ref b :: argsL).toArray X₁ hg hsize hdg hW (X₁.named hnamed) (hpre vm₁ X₁.warmed) with ⟨v, B, X', hpost, hsteps⟩ | ⟨q, B, X', hpost, hsteps⟩
  · exact Or.inl ⟨v, vm₁, B, X₁.warmed, X', hpost, fun target h => hstep₁ _ fun acts => by rw [doInvoke_state]; exact hsteps.trans h⟩
  · exact Or.inr ⟨q, vm₁, B, X₁.warmed, X', hpost, hstep₁ _ fun acts => by rw [doInvoke_state]; exact hsteps⟩
theorem vx_callSX (X : Stand p l e R s m args below meth c T locs cells slots) (hexec : p.tables.exec = Jvm.exec) {own : String} {index : Nat} {y : MethodName} {bytes : ByteArray} {maxL : Nat} {ret : Option FieldType} {hh : List (Nat × Nat × Nat × Nat)}
    (hown : s.vm.findClass own = some m.cls) (hlink : (Cond.methodLink own index y).before args s = true) (hstat : (Cond.static y).before args s = true) (hinit : (Cond.initialized y.cls).before args s = true)
    (hcode : (Cond.codeWith y bytes maxL ret hh).before args s = true) (hy : y.cls ≠ "java/lang/invoke/MethodHandle" ∧ y.cls ≠ "java/lang/invoke/VarHandle")
    {W9 : Nat} {Pre : Pt → Array Value → Prop} {Post : Pt → Array Value → Option Value → Pt → Prop} {PostX : Pt → Array Value → Addr → Pt → Prop} (hK : vx_Back l R p e below s args y 3 W9 Pre Post PostX)
    {g : JFrame} (hg : g.method = m) (hsize : g.locals.size = c.maxLocals) {argsL rest : List Value} (hlen : ∀ sig, parseMethodDescriptor y.desc = some sig → argsL.length = sig.parameters.length)
    (hstack : g.stack = argsL.reverse ++ rest) (hW : 2 * g.monitorRoom + (rest.map fun v => v.category).sum ≤ W9) (hdg : decode c.code g.pc = .ok (.invokestatic index, 3))
    (hpre : ∀ vm₁, s.WarmedH vm₁ → Pre ⟨T.setVm vm₁, locs, cells, slots⟩ argsL.toArray) :
    (∃ (v : Option Value) (vm₁ : Vm) (B : Pt), s.WarmedH vm₁ ∧ Stand p l e R s m args below meth c B.U B.locs B.cells B.slots ∧ Post ⟨T.setVm vm₁, locs, cells, slots⟩ argsL.toArray v B ∧
      ∀ target, Steps p.tables e below (B.U.setTop { g with pc := g.pc + 3, stack := v.toList ++ rest }) target → Steps p.tables e below (T.setTop g) target) ∨
    (∃ (q : Addr) (vm₁ : Vm) (B : Pt), s.WarmedH vm₁ ∧ Stand p l e R s m args below meth c B.U B.locs B.cells B.slots ∧ PostX ⟨T.setVm vm₁, locs, cells, slots⟩ argsL.toArray q B ∧
      Steps p.tables e below (T.setTop g) ((B.U.setTop { g with stack := rest }).pushFrame (.throwing q))) := by
  obtain ⟨mk, methM, cM, hnamed, hmethM, -, -, -, -, -, -, hsigM⟩ := Cond.codeWith_spec hcode
  have hstatic : methM.isStatic = true := Cond.static_spec hnamed hmethM hstat
  obtain ⟨kP, hkP, -⟩ := className_of_methodNamed hnamed
  have hinitP : kP.init = .initialized := Cond.initialized_spec (findClass_of_methodNamed hnamed) hkP hinit
  obtain ⟨vm₁, X₁, hstep₁⟩ := X.invokestatic hexec hown hlink hnamed hmethM hstatic hkP hinitP hy (g := g) hg (argsL := argsL) (rest := rest) (hlen _ hsigM) hstack hdg
  rcases hK m meth c ⟨T.setVm vm₁, locs, cells, slots⟩ { g with stack := rest } (.invokestatic index) mk argsL.toArray X₁ hg hsize hdg hW (X₁.named hnamed) (hpre vm₁ X₁.warmed) with ⟨v, B, X', hpost, hsteps⟩ | ⟨q, B, X', hpost, hsteps⟩
  · exact Or.inl ⟨v, vm₁, B, X₁.warmed, X', hpost, fun target h => hstep₁ _ fun acts => by rw [doInvoke_state]; exact hsteps.trans h⟩
  · exact Or.inr ⟨q, vm₁, B, X₁.warmed, X', hpost, hstep₁ _ fun acts => by rw [doInvoke_state]; exact hsteps⟩
theorem vx_callVW (X : Stand p l e R s m args below meth c T locs cells slots) (hexec : p.tables.exec = Jvm.exec) {own C : String} {index : Nat} {y : MethodName} {bytes : ByteArray} {maxL : Nat} {ret : Option FieldType} {hh : List (Nat × Nat × Nat × Nat)}
    (hown : s.vm.findClass own = some m.cls) (hlink : (Cond.methodLink own index y).before args s = true) (hinst : (Cond.instanceMethod y).before args s = true) (hsel : (Cond.selects C y y).before args s = true)
    (hcode : (Cond.codeWith y bytes maxL ret hh).before args s = true) (hy : y.cls ≠ "java/lang/invoke/MethodHandle" ∧ y.cls ≠ "java/lang/invoke/VarHandle")
    {W9 : Nat} {Pre : Pt → Array Value → Prop} {Post : Pt → Array Value → Option Value → Pt → Prop} (hK : Back l R p e below s args y 3 W9 Pre Post)
    {b : Addr} {cellB : Cell} (hcell : T.heap[b]? = some cellB) (hobj : cellB.vm.isStatics = false) (hcls : s.vm.findClass C = some cellB.cls)
    {g : JFrame} (hg : g.method = m) (hsize : g.locals.size = c.maxLocals) {argsL rest : List Value} (hlen : ∀ sig, parseMethodDescriptor y.desc = some sig → argsL.length = sig.parameters.length)
    (hstack : g.stack = argsL.reverse ++ .ref b :: rest) (hW : 2 * g.monitorRoom + (rest.map fun v => v.category).sum ≤ W9) (hdg : decode c.code g.pc = .ok (.invokevirtual index, 3))
    (hpre : ∀ vm₁, s.WarmedH vm₁ → Pre ⟨T.setVm vm₁, locs, cells, slots⟩ (Value.ref b :: argsL).toArray) :
    ∃ (v : Option Value) (vm₁ : Vm) (B : Pt), s.WarmedH vm₁ ∧ Stand p l e R s m args below meth c B.U B.locs B.cells B.slots ∧ Post ⟨T.setVm vm₁, locs, cells, slots⟩ (Value.ref b :: argsL).toArray v B ∧
      ∀ target, Steps p.tables e below (B.U.setTop { g with pc := g.pc + 3, stack := v.toList ++ rest }) target → Steps p.tables e below (T.setTop g) target := by
  obtain ⟨mk, methM, hnamed, hmethM, hstM, habM⟩ := Cond.instanceMethod_spec hinst
  obtain ⟨m8, methM', cM, hn8, hmethM', -, -, -, -, -, -, hsigM⟩ := Cond.codeWith_spec hcode
  cases Option.some.inj (hn8.symm.trans hnamed)
  cases hmethM.symm.trans hmethM'
  obtain ⟨c2, r2, m2, q1, q2, q3, q4, kP, hkP, hkPi⟩ := Cond.selects_spec hsel
  cases hcls.symm.trans q1
  cases (State.methodFound?_of_named hnamed hy).symm.trans q2
  cases hnamed.symm.trans q3
  have hselP : selectMethod e.platform s.vm cellB.cls mk = .method mk := by rw [Launch.admits_selectMethod X.admits]; exact q4
  obtain ⟨vm₁, X₁, hstep₁⟩ := X.invokevirtual hexec hown hlink hnamed hmethM hstM hkP hkPi hy (a := b) (cell := cellB) hcell
    (fun z h => by rw [h] at hobj; cases hobj) hselP hmethM habM hkP hkPi (g := g) hg (argsL := argsL) (rest := rest) (hlen _ hsigM) hstack hdg
  obtain ⟨v, B, X', hpost, hsteps⟩ := hK m meth c ⟨T.setVm vm₁, locs, cells, slots⟩ { g with stack := rest } (.invokevirtual index) mk (Value.ref b :: argsL).toArray X₁ hg hsize hdg hW (X₁.named hnamed) (hpre vm₁ X₁.warmed)
  exact ⟨v, vm₁, B, X₁.warmed, X', hpost, fun target h => hstep₁ _ fun acts => by rw [doInvoke_state]; exact hsteps.trans h⟩
abbrev vx_CVW (R : Room) (s : State) (args : Array Value) (own C : String) (index : Nat) (y : MethodName) (bytes : ByteArray) (maxL : Nat) (ret : Option FieldType) (hh : List (Nat × Nat × Nat × Nat)) (ws : List Cond) (rm : Room) (mc ms n : Nat) : Prop :=
  (rm.cells = mc ∧ rm.slots = ms ∧ rm.frames + 1 ≤ R.frames ∧ 8 + (maxL + 11) + rm.locals ≤ R.locals ∧ (∀ w ∈ ws, ∀ (a' : Array Value) (U : State), s.WarmedH U.vm → w.before a' U = true) ∧ Cond.codeWith y bytes maxL ret hh ∈ ws) ∧
  (Cond.codeWith y bytes maxL ret hh).before args s = true ∧ (Cond.initialized y.cls).before args s = true ∧ (y.cls ≠ "java/lang/invoke/MethodHandle" ∧ y.cls ≠ "java/lang/invoke/VarHandle") ∧
  (∀ sig, parseMethodDescriptor y.desc = some sig → n = sig.parameters.length) ∧ (Cond.methodLink own index y).before args s = true ∧ (Cond.instanceMethod y).before args s = true ∧ (Cond.selects C y y).before args s = true
theorem vx_cwVW {own C : String} {index maxL mc ms : Nat} {y : MethodName} {bytes : ByteArray} {ret : Option FieldType} {hh : List (Nat × Nat × Nat × Nat)} {Ts ws ws' : List Cond} {rm : Room} (n : Nat) (ht : ∀ w ∈ Ts, w.before args s = true) (hT : GoodIn Ts (wsV own index C y ws)) (hw : ws = Cond.codeWith y bytes maxL ret hh :: ws') (hrc : rm.cells = mc) (hrs : rm.slots = ms)
    (hd : y.cls = C ∧ y.cls ≠ "java/lang/invoke/MethodHandle" ∧ y.cls ≠ "java/lang/invoke/VarHandle" ∧ (parseMethodDescriptor y.desc).map (fun d => d.parameters.length) = some n) (hR : rm.frames + 1 ≤ R.frames ∧ 8 + (maxL + 11) + rm.locals ≤ R.locals) :
    vx_CVW R s args own C index y bytes maxL ret hh ws rm mc ms n := by
  obtain ⟨hC, hd⟩ := hd
  subst hC
  have ok : ∀ w ∈ wsV own index y.cls y ws, w.before args s = true := fun w h => ht w (hT w h).1
  have hG : GoodIn Ts ws := fun w h => hT w (by unfold wsV; exact List.mem_append_right _ h)
  have hc : Cond.codeWith y bytes maxL ret hh ∈ ws := by rw [hw]; exact List.mem_cons_self
  refine ⟨⟨hrc, hrs, hR.1, hR.2, pay_in ht hG, hc⟩, ht _ (hG _ hc).1, ok _ (by simp [wsV]), ⟨hd.1, hd.2.1⟩, fun sig h => ?_, ok _ (by simp [wsV]), ok _ (by simp [wsV]), ok _ (by simp [wsV])⟩
  have h2 := hd.2.2
  rw [h] at h2
  exact (Option.some.inj h2).symm
theorem vx_runVW {y : MethodName} {bytes cc : ByteArray} {maxL nL mc ms n index : Nat} {ret : Option FieldType} {hh : List (Nat × Nat × Nat × Nat)} {ws : List Cond} {rm : Room} {Pc : Array Value → State → Prop} {Qc : Array Value → State → Outcome → State → Prop} {free : Addr → Prop} {Ts : List Cond} {own C : String} {b : Addr} {As rest : List Value} {g : JFrame}
    (S : CallFix p m c cc nL s args Ts own) (hM : Met l y ws rm Pc Qc mc ms free) (cw : vx_CVW R s args own C index y bytes maxL ret hh ws rm mc ms n) (hp : PreV s H C b Pc As)
    (hg : g.method = m) (hn : As.length = n) (hsize : g.locals.size = nL) (hstack : g.stack = As.reverse ++ .ref b :: rest) (hW : 2 * g.monitorRoom + (rest.map fun v => v.category).sum ≤ 8) (hdg : decode cc g.pc = .ok (.invokevirtual index, 3)) (hf : cells + mc ≤ R.cells ∧ slots + ms ≤ R.slots) :
    va_Run p l e R s m args below meth c H locs cells slots mc ms g rest (Qc (Value.ref b :: As).toArray) free := by
  obtain ⟨⟨hrc, hrs, hfr, hlo, hws, hcw⟩, hcode, hini, hy, hlen, hl, hin, hse⟩ := cw
  have hK : Back l R p e below s args y 3 8 (PreOf R mc ms Pc) (PostOf Qc mc ms free) := va_backW (hh := hh) (bytes := bytes) (maxL := maxL) (ret := ret) hM hp.1 hrc hrs hfr hlo hws hcw (fun a' U hW => word_at hW (Or.inl (by first | rfl | simp [Cond.onTables, Cond.keeps, Cond.steady])) hini)
  obtain ⟨hx, hb, hml, ho, -⟩ := S
  obtain ⟨-, ⟨cellB, hcB, hoB, hclB⟩, hPc⟩ := hp
  intro T hT X
  obtain ⟨v, vm₁, ⟨U', l2, c2, s2⟩, hW₁, X', ⟨g', mk, t, L, e1, e2, hq, h1, hL, h2, h3⟩, st⟩ := vx_callVW X hx (C := C) (hh := hh) (bytes := bytes) (maxL := maxL) (ret := ret) ho hl hin hse hcode hy hK (by rw [hT]; exact hcB) hoB hclB hg (hsize.trans hml.symm) (argsL := As) (rest := rest) (fun sig h => hn.trans (hlen sig h)) hstack hW (by rw [hb]; exact hdg)
    (fun vm₁ hW₁ => ⟨hf.1, hf.2, hPc (T.setVm vm₁) hT hW₁⟩)
  dsimp only [Pt.U, Pt.locs, Pt.cells, Pt.slots] at X' e1 e2 h1 h2 h3 st
  subst h1; subst h2; subst h3
  exact ⟨v, (T.setVm vm₁).calling g' mk (Value.ref b :: As).toArray, t, U', L, hT, X', hL, e1, e2, hq, st⟩
section
variable {y : MethodName} {bytes cc : ByteArray} {maxL nL mc ms n index : Nat} {ret : Option FieldType} {ws : List Cond} {rm : Room} {Pc : Array Value → State → Prop} {Qc : Array Value → State → Outcome → State → Prop} {XC : String → State → State → Prop} {free : Addr → Prop} {Ts : List Cond} {own C : String} {b : Addr} {As rest : List Value} {g : JFrame}
theorem vx_runVX {hh : List (Nat × Nat × Nat × Nat)} (S : CallFix p m c cc nL s args Ts own) (hM : vx_Met l y ws rm Pc Qc XC mc ms free) (cw : vx_CVW R s args own C index y bytes maxL ret hh ws rm mc ms n) (hp : PreV s H C b Pc As)
    (hg : g.method = m) (hn : As.length = n) (hsize : g.locals.size = nL) (hstack : g.stack = As.reverse ++ .ref b :: rest) (hW : 2 * g.monitorRoom + (rest.map fun v => v.category).sum ≤ 8) (hdg : decode cc g.pc = .ok (.invokevirtual index, 3)) (hf : cells + mc ≤ R.cells ∧ slots + ms ≤ R.slots) :
    vx_Run p l e R s m args below meth c H locs cells slots mc ms g rest (Qc (Value.ref b :: As).toArray) XC free := by
  obtain ⟨⟨hrc, hrs, hfr, hlo, hws, hcw⟩, hcode, hini, hy, hlen, hl, hin, hse⟩ := cw
  have hK : vx_Back l R p e below s args y 3 8 (PreOf R mc ms Pc) (PostOf Qc mc ms free) (vx_Post XC mc ms free) := vx_backW (hh := hh) (bytes := bytes) (maxL := maxL) (ret := ret) hM hp.1 hrc hrs hfr hlo hws hcw (fun a' U hW => word_at hW (Or.inl (by first | rfl | simp [Cond.onTables, Cond.keeps, Cond.steady])) hini)
  obtain ⟨hx, hb, hml, ho, -⟩ := S
  obtain ⟨-, ⟨cellB, hcB, hoB, hclB⟩, hPc⟩ := hp
  intro T hT X
  rcases vx_callVX X hx (C := C) (hh := hh) (bytes := bytes) (maxL := maxL) (ret := ret) ho hl hin hse hcode hy hK (by rw [hT]; exact hcB) hoB hclB hg (hsize.trans hml.symm) (argsL := As) (rest := rest) (fun sig h => hn.trans (hlen sig h)) hstack hW (by rw [hb]; exact hdg)
    (fun vm₁ hW₁ => ⟨hf.1, hf.2, hPc (T.setVm vm₁) hT hW₁⟩) with ⟨v, vm₁, ⟨U', l2, c2, s2⟩, hW₁, X', ⟨g', mk, t, L, e1, e2, hq, h1, hL, h2, h3⟩, st⟩ | ⟨q, vm₁, ⟨U', l2, c2, s2⟩, hW₁, X', ⟨g', mk, t, L, E, ce, e1, e2, hq, hce, hcv, hcl, h1, hL, h2, h3⟩, st⟩
  · dsimp only [Pt.U, Pt.locs, Pt.cells, Pt.slots] at X' e1 e2 h1 h2 h3 st
    subst h1; subst h2; subst h3
    exact Or.inl ⟨v, (T.setVm vm₁).calling g' mk (Value.ref b :: As).toArray, t, U', L, hT, X', hL, e1, e2, hq, st⟩
  · dsimp only [Pt.U, Pt.locs, Pt.cells, Pt.slots] at X' e1 e2 h1 h2 h3 st hcl
    subst h1; subst h2; subst h3
    exact Or.inr ⟨q, (T.setVm vm₁).calling g' mk (Value.ref b :: As).toArray, t, U', L, E, ce, hT, X', hL, e1, e2, hq, hce, hcv, vx_cls hW₁ hcl, st⟩
theorem vx_runSX {hh : List (Nat × Nat × Nat × Nat)} (S : CallFix p m c cc nL s args Ts own) (hM : vx_Met l y ws rm Pc Qc XC mc ms free) (cw : vx_CSW R s args own index y bytes maxL ret hh ws rm mc ms n) (hp : PreS s H Pc As)
    (hg : g.method = m) (hn : As.length = n) (hsize : g.locals.size = nL) (hstack : g.stack = As.reverse ++ rest) (hW : 2 * g.monitorRoom + (rest.map fun v => v.category).sum ≤ 8) (hdg : decode cc g.pc = .ok (.invokestatic index, 3)) (hf : cells + mc ≤ R.cells ∧ slots + ms ≤ R.slots) :
    vx_Run p l e R s m args below meth c H locs cells slots mc ms g rest (Qc As.toArray) XC free := by
  obtain ⟨⟨hrc, hrs, hfr, hlo, hws, hcw⟩, hcode, hini, hy, hlen, hl, hstt⟩ := cw
  have hK : vx_Back l R p e below s args y 3 8 (PreOf R mc ms Pc) (PostOf Qc mc ms free) (vx_Post XC mc ms free) := vx_backW (hh := hh) (bytes := bytes) (maxL := maxL) (ret := ret) hM hp.1 hrc hrs hfr hlo hws hcw (fun a' U hW => word_at hW (Or.inl (by first | rfl | simp [Cond.onTables, Cond.keeps, Cond.steady])) hini)
  obtain ⟨hx, hb, hml, ho, -⟩ := S
  intro T hT X
  rcases vx_callSX X hx (hh := hh) (bytes := bytes) (maxL := maxL) (ret := ret) ho hl hstt hini hcode hy hK hg (hsize.trans hml.symm) (argsL := As) (rest := rest) (fun sig h => hn.trans (hlen sig h)) hstack hW (by rw [hb]; exact hdg)
    (fun vm₁ hW₁ => ⟨hf.1, hf.2, hp.2 (T.setVm vm₁) hT hW₁⟩) with ⟨v, vm₁, ⟨U', l2, c2, s2⟩, hW₁, X', ⟨g', mk, t, L, e1, e2, hq, h1, hL, h2, h3⟩, st⟩ | ⟨q, vm₁, ⟨U', l2, c2, s2⟩, hW₁, X', ⟨g', mk, t, L, E, ce, e1, e2, hq, hce, hcv, hcl, h1, hL, h2, h3⟩, st⟩
  · dsimp only [Pt.U, Pt.locs, Pt.cells, Pt.slots] at X' e1 e2 h1 h2 h3 st
    subst h1; subst h2; subst h3
    exact Or.inl ⟨v, (T.setVm vm₁).calling g' mk As.toArray, t, U', L, hT, X', hL, e1, e2, hq, st⟩
  · dsimp only [Pt.U, Pt.locs, Pt.cells, Pt.slots] at X' e1 e2 h1 h2 h3 st hcl
    subst h1; subst h2; subst h3
    exact Or.inr ⟨q, (T.setVm vm₁).calling g' mk As.toArray, t, U', L, E, ce, hT, X', hL, e1, e2, hq, hce, hcv, vx_cls hW₁ hcl, st⟩
end
end VXH
theorem vx_ofWH {l : Launch} {y : MethodName} {ws ws' : List Cond} {rm : Room} {Pc : Array Value → State → Prop} {Qc : Array Value → State → Outcome → State → Prop} {XC : String → State → State → Prop} {mc ms : Nat} {free : Addr → Prop} {cc : ByteArray} {maxL : Nat} {ret : Option FieldType} {hh : List (Nat × Nat × Nat × Nat)}
    (hy : plainName y.cls = true) (hw : ws = Cond.codeWith y cc maxL ret hh :: ws')
    (body : ∀ p e s m args below meth c s₁, BodyLoose p l y (headSpec ws rm) cc maxL ret e s m args below meth c s₁ → c.maxLocals = maxL → Pc args s →
      W p l e (headSpec ws rm).room s m args below meth c s.heap [] 0 0 (vx_MQ below Qc XC args s mc ms free) (entryFrame m args maxL)) : vx_Met l y ws rm Pc Qc XC mc ms free := by
  refine MetFree.of_bodyS (code := cc) (maxLocals := maxL) (ret := ret) hy ?_ ?_
  · intro args s m h hn
    obtain ⟨m9, meth, c, hn9, h1, h2, h3, h4, -, h5, h6, -⟩ := Cond.codeWith_spec (atoms_spec (ws := ws) h _ (by rw [hw]; exact List.mem_cons_self))
    cases hn.symm.trans hn9
    exact ⟨meth, c, h1, h2, h3, h4, h5, h6⟩
  · intro p e s m args below meth c s₁ B hml hP _
    have hh0 : s₁.heap = s.heap := by rw [B.state]; rfl
    obtain ⟨t, a1, o, b1, b2, b3⟩ := body p e s m args below meth c s₁ B hml hP s₁ hh0 (Stand.of_body B)
    exact ⟨t, o, a1, b1, b2, b3⟩
/-! ===== END ===== -/
end
section
/-! the memory: places, each a row of ints; what the world's cells hold is read off it -/
abbrev Mem : Type := Nat → Nat → Int32
def setR (M : Mem) (p : Nat) (f : Nat → Int32) : Mem := fun q => if q = p then f else M q
def put (M : Mem) (p k : Nat) (v : Int32) : Mem := setR M p (upd (M p) k v)
/-- what lies at a place: kind (0..10: an object of that class; 20..25: an array), length, references -/
abbrev Shp : Type := Nat → Nat × Nat × (Nat → Option Nat)
/-- the shape of all that the law makes: place, kind, length, references; r: the row that the reference works on -/
def zl : List (Nat × Nat × List (Option Nat)) := [(9, 0, [some 1, some 3, some 5, some 10, some 23, some 24, some 130, none, some 143]), (7, 0, [some 2, none, none, none, none, none, none, none, none, none]), (21, 500, []), (6, 0, [none, none, none, none, some 4, none]), (20, 16, []), (4, 0, [some 6, some 7, some 8, some 9, none, none]), (20, 20, []), (20, 20, []), (20, 20, []), (20, 20, []), (5, 0, [some 11, some 12, none, some 13, some 15, some 19, none, none, none]), (1, 0, []), (20, 16, []), (8, 0, [some 14, none, none]), (20, 8, []), (3, 0, [none, some 16, some 17, some 18, none, none, none]), (20, 30, []), (20, 30, []), (20, 30, []), (3, 0, [none, some 20, some 21, some 22, none, none, none]), (20, 90, []), (20, 90, []), (20, 90, []), (1, 0, []), (0, 0, [some 25, none, none]), (24, 8, [some 26, some 39, some 52, some 65, some 78, some 91, some 104, some 117]), (5, 0, [some 27, some 28, none, some 29, some 31, some 35, none, none, none]), (1, 0, []), (20, 16, []), (8, 0, [some 30, none, none]), (20, 8, []), (3, 0, [none, some 32, some 33, some 34, none, none, none]), (20, 30, []), (20, 30, []), (20, 30, []), (3, 0, [none, some 36, some 37, some 38, none, none, none]), (20, 90, []), (20, 90, []), (20, 90, []), (5, 0, [some 40, some 41, none, some 42, some 44, some 48, none, none, none]), (1, 0, []), (20, 16, []), (8, 0, [some 43, none, none]), (20, 8, []), (3, 0, [none, some 45, some 46, some 47, none, none, none]), (20, 30, []), (20, 30, []), (20, 30, []), (3, 0, [none, some 49, some 50, some 51, none, none, none]), (20, 90, []), (20, 90, []), (20, 90, []), (5, 0, [some 53, some 54, none, some 55, some 57, some 61, none, none, none]), (1, 0, []), (20, 16, []), (8, 0, [some 56, none, none]), (20, 8, []), (3, 0, [none, some 58, some 59, some 60, none, none, none]), (20, 30, []), (20, 30, []), (20, 30, []), (3, 0, [none, some 62, some 63, some 64, none, none, none]), (20, 90, []), (20, 90, []), (20, 90, []), (5, 0, [some 66, some 67, none, some 68, some 70, some 74, none, none, none]), (1, 0, []), (20, 16, []), (8, 0, [some 69, none, none]), (20, 8, []), (3, 0, [none, some 71, some 72, some 73, none, none, none]), (20, 30, []), (20, 30, []), (20, 30, []), (3, 0, [none, some 75, some 76, some 77, none, none, none]), (20, 90, []), (20, 90, []), (20, 90, []), (5, 0, [some 79, some 80, none, some 81, some 83, some 87, none, none, none]), (1, 0, []), (20, 16, []), (8, 0, [some 82, none, none]), (20, 8, []), (3, 0, [none, some 84, some 85, some 86, none, none, none]), (20, 30, []), (20, 30, []), (20, 30, []), (3, 0, [none, some 88, some 89, some 90, none, none, none]), (20, 90, []), (20, 90, []), (20, 90, []), (5, 0, [some 92, some 93, none, some 94, some 96, some 100, none, none, none]), (1, 0, []), (20, 16, []), (8, 0, [some 95, none, none]), (20, 8, []), (3, 0, [none, some 97, some 98, some 99, none, none, none]), (20, 30, []), (20, 30, []), (20, 30, []), (3, 0, [none, some 101, some 102, some 103, none, none, none]), (20, 90, []), (20, 90, []), (20, 90, []), (5, 0, [some 105, some 106, none, some 107, some 109, some 113, none, none, none]), (1, 0, []), (20, 16, []), (8, 0, [some 108, none, none]), (20, 8, []), (3, 0, [none, some 110, some 111, some 112, none, none, none]), (20, 30, []), (20, 30, []), (20, 30, []), (3, 0, [none, some 114, some 115, some 116, none, none, none]), (20, 90, []), (20, 90, []), (20, 90, []), (5, 0, [some 118, some 119, none, some 120, some 122, some 126, none, none, none]), (1, 0, []), (20, 16, []), (8, 0, [some 121, none, none]), (20, 8, []), (3, 0, [none, some 123, some 124, some 125, none, none, none]), (20, 30, []), (20, 30, []), (20, 30, []), (3, 0, [none, some 127, some 128, some 129, none, none, none]), (20, 90, []), (20, 90, []), (20, 90, []), (5, 0, [some 131, some 132, none, some 133, some 135, some 139, none, none, none]), (1, 0, []), (20, 16, []), (8, 0, [some 134, none, none]), (20, 8, []), (3, 0, [none, some 136, some 137, some 138, none, none, none]), (20, 30, []), (20, 30, []), (20, 30, []), (3, 0, [none, some 140, some 141, some 142, none, none, none]), (20, 90, []), (20, 90, []), (20, 90, []), (2, 0, [some 144, none]), (21, 360, []), (10, 0, [some 146, some 147, some 148, some 149, some 150, some 151, none, none, none, none, none, none, some 152, none, some 153, none, none, none, none, none, none, none, none, none, some 154, some 155, none, none]), (20, 405, []), (20, 405, []), (20, 405, []), (20, 405, []), (20, 405, []), (20, 3240, []), (20, 400, []), (20, 500, []), (20, 60, []), (25, 9, [some 1007, some 1008, some 1009, some 1010, some 1011, some 1012, some 1013, some 1014, some 1015]), (22, 1, []), (23, 0, [])]
def Z0 (r : Nat) : Shp := fun p => ((zl.getD p (99, 0, [])).1, (zl.getD p (99, 0, [])).2.1, fun k => if p = 145 ∧ k = 6 then some r else (zl.getD p (99, 0, [])).2.2.getD k none)
/-- lengths -/
def zn (p : Nat) : Nat := (zl.getD p (99, 0, [])).2.1
def stL : List Nat := [10, 26, 39, 52, 65, 78, 91, 104, 117, 130]
def kiL : List Nat := 23 :: stL.map (· + 1)
def wbL : List Nat := stL.map (· + 3)
def saL : List Nat := stL.map (· + 5) ++ stL.map (· + 9)
/-- the configuration: class numbers, array classes, addresses, live places, shape, the start of what may be written -/
abbrev Wc : Type := va_G × (Nat → ClassId) × (Nat → Nat) × List Nat × Shp × Nat
abbrev wD (w : Wc) : va_G := w.1
abbrev wca (w : Wc) : Nat → ClassId := w.2.1
abbrev wad (w : Wc) : Nat → Nat := w.2.2.1
abbrev wL (w : Wc) : List Nat := w.2.2.2.1
abbrev wZ (w : Wc) : Shp := w.2.2.2.2.1
abbrev wlo (w : Wc) : Nat := w.2.2.2.2.2
abbrev wA (w : Wc) : Nat → Prop := fun q => wlo w ≤ q
/-- field kinds of each class: 0 an int, 1 a reference -/
def ftab : List (List Nat) := [[1,0,0], [0,0,0,0,0,0,0,0,0,0,0,0,0], [1,0], [0,1,1,1,0,0,0], [1,1,1,1,0,0], [1,1,0,1,1,1,0,0,0], [0,0,0,0,1,0], [1,0,0,0,0,0,0,0,0,0], [1,0,0], [1,1,1,1,1,1,1,0,1], [1,1,1,1,1,1,1,0,0,0,0,0,1,0,1,0,0,0,0,0,0,0,0,0,1,1,0,0]]
def ftag (ci : Nat) : List Nat := ftab.getD ci []
def fval (w : Wc) (z : Nat → Option Nat) (m : Nat → Int32) (tag k : Nat) : Value :=
  if tag = 0 then .int (m k) else va_rf ((z k).map (wad w))
def flds (w : Wc) (ci : Nat) (z : Nat → Option Nat) (m : Nat → Int32) : List Value := (List.range (ftag ci).length).map (fun k => fval w z m ((ftag ci).getD k 0) k)
def cellE (w : Wc) (M : Mem) (p : Nat) : va_E :=
  if (wZ w p).1 < 20 then .inr ((wZ w p).1, flds w (wZ w p).1 (wZ w p).2.2 (M p))
  else if (wZ w p).1 = 20 then .inl (wca w 0, (wZ w p).2.1, .inl (M p))
  else if (wZ w p).1 = 21 then .inl (wca w 1, (wZ w p).2.1, .inl (M p))
  else if (wZ w p).1 = 22 then .inl (wca w 2, 1, .inr (.inl (fun j => (M p j).toInt64)))
  else if (wZ w p).1 = 23 then .inl (wca w 3, 1, .inr (.inr (.inr (.inl (fun _ => UInt64.ofNat (wZ w p).2.1)))))
  else if (wZ w p).1 = 24 then .inl (wca w 4, (wZ w p).2.1, .inr (.inr (.inr (.inr (fun j => ((wZ w p).2.2 j).map (wad w))))))
  else .inl (wca w 5, (wZ w p).2.1, .inr (.inr (.inr (.inr (fun j => ((wZ w p).2.2 j).map (wad w))))))
def wtys (w : Wc) : List (ClassId × FieldType) := [(wca w 0, .int), (wca w 1, .byte), (wca w 2, .long), (wca w 3, .double), (wca w 4, .object "KiteLogger$Station"), (wca w 5, .object "java/lang/String")]
def wW (w : Wc) (M : Mem) : va_W := (wL w).map (fun p => (wad w p, cellE w M p))
def Rp (w : Wc) (M : Mem) (H : Heap) : Prop := va_P (wD w) vwCl (wW w M) H
/-- the live places are apart, and may be written -/
def Wok (w : Wc) : Prop := (wL w).Nodup ∧ (∀ p ∈ wL w, ∀ q ∈ wL w, wad w p = wad w q → p = q) ∧ ∀ p ∈ wL w, wA w (wad w p)
theorem wW_get {w : Wc} {M : Mem} {p : Nat} (h : p ∈ wL w) : ∃ k : Nat, (wL w)[k]? = some p ∧ (wW w M)[k]? = some (wad w p, cellE w M p) := by
  obtain ⟨k, hk⟩ := List.getElem?_of_mem h
  exact ⟨k, hk, by unfold wW; rw [List.getElem?_map, hk, Option.map_some]⟩
theorem wD_of {w : Wc} (h : Wok w) (M : Mem) : va_D (wA w) (wW w M) := by
  have key : ∀ (i : Nat) (q : Nat × va_E), (wW w M)[i]? = some q → ∃ p, (wL w)[i]? = some p ∧ wad w p = q.1 := by
    intro i q hq
    unfold wW at hq
    rw [List.getElem?_map] at hq
    cases hi : (wL w)[i]? with
    | none => rw [hi] at hq; cases hq
    | some p => rw [hi] at hq; cases hq; exact ⟨p, rfl, rfl⟩
  refine ⟨fun i j x y hi hj hxy => ?_, fun k q hk => ?_⟩
  · obtain ⟨p, h1, h2⟩ := key i x hi
    obtain ⟨q, h3, h4⟩ := key j y hj
    have hpq : p = q := h.2.1 p (List.mem_of_getElem? h1) q (List.mem_of_getElem? h3) (by rw [h2, h4]; exact hxy)
    subst hpq
    have hil : i < (wL w).length := (List.getElem?_eq_some_iff.mp h1).1
    exact (List.getElem?_inj hil h.1).mp (h1.trans h3.symm)
  · obtain ⟨p, h1, h2⟩ := key k q hk
    rw [← h2]
    exact h.2.2 p (List.mem_of_getElem? h1)
theorem setR_self {M : Mem} {p : Nat} {f : Nat → Int32} : setR M p f p = f := if_pos rfl
theorem setR_ne {M : Mem} {p q : Nat} {f : Nat → Int32} (h : q ≠ p) : setR M p f q = M q := if_neg h
theorem cellE_ne {w : Wc} {M : Mem} {p q : Nat} {f : Nat → Int32} (h : q ≠ p) : cellE w (setR M p f) q = cellE w M q := by unfold cellE; rw [setR_ne h]
/-- the world behind a store at a place -/
theorem wW_set {w : Wc} {M : Mem} (hw : Wok w) {p k : Nat} {f : Nat → Int32} {e : va_E} (hk : (wL w)[k]? = some p) (he : e = cellE w (setR M p f) p) : (wW w M).set k (wad w p, e) = wW w (setR M p f) := by
  subst he
  apply List.ext_getElem?
  intro j
  have hkl : k < (wL w).length := (List.getElem?_eq_some_iff.mp hk).1
  by_cases hj : j = k
  · subst hj
    rw [List.getElem?_set_self (by unfold wW; rw [List.length_map]; exact hkl)]
    unfold wW
    rw [List.getElem?_map, hk, Option.map_some]
  · rw [List.getElem?_set_ne (Ne.symm hj)]
    unfold wW
    rw [List.getElem?_map, List.getElem?_map]
    cases hq : (wL w)[j]? with
    | none => rw [Option.map_none, Option.map_none]
    | some q =>
      have hne : q ≠ p := by
        intro e
        subst e
        have hjl : j < (wL w).length := (List.getElem?_eq_some_iff.mp hq).1
        exact hj ((List.getElem?_inj hjl hw.1).mp (hq.trans hk.symm))
      rw [Option.map_some, Option.map_some, cellE_ne hne]
theorem cellE_obj {w : Wc} {M : Mem} {p ci : Nat} (h : (wZ w p).1 = ci) (hc : ci < 20) : cellE w M p = .inr (ci, flds w ci (wZ w p).2.2 (M p)) := by
  unfold cellE
  rw [h, if_pos hc]
theorem cellE_arr {w : Wc} {M : Mem} {p : Nat} (h : (wZ w p).1 = 20) : cellE w M p = .inl (wca w 0, (wZ w p).2.1, .inl (M p)) := by
  unfold cellE
  rw [h, if_neg (by decide), if_pos rfl]
theorem cellE_byt {w : Wc} {M : Mem} {p : Nat} (h : (wZ w p).1 = 21) : cellE w M p = .inl (wca w 1, (wZ w p).2.1, .inl (M p)) := by
  unfold cellE
  rw [h, if_neg (by decide), if_neg (by decide), if_pos rfl]
theorem cellE_lng {w : Wc} {M : Mem} {p : Nat} (h : (wZ w p).1 = 22) : cellE w M p = .inl (wca w 2, 1, .inr (.inl (fun j => (M p j).toInt64))) := by
  unfold cellE
  rw [h, if_neg (by decide), if_neg (by decide), if_neg (by decide), if_pos rfl]
theorem cellE_sta {w : Wc} {M : Mem} {p : Nat} (h : (wZ w p).1 = 24) : cellE w M p = .inl (wca w 4, (wZ w p).2.1, .inr (.inr (.inr (.inr (fun j => ((wZ w p).2.2 j).map (wad w)))))) := by
  unfold cellE
  rw [h, if_neg (by decide), if_neg (by decide), if_neg (by decide), if_neg (by decide), if_neg (by decide), if_pos rfl]
theorem cellE_str {w : Wc} {M : Mem} {p : Nat} (h : (wZ w p).1 = 25) : cellE w M p = .inl (wca w 5, (wZ w p).2.1, .inr (.inr (.inr (.inr (fun j => ((wZ w p).2.2 j).map (wad w)))))) := by
  unfold cellE
  rw [h, if_neg (by decide), if_neg (by decide), if_neg (by decide), if_neg (by decide), if_neg (by decide), if_neg (by decide)]
theorem flds_len {w : Wc} {ci : Nat} {z : Nat → Option Nat} {m : Nat → Int32} : (flds w ci z m).length = (ftag ci).length := by simp [flds]
theorem flds_get {w : Wc} {ci k : Nat} {z : Nat → Option Nat} {m : Nat → Int32} (hk : k < (ftag ci).length) : (flds w ci z m)[k]? = some (fval w z m ((ftag ci).getD k 0) k) := by
  unfold flds
  rw [List.getElem?_map, List.getElem?_range hk]
  rfl
theorem flds_int {w : Wc} {ci k : Nat} {z : Nat → Option Nat} {m : Nat → Int32} (hk : k < (ftag ci).length) (ht : (ftag ci).getD k 0 = 0) : (flds w ci z m)[k]? = some (.int (m k)) := by rw [flds_get hk, ht]; rfl
theorem flds_ref {w : Wc} {ci k q : Nat} {z : Nat → Option Nat} {m : Nat → Int32} (hk : k < (ftag ci).length) (ht : (ftag ci).getD k 0 = 1) (hz : z k = some q) : (flds w ci z m)[k]? = some (.ref (wad w q)) := by rw [flds_get hk, ht]; unfold fval; rw [if_neg (by decide), hz]; rfl
theorem flds_put {w : Wc} {ci k : Nat} {z : Nat → Option Nat} {m : Nat → Int32} {v : Int32} (hk : k < (ftag ci).length) (ht : (ftag ci).getD k 0 = 0) : (flds w ci z m).set k (.int v) = flds w ci z (upd m k v) := by
  apply List.ext_getElem?
  intro j
  by_cases hj : j = k
  · subst hj
    rw [List.getElem?_set_self (by rw [flds_len]; exact hk), flds_int hk ht]
    simp [upd]
  · rw [List.getElem?_set_ne (Ne.symm hj)]
    by_cases hl : j < (ftag ci).length
    · rw [flds_get hl, flds_get hl]
      have e : upd m k v j = m j := by simp [upd, hj]
      unfold fval
      rw [e]
    · rw [List.getElem?_eq_none (by rw [flds_len]; omega), List.getElem?_eq_none (by rw [flds_len]; omega)]
/-- a field of a class, by the entry of a class's pool -/
def FA (own : String) (idx ci k tag : Nat) : Prop := ∃ (ref : String) (C : String) (T : u_T) (N : Nat), Cond.fieldLink own idx ref (T k).2.1 (T k).2.2.1 ∈ TT ∧ ref = (T k).1 ∧ vwCl[ci]? = some (C, T, N) ∧ k < N ∧ (∀ w ∈ u_ws C T N, w ∈ TT) ∧ ci < 20 ∧ k < (ftag ci).length ∧ (ftag ci).getD k 0 = tag
def FN (own : String) (idx ci k tag : Nat) : Prop := ∃ (ref host : String) (C : String) (T : u_T) (N : Nat), Cond.fieldLinkNest own idx ref (T k).2.1 (T k).2.2.1 host ∈ NW ∧ ref = (T k).1 ∧ vwCl[ci]? = some (C, T, N) ∧ k < N ∧ (∀ w ∈ u_ws C T N, w ∈ TT) ∧ ci < 20 ∧ k < (ftag ci).length ∧ (ftag ci).getD k 0 = tag
/-- .. and that an int may be put there -/
def FW (ci k : Nat) (ty : FieldType) : Prop := ∃ (C : String) (T : u_T) (N : Nat) (ty0 : Nat → FieldType), vwCl[ci]? = some (C, T, N) ∧ (∀ k, k < N → parseFieldDescriptor (T k).2.2.1 = some (ty0 k)) ∧ (∀ a, a < N → ∀ b, b < N → a ≠ b → (T a).2.1 ≠ (T b).2.1) ∧ (T k).2.2.2 = false ∧ parseFieldDescriptor (T k).2.2.1 = some ty
end
section
/-! words: fields and calls by the pools' entries -/
theorem uw_0 : ∀ w ∈ u_ws "KiteLogger$History" T0 3, w ∈ TT := by
  intro w hw
  obtain ⟨k, hk, rfl⟩ := List.mem_map.mp hw
  have hk := List.mem_range.mp hk
  by_cases h0 : k = 0
  · subst h0; exact TT_in (i := 406) (by decide +kernel) (by decide +kernel)
  by_cases h1 : k = 1
  · subst h1; exact TT_in (i := 408) (by decide +kernel) (by decide +kernel)
  by_cases h2 : k = 2
  · subst h2; exact TT_in (i := 410) (by decide +kernel) (by decide +kernel)
  omega
theorem uw_1 : ∀ w ∈ u_ws "KiteLogger$Kite" T1 13, w ∈ TT := by
  intro w hw
  obtain ⟨k, hk, rfl⟩ := List.mem_map.mp hw
  have hk := List.mem_range.mp hk
  by_cases h0 : k = 0
  · subst h0; exact TT_in (i := 276) (by decide +kernel) (by decide +kernel)
  by_cases h1 : k = 1
  · subst h1; exact TT_in (i := 278) (by decide +kernel) (by decide +kernel)
  by_cases h2 : k = 2
  · subst h2; exact TT_in (i := 280) (by decide +kernel) (by decide +kernel)
  by_cases h3 : k = 3
  · subst h3; exact TT_in (i := 282) (by decide +kernel) (by decide +kernel)
  by_cases h4 : k = 4
  · subst h4; exact TT_in (i := 284) (by decide +kernel) (by decide +kernel)
  by_cases h5 : k = 5
  · subst h5; exact TT_in (i := 286) (by decide +kernel) (by decide +kernel)
  by_cases h6 : k = 6
  · subst h6; exact TT_in (i := 288) (by decide +kernel) (by decide +kernel)
  by_cases h7 : k = 7
  · subst h7; exact TT_in (i := 290) (by decide +kernel) (by decide +kernel)
  by_cases h8 : k = 8
  · subst h8; exact TT_in (i := 292) (by decide +kernel) (by decide +kernel)
  by_cases h9 : k = 9
  · subst h9; exact TT_in (i := 294) (by decide +kernel) (by decide +kernel)
  by_cases h10 : k = 10
  · subst h10; exact TT_in (i := 296) (by decide +kernel) (by decide +kernel)
  by_cases h11 : k = 11
  · subst h11; exact TT_in (i := 298) (by decide +kernel) (by decide +kernel)
  by_cases h12 : k = 12
  · subst h12; exact TT_in (i := 300) (by decide +kernel) (by decide +kernel)
  omega
theorem uw_2 : ∀ w ∈ u_ws "KiteLogger$Output" T2 2, w ∈ TT := by
  intro w hw
  obtain ⟨k, hk, rfl⟩ := List.mem_map.mp hw
  have hk := List.mem_range.mp hk
  by_cases h0 : k = 0
  · subst h0; exact TT_in (i := 422) (by decide +kernel) (by decide +kernel)
  by_cases h1 : k = 1
  · subst h1; exact TT_in (i := 424) (by decide +kernel) (by decide +kernel)
  omega
theorem uw_3 : ∀ w ∈ u_ws "KiteLogger$Samples" T3 7, w ∈ TT := by
  intro w hw
  obtain ⟨k, hk, rfl⟩ := List.mem_map.mp hw
  have hk := List.mem_range.mp hk
  by_cases h0 : k = 0
  · subst h0; exact TT_in (i := 340) (by decide +kernel) (by decide +kernel)
  by_cases h1 : k = 1
  · subst h1; exact TT_in (i := 342) (by decide +kernel) (by decide +kernel)
  by_cases h2 : k = 2
  · subst h2; exact TT_in (i := 344) (by decide +kernel) (by decide +kernel)
  by_cases h3 : k = 3
  · subst h3; exact TT_in (i := 346) (by decide +kernel) (by decide +kernel)
  by_cases h4 : k = 4
  · subst h4; exact TT_in (i := 348) (by decide +kernel) (by decide +kernel)
  by_cases h5 : k = 5
  · subst h5; exact TT_in (i := 350) (by decide +kernel) (by decide +kernel)
  by_cases h6 : k = 6
  · subst h6; exact TT_in (i := 352) (by decide +kernel) (by decide +kernel)
  omega
theorem uw_4 : ∀ w ∈ u_ws "KiteLogger$Script" T4 6, w ∈ TT := by
  intro w hw
  obtain ⟨k, hk, rfl⟩ := List.mem_map.mp hw
  have hk := List.mem_range.mp hk
  by_cases h0 : k = 0
  · subst h0; exact TT_in (i := 222) (by decide +kernel) (by decide +kernel)
  by_cases h1 : k = 1
  · subst h1; exact TT_in (i := 224) (by decide +kernel) (by decide +kernel)
  by_cases h2 : k = 2
  · subst h2; exact TT_in (i := 226) (by decide +kernel) (by decide +kernel)
  by_cases h3 : k = 3
  · subst h3; exact TT_in (i := 228) (by decide +kernel) (by decide +kernel)
  by_cases h4 : k = 4
  · subst h4; exact TT_in (i := 230) (by decide +kernel) (by decide +kernel)
  by_cases h5 : k = 5
  · subst h5; exact TT_in (i := 232) (by decide +kernel) (by decide +kernel)
  omega
theorem uw_5 : ∀ w ∈ u_ws "KiteLogger$Station" T5 9, w ∈ TT := by
  intro w hw
  obtain ⟨k, hk, rfl⟩ := List.mem_map.mp hw
  have hk := List.mem_range.mp hk
  by_cases h0 : k = 0
  · subst h0; exact TT_in (i := 372) (by decide +kernel) (by decide +kernel)
  by_cases h1 : k = 1
  · subst h1; exact TT_in (i := 374) (by decide +kernel) (by decide +kernel)
  by_cases h2 : k = 2
  · subst h2; exact TT_in (i := 376) (by decide +kernel) (by decide +kernel)
  by_cases h3 : k = 3
  · subst h3; exact TT_in (i := 378) (by decide +kernel) (by decide +kernel)
  by_cases h4 : k = 4
  · subst h4; exact TT_in (i := 380) (by decide +kernel) (by decide +kernel)
  by_cases h5 : k = 5
  · subst h5; exact TT_in (i := 382) (by decide +kernel) (by decide +kernel)
  by_cases h6 : k = 6
  · subst h6; exact TT_in (i := 384) (by decide +kernel) (by decide +kernel)
  by_cases h7 : k = 7
  · subst h7; exact TT_in (i := 386) (by decide +kernel) (by decide +kernel)
  by_cases h8 : k = 8
  · subst h8; exact TT_in (i := 388) (by decide +kernel) (by decide +kernel)
  omega
theorem uw_6 : ∀ w ∈ u_ws "KiteLogger$StationPlan" T6 6, w ∈ TT := by
  intro w hw
  obtain ⟨k, hk, rfl⟩ := List.mem_map.mp hw
  have hk := List.mem_range.mp hk
  by_cases h0 : k = 0
  · subst h0; exact TT_in (i := 194) (by decide +kernel) (by decide +kernel)
  by_cases h1 : k = 1
  · subst h1; exact TT_in (i := 196) (by decide +kernel) (by decide +kernel)
  by_cases h2 : k = 2
  · subst h2; exact TT_in (i := 198) (by decide +kernel) (by decide +kernel)
  by_cases h3 : k = 3
  · subst h3; exact TT_in (i := 200) (by decide +kernel) (by decide +kernel)
  by_cases h4 : k = 4
  · subst h4; exact TT_in (i := 202) (by decide +kernel) (by decide +kernel)
  by_cases h5 : k = 5
  · subst h5; exact TT_in (i := 204) (by decide +kernel) (by decide +kernel)
  omega
theorem uw_7 : ∀ w ∈ u_ws "KiteLogger$TextReader" T7 10, w ∈ TT := by
  intro w hw
  obtain ⟨k, hk, rfl⟩ := List.mem_map.mp hw
  have hk := List.mem_range.mp hk
  by_cases h0 : k = 0
  · subst h0; exact TT_in (i := 143) (by decide +kernel) (by decide +kernel)
  by_cases h1 : k = 1
  · subst h1; exact TT_in (i := 145) (by decide +kernel) (by decide +kernel)
  by_cases h2 : k = 2
  · subst h2; exact TT_in (i := 147) (by decide +kernel) (by decide +kernel)
  by_cases h3 : k = 3
  · subst h3; exact TT_in (i := 149) (by decide +kernel) (by decide +kernel)
  by_cases h4 : k = 4
  · subst h4; exact TT_in (i := 151) (by decide +kernel) (by decide +kernel)
  by_cases h5 : k = 5
  · subst h5; exact TT_in (i := 153) (by decide +kernel) (by decide +kernel)
  by_cases h6 : k = 6
  · subst h6; exact TT_in (i := 155) (by decide +kernel) (by decide +kernel)
  by_cases h7 : k = 7
  · subst h7; exact TT_in (i := 157) (by decide +kernel) (by decide +kernel)
  by_cases h8 : k = 8
  · subst h8; exact TT_in (i := 159) (by decide +kernel) (by decide +kernel)
  by_cases h9 : k = 9
  · subst h9; exact TT_in (i := 161) (by decide +kernel) (by decide +kernel)
  omega
theorem uw_8 : ∀ w ∈ u_ws "KiteLogger$WindBuffer" T8 3, w ∈ TT := by
  intro w hw
  obtain ⟨k, hk, rfl⟩ := List.mem_map.mp hw
  have hk := List.mem_range.mp hk
  by_cases h0 : k = 0
  · subst h0; exact TT_in (i := 313) (by decide +kernel) (by decide +kernel)
  by_cases h1 : k = 1
  · subst h1; exact TT_in (i := 315) (by decide +kernel) (by decide +kernel)
  by_cases h2 : k = 2
  · subst h2; exact TT_in (i := 317) (by decide +kernel) (by decide +kernel)
  omega
theorem uw_9 : ∀ w ∈ u_ws "KiteLogger" T9 9, w ∈ TT := by
  intro w hw
  obtain ⟨k, hk, rfl⟩ := List.mem_map.mp hw
  have hk := List.mem_range.mp hk
  by_cases h0 : k = 0
  · subst h0; exact TT_in (i := 457) (by decide +kernel) (by decide +kernel)
  by_cases h1 : k = 1
  · subst h1; exact TT_in (i := 459) (by decide +kernel) (by decide +kernel)
  by_cases h2 : k = 2
  · subst h2; exact TT_in (i := 461) (by decide +kernel) (by decide +kernel)
  by_cases h3 : k = 3
  · subst h3; exact TT_in (i := 463) (by decide +kernel) (by decide +kernel)
  by_cases h4 : k = 4
  · subst h4; exact TT_in (i := 465) (by decide +kernel) (by decide +kernel)
  by_cases h5 : k = 5
  · subst h5; exact TT_in (i := 467) (by decide +kernel) (by decide +kernel)
  by_cases h6 : k = 6
  · subst h6; exact TT_in (i := 469) (by decide +kernel) (by decide +kernel)
  by_cases h7 : k = 7
  · subst h7; exact TT_in (i := 471) (by decide +kernel) (by decide +kernel)
  by_cases h8 : k = 8
  · subst h8; exact TT_in (i := 473) (by decide +kernel) (by decide +kernel)
  omega
theorem uw_10 : ∀ w ∈ u_ws "KiteLoggerModel" T10 28, w ∈ TT := by
  intro w hw
  obtain ⟨k, hk, rfl⟩ := List.mem_map.mp hw
  have hk := List.mem_range.mp hk
  by_cases h0 : k = 0
  · subst h0; exact TT_in (i := 1391) (by decide +kernel) (by decide +kernel)
  by_cases h1 : k = 1
  · subst h1; exact TT_in (i := 1393) (by decide +kernel) (by decide +kernel)
  by_cases h2 : k = 2
  · subst h2; exact TT_in (i := 1395) (by decide +kernel) (by decide +kernel)
  by_cases h3 : k = 3
  · subst h3; exact TT_in (i := 1397) (by decide +kernel) (by decide +kernel)
  by_cases h4 : k = 4
  · subst h4; exact TT_in (i := 1399) (by decide +kernel) (by decide +kernel)
  by_cases h5 : k = 5
  · subst h5; exact TT_in (i := 1401) (by decide +kernel) (by decide +kernel)
  by_cases h6 : k = 6
  · subst h6; exact TT_in (i := 1403) (by decide +kernel) (by decide +kernel)
  by_cases h7 : k = 7
  · subst h7; exact TT_in (i := 1405) (by decide +kernel) (by decide +kernel)
  by_cases h8 : k = 8
  · subst h8; exact TT_in (i := 1407) (by decide +kernel) (by decide +kernel)
  by_cases h9 : k = 9
  · subst h9; exact TT_in (i := 1409) (by decide +kernel) (by decide +kernel)
  by_cases h10 : k = 10
  · subst h10; exact TT_in (i := 1411) (by decide +kernel) (by decide +kernel)
  by_cases h11 : k = 11
  · subst h11; exact TT_in (i := 1413) (by decide +kernel) (by decide +kernel)
  by_cases h12 : k = 12
  · subst h12; exact TT_in (i := 1415) (by decide +kernel) (by decide +kernel)
  by_cases h13 : k = 13
  · subst h13; exact TT_in (i := 1417) (by decide +kernel) (by decide +kernel)
  by_cases h14 : k = 14
  · subst h14; exact TT_in (i := 1419) (by decide +kernel) (by decide +kernel)
  by_cases h15 : k = 15
  · subst h15; exact TT_in (i := 1421) (by decide +kernel) (by decide +kernel)
  by_cases h16 : k = 16
  · subst h16; exact TT_in (i := 1423) (by decide +kernel) (by decide +kernel)
  by_cases h17 : k = 17
  · subst h17; exact TT_in (i := 1425) (by decide +kernel) (by decide +kernel)
  by_cases h18 : k = 18
  · subst h18; exact TT_in (i := 1427) (by decide +kernel) (by decide +kernel)
  by_cases h19 : k = 19
  · subst h19; exact TT_in (i := 1429) (by decide +kernel) (by decide +kernel)
  by_cases h20 : k = 20
  · subst h20; exact TT_in (i := 1431) (by decide +kernel) (by decide +kernel)
  by_cases h21 : k = 21
  · subst h21; exact TT_in (i := 1433) (by decide +kernel) (by decide +kernel)
  by_cases h22 : k = 22
  · subst h22; exact TT_in (i := 1435) (by decide +kernel) (by decide +kernel)
  by_cases h23 : k = 23
  · subst h23; exact TT_in (i := 1437) (by decide +kernel) (by decide +kernel)
  by_cases h24 : k = 24
  · subst h24; exact TT_in (i := 1439) (by decide +kernel) (by decide +kernel)
  by_cases h25 : k = 25
  · subst h25; exact TT_in (i := 1441) (by decide +kernel) (by decide +kernel)
  by_cases h26 : k = 26
  · subst h26; exact TT_in (i := 1443) (by decide +kernel) (by decide +kernel)
  by_cases h27 : k = 27
  · subst h27; exact TT_in (i := 1445) (by decide +kernel) (by decide +kernel)
  omega
theorem fa_G_12 : FA "KiteLogger" 12 9 0 ((ftag 9).getD 0 0) := ⟨"KiteLogger", "KiteLogger", T9, 9, TT_in (i := 448) (by decide +kernel) (by decide +kernel), rfl, rfl, by decide, uw_9, by decide, by decide +kernel, rfl⟩
theorem fa_G_19 : FA "KiteLogger" 19 9 1 ((ftag 9).getD 1 0) := ⟨"KiteLogger", "KiteLogger", T9, 9, TT_in (i := 449) (by decide +kernel) (by decide +kernel), rfl, rfl, by decide, uw_9, by decide, by decide +kernel, rfl⟩
theorem fa_G_26 : FA "KiteLogger" 26 9 2 ((ftag 9).getD 2 0) := ⟨"KiteLogger", "KiteLogger", T9, 9, TT_in (i := 450) (by decide +kernel) (by decide +kernel), rfl, rfl, by decide, uw_9, by decide, by decide +kernel, rfl⟩
theorem fa_G_33 : FA "KiteLogger" 33 9 3 ((ftag 9).getD 3 0) := ⟨"KiteLogger", "KiteLogger", T9, 9, TT_in (i := 451) (by decide +kernel) (by decide +kernel), rfl, rfl, by decide, uw_9, by decide, by decide +kernel, rfl⟩
theorem fa_G_40 : FA "KiteLogger" 40 9 4 ((ftag 9).getD 4 0) := ⟨"KiteLogger", "KiteLogger", T9, 9, TT_in (i := 452) (by decide +kernel) (by decide +kernel), rfl, rfl, by decide, uw_9, by decide, by decide +kernel, rfl⟩
theorem fa_G_47 : FA "KiteLogger" 47 9 5 ((ftag 9).getD 5 0) := ⟨"KiteLogger", "KiteLogger", T9, 9, TT_in (i := 453) (by decide +kernel) (by decide +kernel), rfl, rfl, by decide, uw_9, by decide, by decide +kernel, rfl⟩
theorem fa_G_51 : FA "KiteLogger" 51 9 6 ((ftag 9).getD 6 0) := ⟨"KiteLogger", "KiteLogger", T9, 9, TT_in (i := 454) (by decide +kernel) (by decide +kernel), rfl, rfl, by decide, uw_9, by decide, by decide +kernel, rfl⟩
theorem fa_G_54 : FA "KiteLogger" 54 9 7 ((ftag 9).getD 7 0) := ⟨"KiteLogger", "KiteLogger", T9, 9, TT_in (i := 455) (by decide +kernel) (by decide +kernel), rfl, rfl, by decide, uw_9, by decide, by decide +kernel, rfl⟩
theorem fa_G_61 : FA "KiteLogger" 61 9 8 ((ftag 9).getD 8 0) := ⟨"KiteLogger", "KiteLogger", T9, 9, TT_in (i := 456) (by decide +kernel) (by decide +kernel), rfl, rfl, by decide, uw_9, by decide, by decide +kernel, rfl⟩
theorem fa_G_77 : FN "KiteLogger" 77 7 1 ((ftag 7).getD 1 0) := ⟨"KiteLogger$TextReader", "KiteLogger", "KiteLogger$TextReader", T7, 10, NW_in (i := 127) (by decide +kernel) (by decide +kernel), rfl, rfl, by decide, uw_7, by decide, by decide +kernel, rfl⟩
theorem fa_G_91 : FN "KiteLogger" 91 5 2 ((ftag 5).getD 2 0) := ⟨"KiteLogger$Station", "KiteLogger", "KiteLogger$Station", T5, 9, NW_in (i := 359) (by decide +kernel) (by decide +kernel), rfl, rfl, by decide, uw_5, by decide, by decide +kernel, rfl⟩
theorem fa_G_94 : FN "KiteLogger" 94 7 8 ((ftag 7).getD 8 0) := ⟨"KiteLogger$TextReader", "KiteLogger", "KiteLogger$TextReader", T7, 10, NW_in (i := 140) (by decide +kernel) (by decide +kernel), rfl, rfl, by decide, uw_7, by decide, by decide +kernel, rfl⟩
theorem fa_G_97 : FN "KiteLogger" 97 7 9 ((ftag 7).getD 9 0) := ⟨"KiteLogger$TextReader", "KiteLogger", "KiteLogger$TextReader", T7, 10, NW_in (i := 142) (by decide +kernel) (by decide +kernel), rfl, rfl, by decide, uw_7, by decide, by decide +kernel, rfl⟩
theorem fa_G_100 : FN "KiteLogger" 100 5 7 ((ftag 5).getD 7 0) := ⟨"KiteLogger$Station", "KiteLogger", "KiteLogger$Station", T5, 9, NW_in (i := 369) (by decide +kernel) (by decide +kernel), rfl, rfl, by decide, uw_5, by decide, by decide +kernel, rfl⟩
theorem fa_G_111 : FN "KiteLogger" 111 5 3 ((ftag 5).getD 3 0) := ⟨"KiteLogger$Station", "KiteLogger", "KiteLogger$Station", T5, 9, NW_in (i := 361) (by decide +kernel) (by decide +kernel), rfl, rfl, by decide, uw_5, by decide, by decide +kernel, rfl⟩
theorem fa_G_115 : FN "KiteLogger" 115 8 2 ((ftag 8).getD 2 0) := ⟨"KiteLogger$WindBuffer", "KiteLogger", "KiteLogger$WindBuffer", T8, 3, NW_in (i := 312) (by decide +kernel) (by decide +kernel), rfl, rfl, by decide, uw_8, by decide, by decide +kernel, rfl⟩
theorem fa_G_137 : FN "KiteLogger" 137 5 0 ((ftag 5).getD 0 0) := ⟨"KiteLogger$Station", "KiteLogger", "KiteLogger$Station", T5, 9, NW_in (i := 356) (by decide +kernel) (by decide +kernel), rfl, rfl, by decide, uw_5, by decide, by decide +kernel, rfl⟩
theorem fa_G_140 : FN "KiteLogger" 140 1 0 ((ftag 1).getD 0 0) := ⟨"KiteLogger$Kite", "KiteLogger", "KiteLogger$Kite", T1, 13, NW_in (i := 249) (by decide +kernel) (by decide +kernel), rfl, rfl, by decide, uw_1, by decide, by decide +kernel, rfl⟩
theorem fa_G_143 : FN "KiteLogger" 143 1 1 ((ftag 1).getD 1 0) := ⟨"KiteLogger$Kite", "KiteLogger", "KiteLogger$Kite", T1, 13, NW_in (i := 252) (by decide +kernel) (by decide +kernel), rfl, rfl, by decide, uw_1, by decide, by decide +kernel, rfl⟩
theorem fa_G_146 : FN "KiteLogger" 146 1 2 ((ftag 1).getD 2 0) := ⟨"KiteLogger$Kite", "KiteLogger", "KiteLogger$Kite", T1, 13, NW_in (i := 255) (by decide +kernel) (by decide +kernel), rfl, rfl, by decide, uw_1, by decide, by decide +kernel, rfl⟩
theorem fa_G_149 : FN "KiteLogger" 149 1 3 ((ftag 1).getD 3 0) := ⟨"KiteLogger$Kite", "KiteLogger", "KiteLogger$Kite", T1, 13, NW_in (i := 257) (by decide +kernel) (by decide +kernel), rfl, rfl, by decide, uw_1, by decide, by decide +kernel, rfl⟩
theorem fa_G_152 : FN "KiteLogger" 152 1 4 ((ftag 1).getD 4 0) := ⟨"KiteLogger$Kite", "KiteLogger", "KiteLogger$Kite", T1, 13, NW_in (i := 259) (by decide +kernel) (by decide +kernel), rfl, rfl, by decide, uw_1, by decide, by decide +kernel, rfl⟩
theorem fa_G_155 : FN "KiteLogger" 155 1 5 ((ftag 1).getD 5 0) := ⟨"KiteLogger$Kite", "KiteLogger", "KiteLogger$Kite", T1, 13, NW_in (i := 261) (by decide +kernel) (by decide +kernel), rfl, rfl, by decide, uw_1, by decide, by decide +kernel, rfl⟩
theorem fa_G_158 : FN "KiteLogger" 158 1 6 ((ftag 1).getD 6 0) := ⟨"KiteLogger$Kite", "KiteLogger", "KiteLogger$Kite", T1, 13, NW_in (i := 263) (by decide +kernel) (by decide +kernel), rfl, rfl, by decide, uw_1, by decide, by decide +kernel, rfl⟩
theorem fa_G_164 : FN "KiteLogger" 164 1 9 ((ftag 1).getD 9 0) := ⟨"KiteLogger$Kite", "KiteLogger", "KiteLogger$Kite", T1, 13, NW_in (i := 269) (by decide +kernel) (by decide +kernel), rfl, rfl, by decide, uw_1, by decide, by decide +kernel, rfl⟩
theorem fa_G_167 : FN "KiteLogger" 167 1 8 ((ftag 1).getD 8 0) := ⟨"KiteLogger$Kite", "KiteLogger", "KiteLogger$Kite", T1, 13, NW_in (i := 266) (by decide +kernel) (by decide +kernel), rfl, rfl, by decide, uw_1, by decide, by decide +kernel, rfl⟩
theorem fa_G_170 : FN "KiteLogger" 170 1 10 ((ftag 1).getD 10 0) := ⟨"KiteLogger$Kite", "KiteLogger", "KiteLogger$Kite", T1, 13, NW_in (i := 271) (by decide +kernel) (by decide +kernel), rfl, rfl, by decide, uw_1, by decide, by decide +kernel, rfl⟩
theorem fa_G_173 : FN "KiteLogger" 173 1 11 ((ftag 1).getD 11 0) := ⟨"KiteLogger$Kite", "KiteLogger", "KiteLogger$Kite", T1, 13, NW_in (i := 273) (by decide +kernel) (by decide +kernel), rfl, rfl, by decide, uw_1, by decide, by decide +kernel, rfl⟩
theorem fa_G_176 : FN "KiteLogger" 176 1 12 ((ftag 1).getD 12 0) := ⟨"KiteLogger$Kite", "KiteLogger", "KiteLogger$Kite", T1, 13, NW_in (i := 275) (by decide +kernel) (by decide +kernel), rfl, rfl, by decide, uw_1, by decide, by decide +kernel, rfl⟩
theorem fa_G_179 : FN "KiteLogger" 179 5 6 ((ftag 5).getD 6 0) := ⟨"KiteLogger$Station", "KiteLogger", "KiteLogger$Station", T5, 9, NW_in (i := 367) (by decide +kernel) (by decide +kernel), rfl, rfl, by decide, uw_5, by decide, by decide +kernel, rfl⟩
theorem fa_G_182 : FN "KiteLogger" 182 5 4 ((ftag 5).getD 4 0) := ⟨"KiteLogger$Station", "KiteLogger", "KiteLogger$Station", T5, 9, NW_in (i := 363) (by decide +kernel) (by decide +kernel), rfl, rfl, by decide, uw_5, by decide, by decide +kernel, rfl⟩
theorem fa_G_186 : FN "KiteLogger" 186 3 5 ((ftag 3).getD 5 0) := ⟨"KiteLogger$Samples", "KiteLogger", "KiteLogger$Samples", T3, 7, NW_in (i := 337) (by decide +kernel) (by decide +kernel), rfl, rfl, by decide, uw_3, by decide, by decide +kernel, rfl⟩
theorem fa_G_202 : FN "KiteLogger" 202 3 6 ((ftag 3).getD 6 0) := ⟨"KiteLogger$Samples", "KiteLogger", "KiteLogger$Samples", T3, 7, NW_in (i := 339) (by decide +kernel) (by decide +kernel), rfl, rfl, by decide, uw_3, by decide, by decide +kernel, rfl⟩
theorem fa_G_205 : FN "KiteLogger" 205 5 5 ((ftag 5).getD 5 0) := ⟨"KiteLogger$Station", "KiteLogger", "KiteLogger$Station", T5, 9, NW_in (i := 365) (by decide +kernel) (by decide +kernel), rfl, rfl, by decide, uw_5, by decide, by decide +kernel, rfl⟩
theorem fa_G_221 : FN "KiteLogger" 221 5 8 ((ftag 5).getD 8 0) := ⟨"KiteLogger$Station", "KiteLogger", "KiteLogger$Station", T5, 9, NW_in (i := 371) (by decide +kernel) (by decide +kernel), rfl, rfl, by decide, uw_5, by decide, by decide +kernel, rfl⟩
theorem fa_G_257 : FN "KiteLogger" 257 4 4 ((ftag 4).getD 4 0) := ⟨"KiteLogger$Script", "KiteLogger", "KiteLogger$Script", T4, 6, NW_in (i := 219) (by decide +kernel) (by decide +kernel), rfl, rfl, by decide, uw_4, by decide, by decide +kernel, rfl⟩
theorem fa_G_262 : FN "KiteLogger" 262 4 5 ((ftag 4).getD 5 0) := ⟨"KiteLogger$Script", "KiteLogger", "KiteLogger$Script", T4, 6, NW_in (i := 221) (by decide +kernel) (by decide +kernel), rfl, rfl, by decide, uw_4, by decide, by decide +kernel, rfl⟩
theorem fa_G_269 : FN "KiteLogger" 269 2 1 ((ftag 2).getD 1 0) := ⟨"KiteLogger$Output", "KiteLogger", "KiteLogger$Output", T2, 2, NW_in (i := 421) (by decide +kernel) (by decide +kernel), rfl, rfl, by decide, uw_2, by decide, by decide +kernel, rfl⟩
theorem fa_G_280 : FN "KiteLogger" 280 0 2 ((ftag 0).getD 2 0) := ⟨"KiteLogger$History", "KiteLogger", "KiteLogger$History", T0, 3, NW_in (i := 405) (by decide +kernel) (by decide +kernel), rfl, rfl, by decide, uw_0, by decide, by decide +kernel, rfl⟩
theorem fa_H_11 : FA "KiteLogger$History" 11 0 0 ((ftag 0).getD 0 0) := ⟨"KiteLogger$History", "KiteLogger$History", T0, 3, TT_in (i := 402) (by decide +kernel) (by decide +kernel), rfl, rfl, by decide, uw_0, by decide, by decide +kernel, rfl⟩
theorem fa_H_17 : FA "KiteLogger$History" 17 0 1 ((ftag 0).getD 1 0) := ⟨"KiteLogger$History", "KiteLogger$History", T0, 3, TT_in (i := 403) (by decide +kernel) (by decide +kernel), rfl, rfl, by decide, uw_0, by decide, by decide +kernel, rfl⟩
theorem fa_H_21 : FA "KiteLogger$History" 21 0 2 ((ftag 0).getD 2 0) := ⟨"KiteLogger$History", "KiteLogger$History", T0, 3, TT_in (i := 404) (by decide +kernel) (by decide +kernel), rfl, rfl, by decide, uw_0, by decide, by decide +kernel, rfl⟩
theorem fa_K_9 : FA "KiteLogger$Kite" 9 1 0 ((ftag 1).getD 0 0) := ⟨"KiteLogger$Kite", "KiteLogger$Kite", T1, 13, TT_in (i := 247) (by decide +kernel) (by decide +kernel), rfl, rfl, by decide, uw_1, by decide, by decide +kernel, rfl⟩
theorem fa_K_15 : FA "KiteLogger$Kite" 15 1 1 ((ftag 1).getD 1 0) := ⟨"KiteLogger$Kite", "KiteLogger$Kite", T1, 13, TT_in (i := 250) (by decide +kernel) (by decide +kernel), rfl, rfl, by decide, uw_1, by decide, by decide +kernel, rfl⟩
theorem fa_K_18 : FA "KiteLogger$Kite" 18 1 2 ((ftag 1).getD 2 0) := ⟨"KiteLogger$Kite", "KiteLogger$Kite", T1, 13, TT_in (i := 253) (by decide +kernel) (by decide +kernel), rfl, rfl, by decide, uw_1, by decide, by decide +kernel, rfl⟩
theorem fa_K_21 : FA "KiteLogger$Kite" 21 1 3 ((ftag 1).getD 3 0) := ⟨"KiteLogger$Kite", "KiteLogger$Kite", T1, 13, TT_in (i := 256) (by decide +kernel) (by decide +kernel), rfl, rfl, by decide, uw_1, by decide, by decide +kernel, rfl⟩
theorem fa_K_24 : FA "KiteLogger$Kite" 24 1 4 ((ftag 1).getD 4 0) := ⟨"KiteLogger$Kite", "KiteLogger$Kite", T1, 13, TT_in (i := 258) (by decide +kernel) (by decide +kernel), rfl, rfl, by decide, uw_1, by decide, by decide +kernel, rfl⟩
theorem fa_K_27 : FA "KiteLogger$Kite" 27 1 5 ((ftag 1).getD 5 0) := ⟨"KiteLogger$Kite", "KiteLogger$Kite", T1, 13, TT_in (i := 260) (by decide +kernel) (by decide +kernel), rfl, rfl, by decide, uw_1, by decide, by decide +kernel, rfl⟩
theorem fa_K_30 : FA "KiteLogger$Kite" 30 1 6 ((ftag 1).getD 6 0) := ⟨"KiteLogger$Kite", "KiteLogger$Kite", T1, 13, TT_in (i := 262) (by decide +kernel) (by decide +kernel), rfl, rfl, by decide, uw_1, by decide, by decide +kernel, rfl⟩
theorem fa_K_33 : FA "KiteLogger$Kite" 33 1 7 ((ftag 1).getD 7 0) := ⟨"KiteLogger$Kite", "KiteLogger$Kite", T1, 13, TT_in (i := 264) (by decide +kernel) (by decide +kernel), rfl, rfl, by decide, uw_1, by decide, by decide +kernel, rfl⟩
theorem fa_K_36 : FA "KiteLogger$Kite" 36 1 8 ((ftag 1).getD 8 0) := ⟨"KiteLogger$Kite", "KiteLogger$Kite", T1, 13, TT_in (i := 265) (by decide +kernel) (by decide +kernel), rfl, rfl, by decide, uw_1, by decide, by decide +kernel, rfl⟩
theorem fa_K_39 : FA "KiteLogger$Kite" 39 1 9 ((ftag 1).getD 9 0) := ⟨"KiteLogger$Kite", "KiteLogger$Kite", T1, 13, TT_in (i := 267) (by decide +kernel) (by decide +kernel), rfl, rfl, by decide, uw_1, by decide, by decide +kernel, rfl⟩
theorem fa_K_42 : FA "KiteLogger$Kite" 42 1 10 ((ftag 1).getD 10 0) := ⟨"KiteLogger$Kite", "KiteLogger$Kite", T1, 13, TT_in (i := 270) (by decide +kernel) (by decide +kernel), rfl, rfl, by decide, uw_1, by decide, by decide +kernel, rfl⟩
theorem fa_K_45 : FA "KiteLogger$Kite" 45 1 11 ((ftag 1).getD 11 0) := ⟨"KiteLogger$Kite", "KiteLogger$Kite", T1, 13, TT_in (i := 272) (by decide +kernel) (by decide +kernel), rfl, rfl, by decide, uw_1, by decide, by decide +kernel, rfl⟩
theorem fa_K_48 : FA "KiteLogger$Kite" 48 1 12 ((ftag 1).getD 12 0) := ⟨"KiteLogger$Kite", "KiteLogger$Kite", T1, 13, TT_in (i := 274) (by decide +kernel) (by decide +kernel), rfl, rfl, by decide, uw_1, by decide, by decide +kernel, rfl⟩
theorem fa_O_9 : FA "KiteLogger$Output" 9 2 0 ((ftag 2).getD 0 0) := ⟨"KiteLogger$Output", "KiteLogger$Output", T2, 2, TT_in (i := 419) (by decide +kernel) (by decide +kernel), rfl, rfl, by decide, uw_2, by decide, by decide +kernel, rfl⟩
theorem fa_O_15 : FA "KiteLogger$Output" 15 2 1 ((ftag 2).getD 1 0) := ⟨"KiteLogger$Output", "KiteLogger$Output", T2, 2, TT_in (i := 420) (by decide +kernel) (by decide +kernel), rfl, rfl, by decide, uw_2, by decide, by decide +kernel, rfl⟩
theorem fa_O_19 : FN "KiteLogger$Output" 19 3 5 ((ftag 3).getD 5 0) := ⟨"KiteLogger$Samples", "KiteLogger", "KiteLogger$Samples", T3, 7, NW_in (i := 335) (by decide +kernel) (by decide +kernel), rfl, rfl, by decide, uw_3, by decide, by decide +kernel, rfl⟩
theorem fa_S_7 : FA "KiteLogger$Samples" 7 3 4 ((ftag 3).getD 4 0) := ⟨"KiteLogger$Samples", "KiteLogger$Samples", T3, 7, TT_in (i := 333) (by decide +kernel) (by decide +kernel), rfl, rfl, by decide, uw_3, by decide, by decide +kernel, rfl⟩
theorem fa_S_13 : FA "KiteLogger$Samples" 13 3 5 ((ftag 3).getD 5 0) := ⟨"KiteLogger$Samples", "KiteLogger$Samples", T3, 7, TT_in (i := 334) (by decide +kernel) (by decide +kernel), rfl, rfl, by decide, uw_3, by decide, by decide +kernel, rfl⟩
theorem fa_S_16 : FA "KiteLogger$Samples" 16 3 6 ((ftag 3).getD 6 0) := ⟨"KiteLogger$Samples", "KiteLogger$Samples", T3, 7, TT_in (i := 338) (by decide +kernel) (by decide +kernel), rfl, rfl, by decide, uw_3, by decide, by decide +kernel, rfl⟩
theorem fa_S_25 : FA "KiteLogger$Samples" 25 3 0 ((ftag 3).getD 0 0) := ⟨"KiteLogger$Samples", "KiteLogger$Samples", T3, 7, TT_in (i := 329) (by decide +kernel) (by decide +kernel), rfl, rfl, by decide, uw_3, by decide, by decide +kernel, rfl⟩
theorem fa_S_28 : FA "KiteLogger$Samples" 28 3 1 ((ftag 3).getD 1 0) := ⟨"KiteLogger$Samples", "KiteLogger$Samples", T3, 7, TT_in (i := 330) (by decide +kernel) (by decide +kernel), rfl, rfl, by decide, uw_3, by decide, by decide +kernel, rfl⟩
theorem fa_S_32 : FA "KiteLogger$Samples" 32 3 2 ((ftag 3).getD 2 0) := ⟨"KiteLogger$Samples", "KiteLogger$Samples", T3, 7, TT_in (i := 331) (by decide +kernel) (by decide +kernel), rfl, rfl, by decide, uw_3, by decide, by decide +kernel, rfl⟩
theorem fa_S_35 : FA "KiteLogger$Samples" 35 3 3 ((ftag 3).getD 3 0) := ⟨"KiteLogger$Samples", "KiteLogger$Samples", T3, 7, TT_in (i := 332) (by decide +kernel) (by decide +kernel), rfl, rfl, by decide, uw_3, by decide, by decide +kernel, rfl⟩
theorem fa_C_9 : FA "KiteLogger$Script" 9 4 0 ((ftag 4).getD 0 0) := ⟨"KiteLogger$Script", "KiteLogger$Script", T4, 6, TT_in (i := 214) (by decide +kernel) (by decide +kernel), rfl, rfl, by decide, uw_4, by decide, by decide +kernel, rfl⟩
theorem fa_C_15 : FA "KiteLogger$Script" 15 4 1 ((ftag 4).getD 1 0) := ⟨"KiteLogger$Script", "KiteLogger$Script", T4, 6, TT_in (i := 215) (by decide +kernel) (by decide +kernel), rfl, rfl, by decide, uw_4, by decide, by decide +kernel, rfl⟩
theorem fa_C_18 : FA "KiteLogger$Script" 18 4 2 ((ftag 4).getD 2 0) := ⟨"KiteLogger$Script", "KiteLogger$Script", T4, 6, TT_in (i := 216) (by decide +kernel) (by decide +kernel), rfl, rfl, by decide, uw_4, by decide, by decide +kernel, rfl⟩
theorem fa_C_21 : FA "KiteLogger$Script" 21 4 3 ((ftag 4).getD 3 0) := ⟨"KiteLogger$Script", "KiteLogger$Script", T4, 6, TT_in (i := 217) (by decide +kernel) (by decide +kernel), rfl, rfl, by decide, uw_4, by decide, by decide +kernel, rfl⟩
theorem fa_C_24 : FA "KiteLogger$Script" 24 4 4 ((ftag 4).getD 4 0) := ⟨"KiteLogger$Script", "KiteLogger$Script", T4, 6, TT_in (i := 218) (by decide +kernel) (by decide +kernel), rfl, rfl, by decide, uw_4, by decide, by decide +kernel, rfl⟩
theorem fa_C_28 : FA "KiteLogger$Script" 28 4 5 ((ftag 4).getD 5 0) := ⟨"KiteLogger$Script", "KiteLogger$Script", T4, 6, TT_in (i := 220) (by decide +kernel) (by decide +kernel), rfl, rfl, by decide, uw_4, by decide, by decide +kernel, rfl⟩
theorem fa_C_45 : FN "KiteLogger$Script" 45 7 3 ((ftag 7).getD 3 0) := ⟨"KiteLogger$TextReader", "KiteLogger", "KiteLogger$TextReader", T7, 10, NW_in (i := 130) (by decide +kernel) (by decide +kernel), rfl, rfl, by decide, uw_7, by decide, by decide +kernel, rfl⟩
theorem fa_C_76 : FN "KiteLogger$Script" 76 7 7 ((ftag 7).getD 7 0) := ⟨"KiteLogger$TextReader", "KiteLogger", "KiteLogger$TextReader", T7, 10, NW_in (i := 138) (by decide +kernel) (by decide +kernel), rfl, rfl, by decide, uw_7, by decide, by decide +kernel, rfl⟩
theorem fa_T_12 : FA "KiteLogger$Station" 12 5 0 ((ftag 5).getD 0 0) := ⟨"KiteLogger$Station", "KiteLogger$Station", T5, 9, TT_in (i := 355) (by decide +kernel) (by decide +kernel), rfl, rfl, by decide, uw_5, by decide, by decide +kernel, rfl⟩
theorem fa_T_18 : FA "KiteLogger$Station" 18 5 1 ((ftag 5).getD 1 0) := ⟨"KiteLogger$Station", "KiteLogger$Station", T5, 9, TT_in (i := 357) (by decide +kernel) (by decide +kernel), rfl, rfl, by decide, uw_5, by decide, by decide +kernel, rfl⟩
theorem fa_T_22 : FA "KiteLogger$Station" 22 5 2 ((ftag 5).getD 2 0) := ⟨"KiteLogger$Station", "KiteLogger$Station", T5, 9, TT_in (i := 358) (by decide +kernel) (by decide +kernel), rfl, rfl, by decide, uw_5, by decide, by decide +kernel, rfl⟩
theorem fa_T_29 : FA "KiteLogger$Station" 29 5 3 ((ftag 5).getD 3 0) := ⟨"KiteLogger$Station", "KiteLogger$Station", T5, 9, TT_in (i := 360) (by decide +kernel) (by decide +kernel), rfl, rfl, by decide, uw_5, by decide, by decide +kernel, rfl⟩
theorem fa_T_38 : FA "KiteLogger$Station" 38 5 4 ((ftag 5).getD 4 0) := ⟨"KiteLogger$Station", "KiteLogger$Station", T5, 9, TT_in (i := 362) (by decide +kernel) (by decide +kernel), rfl, rfl, by decide, uw_5, by decide, by decide +kernel, rfl⟩
theorem fa_T_42 : FA "KiteLogger$Station" 42 5 5 ((ftag 5).getD 5 0) := ⟨"KiteLogger$Station", "KiteLogger$Station", T5, 9, TT_in (i := 364) (by decide +kernel) (by decide +kernel), rfl, rfl, by decide, uw_5, by decide, by decide +kernel, rfl⟩
theorem fa_T_45 : FA "KiteLogger$Station" 45 5 6 ((ftag 5).getD 6 0) := ⟨"KiteLogger$Station", "KiteLogger$Station", T5, 9, TT_in (i := 366) (by decide +kernel) (by decide +kernel), rfl, rfl, by decide, uw_5, by decide, by decide +kernel, rfl⟩
theorem fa_T_48 : FA "KiteLogger$Station" 48 5 7 ((ftag 5).getD 7 0) := ⟨"KiteLogger$Station", "KiteLogger$Station", T5, 9, TT_in (i := 368) (by decide +kernel) (by decide +kernel), rfl, rfl, by decide, uw_5, by decide, by decide +kernel, rfl⟩
theorem fa_T_51 : FA "KiteLogger$Station" 51 5 8 ((ftag 5).getD 8 0) := ⟨"KiteLogger$Station", "KiteLogger$Station", T5, 9, TT_in (i := 370) (by decide +kernel) (by decide +kernel), rfl, rfl, by decide, uw_5, by decide, by decide +kernel, rfl⟩
theorem fa_T_54 : FN "KiteLogger$Station" 54 6 0 ((ftag 6).getD 0 0) := ⟨"KiteLogger$StationPlan", "KiteLogger", "KiteLogger$StationPlan", T6, 6, NW_in (i := 183) (by decide +kernel) (by decide +kernel), rfl, rfl, by decide, uw_6, by decide, by decide +kernel, rfl⟩
theorem fa_T_59 : FN "KiteLogger$Station" 59 6 1 ((ftag 6).getD 1 0) := ⟨"KiteLogger$StationPlan", "KiteLogger", "KiteLogger$StationPlan", T6, 6, NW_in (i := 185) (by decide +kernel) (by decide +kernel), rfl, rfl, by decide, uw_6, by decide, by decide +kernel, rfl⟩
theorem fa_T_62 : FN "KiteLogger$Station" 62 6 2 ((ftag 6).getD 2 0) := ⟨"KiteLogger$StationPlan", "KiteLogger", "KiteLogger$StationPlan", T6, 6, NW_in (i := 187) (by decide +kernel) (by decide +kernel), rfl, rfl, by decide, uw_6, by decide, by decide +kernel, rfl⟩
theorem fa_T_69 : FN "KiteLogger$Station" 69 6 4 ((ftag 6).getD 4 0) := ⟨"KiteLogger$StationPlan", "KiteLogger", "KiteLogger$StationPlan", T6, 6, NW_in (i := 191) (by decide +kernel) (by decide +kernel), rfl, rfl, by decide, uw_6, by decide, by decide +kernel, rfl⟩
theorem fa_T_74 : FN "KiteLogger$Station" 74 6 5 ((ftag 6).getD 5 0) := ⟨"KiteLogger$StationPlan", "KiteLogger", "KiteLogger$StationPlan", T6, 6, NW_in (i := 193) (by decide +kernel) (by decide +kernel), rfl, rfl, by decide, uw_6, by decide, by decide +kernel, rfl⟩
theorem fa_T_80 : FN "KiteLogger$Station" 80 6 3 ((ftag 6).getD 3 0) := ⟨"KiteLogger$StationPlan", "KiteLogger", "KiteLogger$StationPlan", T6, 6, NW_in (i := 189) (by decide +kernel) (by decide +kernel), rfl, rfl, by decide, uw_6, by decide, by decide +kernel, rfl⟩
theorem fa_T_101 : FN "KiteLogger$Station" 101 1 0 ((ftag 1).getD 0 0) := ⟨"KiteLogger$Kite", "KiteLogger", "KiteLogger$Kite", T1, 13, NW_in (i := 248) (by decide +kernel) (by decide +kernel), rfl, rfl, by decide, uw_1, by decide, by decide +kernel, rfl⟩
theorem fa_T_104 : FN "KiteLogger$Station" 104 1 2 ((ftag 1).getD 2 0) := ⟨"KiteLogger$Kite", "KiteLogger", "KiteLogger$Kite", T1, 13, NW_in (i := 254) (by decide +kernel) (by decide +kernel), rfl, rfl, by decide, uw_1, by decide, by decide +kernel, rfl⟩
theorem fa_T_126 : FN "KiteLogger$Station" 126 3 5 ((ftag 3).getD 5 0) := ⟨"KiteLogger$Samples", "KiteLogger", "KiteLogger$Samples", T3, 7, NW_in (i := 336) (by decide +kernel) (by decide +kernel), rfl, rfl, by decide, uw_3, by decide, by decide +kernel, rfl⟩
theorem fa_T_177 : FN "KiteLogger$Station" 177 1 9 ((ftag 1).getD 9 0) := ⟨"KiteLogger$Kite", "KiteLogger", "KiteLogger$Kite", T1, 13, NW_in (i := 268) (by decide +kernel) (by decide +kernel), rfl, rfl, by decide, uw_1, by decide, by decide +kernel, rfl⟩
theorem fa_T_180 : FN "KiteLogger$Station" 180 1 1 ((ftag 1).getD 1 0) := ⟨"KiteLogger$Kite", "KiteLogger", "KiteLogger$Kite", T1, 13, NW_in (i := 251) (by decide +kernel) (by decide +kernel), rfl, rfl, by decide, uw_1, by decide, by decide +kernel, rfl⟩
theorem fa_P_9 : FA "KiteLogger$StationPlan" 9 6 0 ((ftag 6).getD 0 0) := ⟨"KiteLogger$StationPlan", "KiteLogger$StationPlan", T6, 6, TT_in (i := 182) (by decide +kernel) (by decide +kernel), rfl, rfl, by decide, uw_6, by decide, by decide +kernel, rfl⟩
theorem fa_P_15 : FA "KiteLogger$StationPlan" 15 6 1 ((ftag 6).getD 1 0) := ⟨"KiteLogger$StationPlan", "KiteLogger$StationPlan", T6, 6, TT_in (i := 184) (by decide +kernel) (by decide +kernel), rfl, rfl, by decide, uw_6, by decide, by decide +kernel, rfl⟩
theorem fa_P_18 : FA "KiteLogger$StationPlan" 18 6 2 ((ftag 6).getD 2 0) := ⟨"KiteLogger$StationPlan", "KiteLogger$StationPlan", T6, 6, TT_in (i := 186) (by decide +kernel) (by decide +kernel), rfl, rfl, by decide, uw_6, by decide, by decide +kernel, rfl⟩
theorem fa_P_21 : FA "KiteLogger$StationPlan" 21 6 3 ((ftag 6).getD 3 0) := ⟨"KiteLogger$StationPlan", "KiteLogger$StationPlan", T6, 6, TT_in (i := 188) (by decide +kernel) (by decide +kernel), rfl, rfl, by decide, uw_6, by decide, by decide +kernel, rfl⟩
theorem fa_P_24 : FA "KiteLogger$StationPlan" 24 6 4 ((ftag 6).getD 4 0) := ⟨"KiteLogger$StationPlan", "KiteLogger$StationPlan", T6, 6, TT_in (i := 190) (by decide +kernel) (by decide +kernel), rfl, rfl, by decide, uw_6, by decide, by decide +kernel, rfl⟩
theorem fa_P_31 : FA "KiteLogger$StationPlan" 31 6 5 ((ftag 6).getD 5 0) := ⟨"KiteLogger$StationPlan", "KiteLogger$StationPlan", T6, 6, TT_in (i := 192) (by decide +kernel) (by decide +kernel), rfl, rfl, by decide, uw_6, by decide, by decide +kernel, rfl⟩
theorem fa_P_68 : FN "KiteLogger$StationPlan" 68 7 7 ((ftag 7).getD 7 0) := ⟨"KiteLogger$TextReader", "KiteLogger", "KiteLogger$TextReader", T7, 10, NW_in (i := 137) (by decide +kernel) (by decide +kernel), rfl, rfl, by decide, uw_7, by decide, by decide +kernel, rfl⟩
theorem fa_P_72 : FN "KiteLogger$StationPlan" 72 7 3 ((ftag 7).getD 3 0) := ⟨"KiteLogger$TextReader", "KiteLogger", "KiteLogger$TextReader", T7, 10, NW_in (i := 131) (by decide +kernel) (by decide +kernel), rfl, rfl, by decide, uw_7, by decide, by decide +kernel, rfl⟩
theorem fa_P_81 : FN "KiteLogger$StationPlan" 81 7 6 ((ftag 7).getD 6 0) := ⟨"KiteLogger$TextReader", "KiteLogger", "KiteLogger$TextReader", T7, 10, NW_in (i := 135) (by decide +kernel) (by decide +kernel), rfl, rfl, by decide, uw_7, by decide, by decide +kernel, rfl⟩
theorem fa_X_9 : FA "KiteLogger$TextReader" 9 7 0 ((ftag 7).getD 0 0) := ⟨"KiteLogger$TextReader", "KiteLogger$TextReader", T7, 10, TT_in (i := 125) (by decide +kernel) (by decide +kernel), rfl, rfl, by decide, uw_7, by decide, by decide +kernel, rfl⟩
theorem fa_X_15 : FA "KiteLogger$TextReader" 15 7 1 ((ftag 7).getD 1 0) := ⟨"KiteLogger$TextReader", "KiteLogger$TextReader", T7, 10, TT_in (i := 126) (by decide +kernel) (by decide +kernel), rfl, rfl, by decide, uw_7, by decide, by decide +kernel, rfl⟩
theorem fa_X_19 : FA "KiteLogger$TextReader" 19 7 2 ((ftag 7).getD 2 0) := ⟨"KiteLogger$TextReader", "KiteLogger$TextReader", T7, 10, TT_in (i := 128) (by decide +kernel) (by decide +kernel), rfl, rfl, by decide, uw_7, by decide, by decide +kernel, rfl⟩
theorem fa_X_22 : FA "KiteLogger$TextReader" 22 7 3 ((ftag 7).getD 3 0) := ⟨"KiteLogger$TextReader", "KiteLogger$TextReader", T7, 10, TT_in (i := 129) (by decide +kernel) (by decide +kernel), rfl, rfl, by decide, uw_7, by decide, by decide +kernel, rfl⟩
theorem fa_X_25 : FA "KiteLogger$TextReader" 25 7 4 ((ftag 7).getD 4 0) := ⟨"KiteLogger$TextReader", "KiteLogger$TextReader", T7, 10, TT_in (i := 132) (by decide +kernel) (by decide +kernel), rfl, rfl, by decide, uw_7, by decide, by decide +kernel, rfl⟩
theorem fa_X_28 : FA "KiteLogger$TextReader" 28 7 5 ((ftag 7).getD 5 0) := ⟨"KiteLogger$TextReader", "KiteLogger$TextReader", T7, 10, TT_in (i := 133) (by decide +kernel) (by decide +kernel), rfl, rfl, by decide, uw_7, by decide, by decide +kernel, rfl⟩
theorem fa_X_31 : FA "KiteLogger$TextReader" 31 7 6 ((ftag 7).getD 6 0) := ⟨"KiteLogger$TextReader", "KiteLogger$TextReader", T7, 10, TT_in (i := 134) (by decide +kernel) (by decide +kernel), rfl, rfl, by decide, uw_7, by decide, by decide +kernel, rfl⟩
theorem fa_X_34 : FA "KiteLogger$TextReader" 34 7 7 ((ftag 7).getD 7 0) := ⟨"KiteLogger$TextReader", "KiteLogger$TextReader", T7, 10, TT_in (i := 136) (by decide +kernel) (by decide +kernel), rfl, rfl, by decide, uw_7, by decide, by decide +kernel, rfl⟩
theorem fa_X_37 : FA "KiteLogger$TextReader" 37 7 8 ((ftag 7).getD 8 0) := ⟨"KiteLogger$TextReader", "KiteLogger$TextReader", T7, 10, TT_in (i := 139) (by decide +kernel) (by decide +kernel), rfl, rfl, by decide, uw_7, by decide, by decide +kernel, rfl⟩
theorem fa_X_40 : FA "KiteLogger$TextReader" 40 7 9 ((ftag 7).getD 9 0) := ⟨"KiteLogger$TextReader", "KiteLogger$TextReader", T7, 10, TT_in (i := 141) (by decide +kernel) (by decide +kernel), rfl, rfl, by decide, uw_7, by decide, by decide +kernel, rfl⟩
theorem fa_B_9 : FA "KiteLogger$WindBuffer" 9 8 0 ((ftag 8).getD 0 0) := ⟨"KiteLogger$WindBuffer", "KiteLogger$WindBuffer", T8, 3, TT_in (i := 309) (by decide +kernel) (by decide +kernel), rfl, rfl, by decide, uw_8, by decide, by decide +kernel, rfl⟩
theorem fa_B_15 : FA "KiteLogger$WindBuffer" 15 8 1 ((ftag 8).getD 1 0) := ⟨"KiteLogger$WindBuffer", "KiteLogger$WindBuffer", T8, 3, TT_in (i := 310) (by decide +kernel) (by decide +kernel), rfl, rfl, by decide, uw_8, by decide, by decide +kernel, rfl⟩
theorem fa_B_19 : FA "KiteLogger$WindBuffer" 19 8 2 ((ftag 8).getD 2 0) := ⟨"KiteLogger$WindBuffer", "KiteLogger$WindBuffer", T8, 3, TT_in (i := 311) (by decide +kernel) (by decide +kernel), rfl, rfl, by decide, uw_8, by decide, by decide +kernel, rfl⟩
theorem fa_M_9 : FA "KiteLoggerModel" 9 10 0 ((ftag 10).getD 0 0) := ⟨"KiteLoggerModel", "KiteLoggerModel", T10, 28, TT_in (i := 1363) (by decide +kernel) (by decide +kernel), rfl, rfl, by decide, uw_10, by decide, by decide +kernel, rfl⟩
theorem fa_M_13 : FA "KiteLoggerModel" 13 10 1 ((ftag 10).getD 1 0) := ⟨"KiteLoggerModel", "KiteLoggerModel", T10, 28, TT_in (i := 1364) (by decide +kernel) (by decide +kernel), rfl, rfl, by decide, uw_10, by decide, by decide +kernel, rfl⟩
theorem fa_M_16 : FA "KiteLoggerModel" 16 10 2 ((ftag 10).getD 2 0) := ⟨"KiteLoggerModel", "KiteLoggerModel", T10, 28, TT_in (i := 1365) (by decide +kernel) (by decide +kernel), rfl, rfl, by decide, uw_10, by decide, by decide +kernel, rfl⟩
theorem fa_M_19 : FA "KiteLoggerModel" 19 10 3 ((ftag 10).getD 3 0) := ⟨"KiteLoggerModel", "KiteLoggerModel", T10, 28, TT_in (i := 1366) (by decide +kernel) (by decide +kernel), rfl, rfl, by decide, uw_10, by decide, by decide +kernel, rfl⟩
theorem fa_M_22 : FA "KiteLoggerModel" 22 10 4 ((ftag 10).getD 4 0) := ⟨"KiteLoggerModel", "KiteLoggerModel", T10, 28, TT_in (i := 1367) (by decide +kernel) (by decide +kernel), rfl, rfl, by decide, uw_10, by decide, by decide +kernel, rfl⟩
theorem fa_M_25 : FA "KiteLoggerModel" 25 10 5 ((ftag 10).getD 5 0) := ⟨"KiteLoggerModel", "KiteLoggerModel", T10, 28, TT_in (i := 1368) (by decide +kernel) (by decide +kernel), rfl, rfl, by decide, uw_10, by decide, by decide +kernel, rfl⟩
theorem fa_M_28 : FA "KiteLoggerModel" 28 10 6 ((ftag 10).getD 6 0) := ⟨"KiteLoggerModel", "KiteLoggerModel", T10, 28, TT_in (i := 1369) (by decide +kernel) (by decide +kernel), rfl, rfl, by decide, uw_10, by decide, by decide +kernel, rfl⟩
theorem fa_M_31 : FA "KiteLoggerModel" 31 10 12 ((ftag 10).getD 12 0) := ⟨"KiteLoggerModel", "KiteLoggerModel", T10, 28, TT_in (i := 1375) (by decide +kernel) (by decide +kernel), rfl, rfl, by decide, uw_10, by decide, by decide +kernel, rfl⟩
theorem fa_M_34 : FA "KiteLoggerModel" 34 10 14 ((ftag 10).getD 14 0) := ⟨"KiteLoggerModel", "KiteLoggerModel", T10, 28, TT_in (i := 1377) (by decide +kernel) (by decide +kernel), rfl, rfl, by decide, uw_10, by decide, by decide +kernel, rfl⟩
theorem fa_M_37 : FA "KiteLoggerModel" 37 10 22 ((ftag 10).getD 22 0) := ⟨"KiteLoggerModel", "KiteLoggerModel", T10, 28, TT_in (i := 1385) (by decide +kernel) (by decide +kernel), rfl, rfl, by decide, uw_10, by decide, by decide +kernel, rfl⟩
theorem fa_M_41 : FA "KiteLoggerModel" 41 10 24 ((ftag 10).getD 24 0) := ⟨"KiteLoggerModel", "KiteLoggerModel", T10, 28, TT_in (i := 1387) (by decide +kernel) (by decide +kernel), rfl, rfl, by decide, uw_10, by decide, by decide +kernel, rfl⟩
theorem fa_M_64 : FA "KiteLoggerModel" 64 10 25 ((ftag 10).getD 25 0) := ⟨"KiteLoggerModel", "KiteLoggerModel", T10, 28, TT_in (i := 1388) (by decide +kernel) (by decide +kernel), rfl, rfl, by decide, uw_10, by decide, by decide +kernel, rfl⟩
theorem fa_M_76 : FA "KiteLoggerModel" 76 10 8 ((ftag 10).getD 8 0) := ⟨"KiteLoggerModel", "KiteLoggerModel", T10, 28, TT_in (i := 1371) (by decide +kernel) (by decide +kernel), rfl, rfl, by decide, uw_10, by decide, by decide +kernel, rfl⟩
theorem fa_M_183 : FA "KiteLoggerModel" 183 10 10 ((ftag 10).getD 10 0) := ⟨"KiteLoggerModel", "KiteLoggerModel", T10, 28, TT_in (i := 1373) (by decide +kernel) (by decide +kernel), rfl, rfl, by decide, uw_10, by decide, by decide +kernel, rfl⟩
theorem fa_M_186 : FA "KiteLoggerModel" 186 10 7 ((ftag 10).getD 7 0) := ⟨"KiteLoggerModel", "KiteLoggerModel", T10, 28, TT_in (i := 1370) (by decide +kernel) (by decide +kernel), rfl, rfl, by decide, uw_10, by decide, by decide +kernel, rfl⟩
theorem fa_M_222 : FA "KiteLoggerModel" 222 10 13 ((ftag 10).getD 13 0) := ⟨"KiteLoggerModel", "KiteLoggerModel", T10, 28, TT_in (i := 1376) (by decide +kernel) (by decide +kernel), rfl, rfl, by decide, uw_10, by decide, by decide +kernel, rfl⟩
theorem fa_M_231 : FA "KiteLoggerModel" 231 10 11 ((ftag 10).getD 11 0) := ⟨"KiteLoggerModel", "KiteLoggerModel", T10, 28, TT_in (i := 1374) (by decide +kernel) (by decide +kernel), rfl, rfl, by decide, uw_10, by decide, by decide +kernel, rfl⟩
theorem fa_M_235 : FA "KiteLoggerModel" 235 10 15 ((ftag 10).getD 15 0) := ⟨"KiteLoggerModel", "KiteLoggerModel", T10, 28, TT_in (i := 1378) (by decide +kernel) (by decide +kernel), rfl, rfl, by decide, uw_10, by decide, by decide +kernel, rfl⟩
theorem fa_M_238 : FA "KiteLoggerModel" 238 10 16 ((ftag 10).getD 16 0) := ⟨"KiteLoggerModel", "KiteLoggerModel", T10, 28, TT_in (i := 1379) (by decide +kernel) (by decide +kernel), rfl, rfl, by decide, uw_10, by decide, by decide +kernel, rfl⟩
theorem fa_M_244 : FA "KiteLoggerModel" 244 10 17 ((ftag 10).getD 17 0) := ⟨"KiteLoggerModel", "KiteLoggerModel", T10, 28, TT_in (i := 1380) (by decide +kernel) (by decide +kernel), rfl, rfl, by decide, uw_10, by decide, by decide +kernel, rfl⟩
theorem fa_M_247 : FA "KiteLoggerModel" 247 10 18 ((ftag 10).getD 18 0) := ⟨"KiteLoggerModel", "KiteLoggerModel", T10, 28, TT_in (i := 1381) (by decide +kernel) (by decide +kernel), rfl, rfl, by decide, uw_10, by decide, by decide +kernel, rfl⟩
theorem fa_M_250 : FA "KiteLoggerModel" 250 10 19 ((ftag 10).getD 19 0) := ⟨"KiteLoggerModel", "KiteLoggerModel", T10, 28, TT_in (i := 1382) (by decide +kernel) (by decide +kernel), rfl, rfl, by decide, uw_10, by decide, by decide +kernel, rfl⟩
theorem fa_M_259 : FA "KiteLoggerModel" 259 10 20 ((ftag 10).getD 20 0) := ⟨"KiteLoggerModel", "KiteLoggerModel", T10, 28, TT_in (i := 1383) (by decide +kernel) (by decide +kernel), rfl, rfl, by decide, uw_10, by decide, by decide +kernel, rfl⟩
theorem fa_M_262 : FA "KiteLoggerModel" 262 10 23 ((ftag 10).getD 23 0) := ⟨"KiteLoggerModel", "KiteLoggerModel", T10, 28, TT_in (i := 1386) (by decide +kernel) (by decide +kernel), rfl, rfl, by decide, uw_10, by decide, by decide +kernel, rfl⟩
theorem fa_M_268 : FA "KiteLoggerModel" 268 10 21 ((ftag 10).getD 21 0) := ⟨"KiteLoggerModel", "KiteLoggerModel", T10, 28, TT_in (i := 1384) (by decide +kernel) (by decide +kernel), rfl, rfl, by decide, uw_10, by decide, by decide +kernel, rfl⟩
theorem fa_M_299 : FA "KiteLoggerModel" 299 10 9 ((ftag 10).getD 9 0) := ⟨"KiteLoggerModel", "KiteLoggerModel", T10, 28, TT_in (i := 1372) (by decide +kernel) (by decide +kernel), rfl, rfl, by decide, uw_10, by decide, by decide +kernel, rfl⟩
theorem fa_M_336 : FA "KiteLoggerModel" 336 10 26 ((ftag 10).getD 26 0) := ⟨"KiteLoggerModel", "KiteLoggerModel", T10, 28, TT_in (i := 1389) (by decide +kernel) (by decide +kernel), rfl, rfl, by decide, uw_10, by decide, by decide +kernel, rfl⟩
theorem fa_M_359 : FA "KiteLoggerModel" 359 10 27 ((ftag 10).getD 27 0) := ⟨"KiteLoggerModel", "KiteLoggerModel", T10, 28, TT_in (i := 1390) (by decide +kernel) (by decide +kernel), rfl, rfl, by decide, uw_10, by decide, by decide +kernel, rfl⟩
theorem fw_0_1 : FW 0 1 .int := ⟨"KiteLogger$History", T0, 3, ty0, rfl, tyk0, nm0, rfl, by decide +kernel⟩
theorem fw_0_2 : FW 0 2 .int := ⟨"KiteLogger$History", T0, 3, ty0, rfl, tyk0, nm0, rfl, by decide +kernel⟩
theorem fw_1_0 : FW 1 0 .int := ⟨"KiteLogger$Kite", T1, 13, ty1, rfl, tyk1, nm1, rfl, by decide +kernel⟩
theorem fw_1_1 : FW 1 1 .int := ⟨"KiteLogger$Kite", T1, 13, ty1, rfl, tyk1, nm1, rfl, by decide +kernel⟩
theorem fw_1_2 : FW 1 2 .int := ⟨"KiteLogger$Kite", T1, 13, ty1, rfl, tyk1, nm1, rfl, by decide +kernel⟩
theorem fw_1_3 : FW 1 3 .int := ⟨"KiteLogger$Kite", T1, 13, ty1, rfl, tyk1, nm1, rfl, by decide +kernel⟩
theorem fw_1_4 : FW 1 4 .int := ⟨"KiteLogger$Kite", T1, 13, ty1, rfl, tyk1, nm1, rfl, by decide +kernel⟩
theorem fw_1_5 : FW 1 5 .int := ⟨"KiteLogger$Kite", T1, 13, ty1, rfl, tyk1, nm1, rfl, by decide +kernel⟩
theorem fw_1_6 : FW 1 6 .int := ⟨"KiteLogger$Kite", T1, 13, ty1, rfl, tyk1, nm1, rfl, by decide +kernel⟩
theorem fw_1_7 : FW 1 7 .int := ⟨"KiteLogger$Kite", T1, 13, ty1, rfl, tyk1, nm1, rfl, by decide +kernel⟩
theorem fw_1_8 : FW 1 8 .int := ⟨"KiteLogger$Kite", T1, 13, ty1, rfl, tyk1, nm1, rfl, by decide +kernel⟩
theorem fw_1_9 : FW 1 9 .int := ⟨"KiteLogger$Kite", T1, 13, ty1, rfl, tyk1, nm1, rfl, by decide +kernel⟩
theorem fw_1_10 : FW 1 10 .int := ⟨"KiteLogger$Kite", T1, 13, ty1, rfl, tyk1, nm1, rfl, by decide +kernel⟩
theorem fw_1_11 : FW 1 11 .int := ⟨"KiteLogger$Kite", T1, 13, ty1, rfl, tyk1, nm1, rfl, by decide +kernel⟩
theorem fw_1_12 : FW 1 12 .int := ⟨"KiteLogger$Kite", T1, 13, ty1, rfl, tyk1, nm1, rfl, by decide +kernel⟩
theorem fw_2_1 : FW 2 1 .int := ⟨"KiteLogger$Output", T2, 2, ty2, rfl, tyk2, nm2, rfl, by decide +kernel⟩
theorem fw_3_4 : FW 3 4 .int := ⟨"KiteLogger$Samples", T3, 7, ty3, rfl, tyk3, nm3, rfl, by decide +kernel⟩
theorem fw_3_5 : FW 3 5 .int := ⟨"KiteLogger$Samples", T3, 7, ty3, rfl, tyk3, nm3, rfl, by decide +kernel⟩
theorem fw_3_6 : FW 3 6 .int := ⟨"KiteLogger$Samples", T3, 7, ty3, rfl, tyk3, nm3, rfl, by decide +kernel⟩
theorem fw_4_4 : FW 4 4 .int := ⟨"KiteLogger$Script", T4, 6, ty4, rfl, tyk4, nm4, rfl, by decide +kernel⟩
theorem fw_4_5 : FW 4 5 .int := ⟨"KiteLogger$Script", T4, 6, ty4, rfl, tyk4, nm4, rfl, by decide +kernel⟩
theorem fw_5_2 : FW 5 2 .int := ⟨"KiteLogger$Station", T5, 9, ty5, rfl, tyk5, nm5, rfl, by decide +kernel⟩
theorem fw_5_6 : FW 5 6 .int := ⟨"KiteLogger$Station", T5, 9, ty5, rfl, tyk5, nm5, rfl, by decide +kernel⟩
theorem fw_5_7 : FW 5 7 .int := ⟨"KiteLogger$Station", T5, 9, ty5, rfl, tyk5, nm5, rfl, by decide +kernel⟩
theorem fw_5_8 : FW 5 8 .int := ⟨"KiteLogger$Station", T5, 9, ty5, rfl, tyk5, nm5, rfl, by decide +kernel⟩
theorem fw_6_0 : FW 6 0 .int := ⟨"KiteLogger$StationPlan", T6, 6, ty6, rfl, tyk6, nm6, rfl, by decide +kernel⟩
theorem fw_6_1 : FW 6 1 .int := ⟨"KiteLogger$StationPlan", T6, 6, ty6, rfl, tyk6, nm6, rfl, by decide +kernel⟩
theorem fw_6_2 : FW 6 2 .int := ⟨"KiteLogger$StationPlan", T6, 6, ty6, rfl, tyk6, nm6, rfl, by decide +kernel⟩
theorem fw_6_3 : FW 6 3 .int := ⟨"KiteLogger$StationPlan", T6, 6, ty6, rfl, tyk6, nm6, rfl, by decide +kernel⟩
theorem fw_6_5 : FW 6 5 .int := ⟨"KiteLogger$StationPlan", T6, 6, ty6, rfl, tyk6, nm6, rfl, by decide +kernel⟩
theorem fw_7_1 : FW 7 1 .int := ⟨"KiteLogger$TextReader", T7, 10, ty7, rfl, tyk7, nm7, rfl, by decide +kernel⟩
theorem fw_7_2 : FW 7 2 .int := ⟨"KiteLogger$TextReader", T7, 10, ty7, rfl, tyk7, nm7, rfl, by decide +kernel⟩
theorem fw_7_3 : FW 7 3 .int := ⟨"KiteLogger$TextReader", T7, 10, ty7, rfl, tyk7, nm7, rfl, by decide +kernel⟩
theorem fw_7_4 : FW 7 4 .int := ⟨"KiteLogger$TextReader", T7, 10, ty7, rfl, tyk7, nm7, rfl, by decide +kernel⟩
theorem fw_7_5 : FW 7 5 .int := ⟨"KiteLogger$TextReader", T7, 10, ty7, rfl, tyk7, nm7, rfl, by decide +kernel⟩
theorem fw_7_6 : FW 7 6 .int := ⟨"KiteLogger$TextReader", T7, 10, ty7, rfl, tyk7, nm7, rfl, by decide +kernel⟩
theorem fw_7_7 : FW 7 7 .int := ⟨"KiteLogger$TextReader", T7, 10, ty7, rfl, tyk7, nm7, rfl, by decide +kernel⟩
theorem fw_7_8 : FW 7 8 .int := ⟨"KiteLogger$TextReader", T7, 10, ty7, rfl, tyk7, nm7, rfl, by decide +kernel⟩
theorem fw_7_9 : FW 7 9 .int := ⟨"KiteLogger$TextReader", T7, 10, ty7, rfl, tyk7, nm7, rfl, by decide +kernel⟩
theorem fw_8_1 : FW 8 1 .int := ⟨"KiteLogger$WindBuffer", T8, 3, ty8, rfl, tyk8, nm8, rfl, by decide +kernel⟩
theorem fw_8_2 : FW 8 2 .int := ⟨"KiteLogger$WindBuffer", T8, 3, ty8, rfl, tyk8, nm8, rfl, by decide +kernel⟩
theorem fw_9_7 : FW 9 7 .boolean := ⟨"KiteLogger", T9, 9, ty9, rfl, tyk9, nm9, rfl, by decide +kernel⟩
theorem fw_10_7 : FW 10 7 .int := ⟨"KiteLoggerModel", T10, 28, ty10, rfl, tyk10, nm10, rfl, by decide +kernel⟩
theorem fw_10_8 : FW 10 8 .int := ⟨"KiteLoggerModel", T10, 28, ty10, rfl, tyk10, nm10, rfl, by decide +kernel⟩
theorem fw_10_9 : FW 10 9 .int := ⟨"KiteLoggerModel", T10, 28, ty10, rfl, tyk10, nm10, rfl, by decide +kernel⟩
theorem fw_10_10 : FW 10 10 .int := ⟨"KiteLoggerModel", T10, 28, ty10, rfl, tyk10, nm10, rfl, by decide +kernel⟩
theorem fw_10_11 : FW 10 11 .boolean := ⟨"KiteLoggerModel", T10, 28, ty10, rfl, tyk10, nm10, rfl, by decide +kernel⟩
theorem fw_10_13 : FW 10 13 .int := ⟨"KiteLoggerModel", T10, 28, ty10, rfl, tyk10, nm10, rfl, by decide +kernel⟩
theorem fw_10_15 : FW 10 15 .int := ⟨"KiteLoggerModel", T10, 28, ty10, rfl, tyk10, nm10, rfl, by decide +kernel⟩
theorem fw_10_16 : FW 10 16 .int := ⟨"KiteLoggerModel", T10, 28, ty10, rfl, tyk10, nm10, rfl, by decide +kernel⟩
theorem fw_10_17 : FW 10 17 .int := ⟨"KiteLoggerModel", T10, 28, ty10, rfl, tyk10, nm10, rfl, by decide +kernel⟩
theorem fw_10_18 : FW 10 18 .int := ⟨"KiteLoggerModel", T10, 28, ty10, rfl, tyk10, nm10, rfl, by decide +kernel⟩
theorem fw_10_19 : FW 10 19 .int := ⟨"KiteLoggerModel", T10, 28, ty10, rfl, tyk10, nm10, rfl, by decide +kernel⟩
theorem fw_10_20 : FW 10 20 .int := ⟨"KiteLoggerModel", T10, 28, ty10, rfl, tyk10, nm10, rfl, by decide +kernel⟩
theorem fw_10_21 : FW 10 21 .int := ⟨"KiteLoggerModel", T10, 28, ty10, rfl, tyk10, nm10, rfl, by decide +kernel⟩
theorem fw_10_22 : FW 10 22 .int := ⟨"KiteLoggerModel", T10, 28, ty10, rfl, tyk10, nm10, rfl, by decide +kernel⟩
theorem fw_10_23 : FW 10 23 .int := ⟨"KiteLoggerModel", T10, 28, ty10, rfl, tyk10, nm10, rfl, by decide +kernel⟩
theorem fw_10_26 : FW 10 26 .int := ⟨"KiteLoggerModel", T10, 28, ty10, rfl, tyk10, nm10, rfl, by decide +kernel⟩
theorem fw_10_27 : FW 10 27 .int := ⟨"KiteLoggerModel", T10, 28, ty10, rfl, tyk10, nm10, rfl, by decide +kernel⟩
end
section
/-! the judgement of a walk over the memory, and a row an instruction -/
def strT : List String := ["the buffer has no text of this length", "kite", "gusts", "interval", "a number is out of range", "there is no such sample", "the station does not allow this now", "launch", "out", "in", "bridle", "every", "search", "archive", "wait", "repeat", "", "there is no such byte", "there is nothing to undo", "there is no snapshot"]
def strB : List (List Int32) := [[116, 104, 101, 32, 98, 117, 102, 102, 101, 114, 32, 104, 97, 115, 32, 110, 111, 32, 116, 101, 120, 116, 32, 111, 102, 32, 116, 104, 105, 115, 32, 108, 101, 110, 103, 116, 104], [107, 105, 116, 101], [103, 117, 115, 116, 115], [105, 110, 116, 101, 114, 118, 97, 108], [97, 32, 110, 117, 109, 98, 101, 114, 32, 105, 115, 32, 111, 117, 116, 32, 111, 102, 32, 114, 97, 110, 103, 101], [116, 104, 101, 114, 101, 32, 105, 115, 32, 110, 111, 32, 115, 117, 99, 104, 32, 115, 97, 109, 112, 108, 101], [116, 104, 101, 32, 115, 116, 97, 116, 105, 111, 110, 32, 100, 111, 101, 115, 32, 110, 111, 116, 32, 97, 108, 108, 111, 119, 32, 116, 104, 105, 115, 32, 110, 111, 119], [108, 97, 117, 110, 99, 104], [111, 117, 116], [105, 110], [98, 114, 105, 100, 108, 101], [101, 118, 101, 114, 121], [115, 101, 97, 114, 99, 104], [97, 114, 99, 104, 105, 118, 101], [119, 97, 105, 116], [114, 101, 112, 101, 97, 116], [], [116, 104, 101, 114, 101, 32, 105, 115, 32, 110, 111, 32, 115, 117, 99, 104, 32, 98, 121, 116, 101], [116, 104, 101, 114, 101, 32, 105, 115, 32, 110, 111, 116, 104, 105, 110, 103, 32, 116, 111, 32, 117, 110, 100, 111], [116, 104, 101, 114, 101, 32, 105, 115, 32, 110, 111, 32, 115, 110, 97, 112, 115, 104, 111, 116]]
def strS : List (String × Nat × Nat) := [("KiteLogger", 306, 0), ("KiteLogger$StationPlan", 58, 1), ("KiteLogger$StationPlan", 71, 2), ("KiteLogger$StationPlan", 91, 3), ("KiteLogger", 298, 4), ("KiteLogger", 313, 5), ("KiteLogger", 301, 6), ("KiteLogger$Script", 87, 7), ("KiteLogger$Script", 89, 8), ("KiteLogger$Script", 91, 9), ("KiteLogger$Script", 93, 10), ("KiteLogger$Script", 95, 11), ("KiteLogger$Script", 97, 12), ("KiteLogger$Script", 99, 13), ("KiteLogger$Script", 101, 14), ("KiteLogger$Script", 103, 15), ("KiteLogger$Script", 105, 16), ("KiteLogger", 274, 17), ("KiteLogger", 283, 18), ("KiteLogger", 291, 19), ("KiteLoggerModel", 46, 7), ("KiteLoggerModel", 48, 8), ("KiteLoggerModel", 50, 9), ("KiteLoggerModel", 52, 10), ("KiteLoggerModel", 54, 11), ("KiteLoggerModel", 56, 12), ("KiteLoggerModel", 58, 13), ("KiteLoggerModel", 60, 14), ("KiteLoggerModel", 62, 15), ("KiteLoggerModel", 305, 1), ("KiteLoggerModel", 313, 2), ("KiteLoggerModel", 318, 3)]
def lenS (i : Nat) : Nat := (strB.getD i []).length
def bytS (i j : Nat) : Int32 := (strB.getD i []).getD j 0
def fgL : List Int32 := [6, 9, 12, 4, 0, 8]
/-- what of the start no method writes: the texts, the first gusts, the statics that a throw reads, the tables' words that warm -/
def Sx (w : Wc) (U : State) : Prop :=
  (∀ i : Nat, i < 20 → va_O "java/lang/String" (wad w (1000 + i)) (wA w) U U.heap ∧ va_OF "java/lang/String" "coder" "B" (.int 0) (wad w (1000 + i)) (wA w) U U.heap ∧ va_OF "java/lang/String" "value" "[B" (.ref (wad w (2000 + i))) (wad w (1000 + i)) (wA w) U U.heap ∧ va_T .byte (wad w (2000 + i)) (lenS i) (fun j => .int (bytS i j)) (wA w) U U.heap) ∧
  (∀ q ∈ strS, vk_R q.1 q.2.1 (strT.getD q.2.2 "") (wad w (1000 + q.2.2)) U) ∧ (∀ x ∈ NW, va_Nw x U) ∧
  va_Z "KiteLogger" "FIRST_GUSTS" "[I" (.ref (wad w 1100)) (wA w) U U.heap ∧ va_T .int (wad w 1100) 6 (fun j => .int (fgL.getD j 0)) (wA w) U U.heap ∧
  va_Z "java/lang/String" "COMPACT_STRINGS" "Z" (.int 1) (wA w) U U.heap ∧
  vx_Zq Bundle.tN "UNASSIGNED_STACK" Bundle.steD (wA w) U U.heap ∧ vx_Zq Bundle.tN "SUPPRESSED_SENTINEL" Bundle.listD (wA w) U U.heap
theorem Sx.step {w : Wc} {s U : State} {H : Heap} {locs : List Loc} (h : Sx w s) (hS : va_S (wA w) s.heap H locs) (hH : U.heap = H) (hW : s.WarmedH U.vm) : Sx w U := by
  obtain ⟨h1, h2, h3, h4, h5, h6, h7, h8⟩ := h
  have hk : ∀ a : Nat, a < s.heap.size → ¬ wA w a → U.heap[a]? = s.heap[a]? := by rw [hH]; exact hS.2.1
  refine ⟨fun i hi => ?_, fun q hq => vk_R.warm hW (h2 q hq), NW_warm hW h3, (va_Z.moved hW.alike h4).kept hk, (va_T.moved hW.alike h5).kept hk, (va_Z.moved hW.alike h6).kept hk, (vx_Zq.moved hW.alike h7).kept hk, (vx_Zq.moved hW.alike h8).kept hk⟩
  obtain ⟨a1, a2, a3, a4⟩ := h1 i hi
  exact ⟨(va_O.moved hW.alike a1).kept hk, (va_OF.moved hW.alike a2).kept hk, (va_OF.moved hW.alike a3).kept hk, (va_T.moved hW.alike a4).kept hk⟩
/-- the same statics seen from a frame -/
theorem Sx.frame {w : Wc} (u U : State) (hh : U.heap = u.heap) (hv : U.vm = u.vm) (h : Sx w u) : Sx w U := by
  have hal : u.vm.Alike U.vm := by rw [hv]; exact Vm.Alike.refl _
  obtain ⟨h1, h2, h3, h4, h5, h6, h7, h8⟩ := h
  refine ⟨fun i hi => ?_, fun q hq => vk_R.same hv (h2 q hq), NW_same hv.symm h3, ?_, ?_, ?_, ?_, ?_⟩
  · obtain ⟨a1, a2, a3, a4⟩ := h1 i hi
    rw [hh]
    exact ⟨va_O.moved hal a1, va_OF.moved hal a2, va_OF.moved hal a3, va_T.moved hal a4⟩
  · rw [hh]; exact va_Z.moved hal h4
  · rw [hh]; exact va_T.moved hal h5
  · rw [hh]; exact va_Z.moved hal h6
  · rw [hh]; exact vx_Zq.moved hal h7
  · rw [hh]; exact vx_Zq.moved hal h8
/-- a method's start: the memory M in the heap, the tables, the statics -/
def Wd (w : Wc) (M : Mem) (U : State) : Prop := Rp w M U.heap ∧ va_K (wD w) vwCl (wtys w) U ∧ Wok w ∧ wlo w ≤ U.heap.size ∧ Sx w U
theorem Wd.blind {w : Wc} {M : Mem} {av : List Value} : FrameBlind (va_Pc av (Wd w M)) := by
  intro a U g mk h
  obtain ⟨h0, h1, h2, h3, h4, h5⟩ := h
  exact ⟨h0, h1, va_K.moved (u := U) (U := U.calling g mk a) (Vm.Alike.refl U.vm) h2, h3, h4, Sx.frame U _ rfl rfl h5⟩
theorem Rp.at {w : Wc} {M : Mem} {t : State} {H : Heap} (ht : t.heap = H) (h : Rp w M H) : Rp w M t.heap := by rw [ht]; exact h
def b2i (b : Bool) : Int32 := if b = true then 1 else 0
theorem b2i_nar (b : Bool) : narrow .boolean (.int (b2i b)) = .int (b2i b) := by cases b <;> rfl
abbrev QI (w : Wc) (r : Int32 × Mem) := va_Qi (fun r' (_ : Unit) => r' = r.1) (fun _ t => Rp w r.2 t.heap) (wA w)
abbrev QZ (w : Wc) (r : Bool × Mem) := va_Qi (fun r' (_ : Unit) => r' = b2i r.1) (fun _ t => Rp w r.2 t.heap) (wA w)
abbrev QV (w : Wc) (r : Mem) := va_Qv (fun (_ : Unit) => True) (fun _ t => Rp w r t.heap) (wA w)
abbrev QR (w : Wc) (r : Option Nat × Mem) := va_Qq (fun a (_ : Unit) => a = r.1.map (wad w)) (fun _ t => Rp w r.2 t.heap) (wA w)
abbrev QD (w : Wc) (r : UInt64 × Mem) := va_Qd (fun r' (_ : Unit) => r' = r.1) (fun _ t => Rp w r.2 t.heap) (wA w)
abbrev QF (w : Wc) (r : UInt32 × Mem) := va_Qf (fun r' (_ : Unit) => r' = r.1) (fun _ t => Rp w r.2 t.heap) (wA w)
/-- a method's contract: whenever the pure reading f answers r, the method does -/
def Ct {ρ : Type} (Q : Wc → ρ → Array Value → State → Outcome → State → Prop) (l : Launch) (y : MethodName) (b : ByteArray) (maxL : Nat) (ret : Option FieldType) (rm : Room) (w : Wc) (av : List Value) (M : Mem) (f : Option ρ) : Prop :=
  ∀ r, f = some r → Met l y (.code y b maxL ret :: TT) rm (va_Pc av (Wd w M)) (Q w r) rm.cells rm.slots (wA w)
def imax (x y : Int32) : Int32 := if x < y then y else x
def imin (x y : Int32) : Int32 := if y < x then y else x
def iabs (x : Int32) : Int32 := if 0 ≤ x then x else 0 - x
def irm (x y : Int32) : Int32 := x - x / y * y
def grd {ρ : Type} (b : Bool) (o : Option ρ) : Option ρ := if b = true then o else none
theorem grd_some {ρ : Type} {b : Bool} {o : Option ρ} {r : ρ} (h : grd b o = some r) : b = true ∧ o = some r := by
  unfold grd at h
  by_cases hb : b = true
  · rw [if_pos hb] at h; exact ⟨hb, h⟩
  · rw [if_neg hb] at h; cases h
theorem grd_t {ρ : Type} {b : Bool} {o : Option ρ} (h : b = true) : grd b o = o := if_pos h
def inB (i : Int32) (n : Nat) : Bool := !decide (i < 0) && decide (i.toNatClampNeg < n)
theorem inB_of {i : Int32} {n : Nat} (h : inB i n = true) : vp_in i n := by
  unfold inB at h
  simp only [Bool.and_eq_true, Bool.not_eq_true', decide_eq_false_iff_not, decide_eq_true_eq] at h
  intro hh
  rcases hh with h1 | h1
  · exact h.1 h1
  · omega
def nzB (y : Int32) : Bool := !decide (y = 0)
theorem nzB_of {y : Int32} (h : nzB y = true) : ¬ y = 0 := by
  unfold nzB at h
  simp only [Bool.not_eq_true', decide_eq_false_iff_not] at h
  exact h
def cpB (sp dp z : Int32) (n0 n1 : Nat) : Bool := !decide (sp < 0) && (!decide (dp < 0) && (!decide (z < 0) && (decide (sp.toNatClampNeg + z.toNatClampNeg ≤ n0) && decide (dp.toNatClampNeg + z.toNatClampNeg ≤ n1))))
theorem cpB_of {sp dp z : Int32} {n0 n1 : Nat} (h : cpB sp dp z n0 n1 = true) : ¬ sp < 0 ∧ ¬ dp < 0 ∧ ¬ z < 0 ∧ sp.toNatClampNeg + z.toNatClampNeg ≤ n0 ∧ dp.toNatClampNeg + z.toNatClampNeg ≤ n1 := by
  unfold cpB at h
  simp only [Bool.and_eq_true, Bool.not_eq_true', decide_eq_false_iff_not, decide_eq_true_eq] at h
  exact ⟨h.1, h.2.1, h.2.2.1, h.2.2.2.1, h.2.2.2.2⟩
def nn32 (r : UInt32) : Bool := decide (r &&& 0x7fffffff ≤ 0x7f800000)
theorem nn32_of {r : UInt32} (h : nn32 r = true) : vf_n32 r := of_decide_eq_true (p := r &&& 0x7fffffff ≤ 0x7f800000) h
def nn64 (r : UInt64) : Bool := decide (r &&& 0x7fffffffffffffff ≤ 0x7ff0000000000000)
theorem nn64_of {r : UInt64} (h : nn64 r = true) : vf_n64 r := of_decide_eq_true (p := r &&& 0x7fffffffffffffff ≤ 0x7ff0000000000000) h
def nm {α ρ : Type} (x : α) (f : α → Option ρ) : Option ρ := f x
def jn {α ρ : Type} (f : α) (h : α → Option ρ) : Option ρ := h f
def ocase {ρ : Type} (x : Option Nat) (o1 : Option ρ) (o2 : Nat → Option ρ) : Option ρ := match x with
  | none => o1
  | some q => grd (stL.contains q) (o2 q)
def scase {ρ : Type} (x : Option Nat) (o : Nat → Option ρ) : Option ρ := match x with
  | none => none
  | some q => grd (decide (1000 ≤ q) && decide (q < 1020)) (o (q - 1000))
section GO
variable {ρ : Type} {p : Program} {l : Launch} {e : Env} {R : Room} {s : State} {m : MethodId} {args : Array Value} {below : List Frame} {meth : Method} {c : Code} {w : Wc} {nL k n : Nat} {Qf : ρ → State → Prop} {cc : ByteArray} {own : String}
/-- from here on the walk does what o says -/
def Go (p : Program) (l : Launch) (e : Env) (R : Room) (s : State) (m : MethodId) (args : Array Value) (below : List Frame) (meth : Method) (c : Code) (w : Wc) (nL k n : Nat) (Qf : ρ → State → Prop) (o : Option ρ) (pc : Nat) (L : List (Nat × Value)) (st : List Value) (M : Mem) : Prop :=
  ∀ r, o = some r → ∀ (H : Heap) (locs : List Loc) (ls : Array Slot), Rp w M H → va_S (wA w) s.heap H locs → lv_has ls nL L → W p l e R s m args below meth c H locs k n (Qf r) (F0 m pc ls st)
/-- what a walk stands on -/
def Gd (p : Program) (s : State) (m : MethodId) (args : Array Value) (meth : Method) (c : Code) (w : Wc) (nL : Nat) (cc : ByteArray) (own : String) : Prop :=
  p.tables.exec = Jvm.exec ∧ c.code = cc ∧ c.maxLocals = nL ∧ s.vm.findClass own = some m.cls ∧ (∀ x ∈ TT, x.before args s = true) ∧ va_K (wD w) vwCl (wtys w) s ∧ meth.locks = false ∧ Sx w s ∧ Wok w ∧ wlo w ≤ s.heap.size
theorem G_iadd (g : Gd p s m args meth c w nL cc own) {pc : Nat} {L : List (Nat × Value)} {st : List Value} {M : Mem} {o : Option ρ} {x y : Int32} (d : decode cc pc = .ok (.iadd, 1)) (kk : Go p l e R s m args below meth c w nL k n Qf o (pc + 1) L (.int (x + y) :: st) M) : Go p l e R s m args below meth c w nL k n Qf o pc L (.int y :: .int x :: st) M :=
  fun r hr H locs ls hP hS hl => lv_iadd g.1 g.2.1 d (kk r hr H locs ls hP hS hl)
theorem G_isub (g : Gd p s m args meth c w nL cc own) {pc : Nat} {L : List (Nat × Value)} {st : List Value} {M : Mem} {o : Option ρ} {x y : Int32} (d : decode cc pc = .ok (.isub, 1)) (kk : Go p l e R s m args below meth c w nL k n Qf o (pc + 1) L (.int (x - y) :: st) M) : Go p l e R s m args below meth c w nL k n Qf o pc L (.int y :: .int x :: st) M :=
  fun r hr H locs ls hP hS hl => lv_isub g.1 g.2.1 d (kk r hr H locs ls hP hS hl)
theorem G_imul (g : Gd p s m args meth c w nL cc own) {pc : Nat} {L : List (Nat × Value)} {st : List Value} {M : Mem} {o : Option ρ} {x y : Int32} (d : decode cc pc = .ok (.imul, 1)) (kk : Go p l e R s m args below meth c w nL k n Qf o (pc + 1) L (.int (x * y) :: st) M) : Go p l e R s m args below meth c w nL k n Qf o pc L (.int y :: .int x :: st) M :=
  fun r hr H locs ls hP hS hl => lv_imul g.1 g.2.1 d (kk r hr H locs ls hP hS hl)
theorem G_iand (g : Gd p s m args meth c w nL cc own) {pc : Nat} {L : List (Nat × Value)} {st : List Value} {M : Mem} {o : Option ρ} {x y : Int32} (d : decode cc pc = .ok (.iand, 1)) (kk : Go p l e R s m args below meth c w nL k n Qf o (pc + 1) L (.int (x &&& y) :: st) M) : Go p l e R s m args below meth c w nL k n Qf o pc L (.int y :: .int x :: st) M :=
  fun r hr H locs ls hP hS hl => lv_iand g.1 g.2.1 d (kk r hr H locs ls hP hS hl)
theorem G_ishr (g : Gd p s m args meth c w nL cc own) {pc : Nat} {L : List (Nat × Value)} {st : List Value} {M : Mem} {o : Option ρ} {x y : Int32} (d : decode cc pc = .ok (.ishr, 1)) (kk : Go p l e R s m args below meth c w nL k n Qf o (pc + 1) L (.int (x >>> (y &&& 31)) :: st) M) : Go p l e R s m args below meth c w nL k n Qf o pc L (.int y :: .int x :: st) M :=
  fun r hr H locs ls hP hS hl => lv_ishr g.1 g.2.1 d (kk r hr H locs ls hP hS hl)
theorem G_iushr (g : Gd p s m args meth c w nL cc own) {pc : Nat} {L : List (Nat × Value)} {st : List Value} {M : Mem} {o : Option ρ} {x y : Int32} (d : decode cc pc = .ok (.iushr, 1)) (kk : Go p l e R s m args below meth c w nL k n Qf o (pc + 1) L (.int ((x.toUInt32 >>> (y.toUInt32 &&& Int32.toUInt32 31)).toInt32) :: st) M) : Go p l e R s m args below meth c w nL k n Qf o pc L (.int y :: .int x :: st) M :=
  fun r hr H locs ls hP hS hl => lv_iushr g.1 g.2.1 d rfl (kk r hr H locs ls hP hS hl)
theorem G_ineg (g : Gd p s m args meth c w nL cc own) {pc : Nat} {L : List (Nat × Value)} {st : List Value} {M : Mem} {o : Option ρ} {x : Int32} (d : decode cc pc = .ok (.ineg, 1)) (kk : Go p l e R s m args below meth c w nL k n Qf o (pc + 1) L (.int (-x) :: st) M) : Go p l e R s m args below meth c w nL k n Qf o pc L (.int x :: st) M :=
  fun r hr H locs ls hP hS hl => lv_ineg g.1 g.2.1 d (kk r hr H locs ls hP hS hl)
theorem G_i2l (g : Gd p s m args meth c w nL cc own) {pc : Nat} {L : List (Nat × Value)} {st : List Value} {M : Mem} {o : Option ρ} {x : Int32} (d : decode cc pc = .ok (.i2l, 1)) (kk : Go p l e R s m args below meth c w nL k n Qf o (pc + 1) L (.long x.toInt64 :: st) M) : Go p l e R s m args below meth c w nL k n Qf o pc L (.int x :: st) M :=
  fun r hr H locs ls hP hS hl => lv_i2l g.1 g.2.1 d rfl (kk r hr H locs ls hP hS hl)
theorem G_i2b (g : Gd p s m args meth c w nL cc own) {pc : Nat} {L : List (Nat × Value)} {st : List Value} {M : Mem} {o : Option ρ} {x : Int32} (d : decode cc pc = .ok (.i2b, 1)) (kk : Go p l e R s m args below meth c w nL k n Qf o (pc + 1) L (.int x.toInt8.toInt32 :: st) M) : Go p l e R s m args below meth c w nL k n Qf o pc L (.int x :: st) M :=
  fun r hr H locs ls hP hS hl => lv_i2b g.1 g.2.1 d rfl (kk r hr H locs ls hP hS hl)
theorem G_i2c (g : Gd p s m args meth c w nL cc own) {pc : Nat} {L : List (Nat × Value)} {st : List Value} {M : Mem} {o : Option ρ} {x : Int32} (d : decode cc pc = .ok (.i2c, 1)) (kk : Go p l e R s m args below meth c w nL k n Qf o (pc + 1) L (.int ((x.toUInt32 % 65536).toInt32) :: st) M) : Go p l e R s m args below meth c w nL k n Qf o pc L (.int x :: st) M :=
  fun r hr H locs ls hP hS hl => lv_i2c g.1 g.2.1 d rfl (kk r hr H locs ls hP hS hl)
theorem G_i2f (g : Gd p s m args meth c w nL cc own) {pc : Nat} {L : List (Nat × Value)} {st : List Value} {M : Mem} {o : Option ρ} {x : Int32} (d : decode cc pc = .ok (.i2f, 1)) (kk : Go p l e R s m args below meth c w nL k n Qf o (pc + 1) L (.float (FP.i2f x) :: st) M) : Go p l e R s m args below meth c w nL k n Qf o pc L (.int x :: st) M :=
  fun r hr H locs ls hP hS hl => lv_i2f g.1 g.2.1 d (kk r hr H locs ls hP hS hl)
theorem G_i2d (g : Gd p s m args meth c w nL cc own) {pc : Nat} {L : List (Nat × Value)} {st : List Value} {M : Mem} {o : Option ρ} {x : Int32} (d : decode cc pc = .ok (.i2d, 1)) (kk : Go p l e R s m args below meth c w nL k n Qf o (pc + 1) L (.double (FP.i2d x) :: st) M) : Go p l e R s m args below meth c w nL k n Qf o pc L (.int x :: st) M :=
  fun r hr H locs ls hP hS hl => lv_i2d g.1 g.2.1 d (kk r hr H locs ls hP hS hl)
theorem G_fconst0 (g : Gd p s m args meth c w nL cc own) {pc : Nat} {L : List (Nat × Value)} {st : List Value} {M : Mem} {o : Option ρ} (d : decode cc pc = .ok (.fconst 0, 1)) (kk : Go p l e R s m args below meth c w nL k n Qf o (pc + 1) L (.float 0 :: st) M) : Go p l e R s m args below meth c w nL k n Qf o pc L st M :=
  fun r hr H locs ls hP hS hl => lv_fconst0 g.1 g.2.1 d (kk r hr H locs ls hP hS hl)
theorem G_dconst0 (g : Gd p s m args meth c w nL cc own) {pc : Nat} {L : List (Nat × Value)} {st : List Value} {M : Mem} {o : Option ρ} (d : decode cc pc = .ok (.dconst 0, 1)) (kk : Go p l e R s m args below meth c w nL k n Qf o (pc + 1) L (.double 0 :: st) M) : Go p l e R s m args below meth c w nL k n Qf o pc L st M :=
  fun r hr H locs ls hP hS hl => lv_dconst0 g.1 g.2.1 d (kk r hr H locs ls hP hS hl)
theorem G_idiv (g : Gd p s m args meth c w nL cc own) {pc : Nat} {L : List (Nat × Value)} {st : List Value} {M : Mem} {o : Option ρ} {x y : Int32} (d : decode cc pc = .ok (.idiv, 1)) (kk : Go p l e R s m args below meth c w nL k n Qf o (pc + 1) L (.int (x / y) :: st) M) : Go p l e R s m args below meth c w nL k n Qf (grd (nzB y) o) pc L (.int y :: .int x :: st) M := by
  intro r hr H locs ls hP hS hl
  obtain ⟨h, hr⟩ := grd_some hr
  exact lv_idiv g.1 g.2.1 d (nzB_of h) (kk r hr H locs ls hP hS hl)
theorem G_idivK (g : Gd p s m args meth c w nL cc own) {pc : Nat} {L : List (Nat × Value)} {st : List Value} {M : Mem} {o : Option ρ} {x y : Int32} (hy : ¬ y = 0) (d : decode cc pc = .ok (.idiv, 1)) (kk : Go p l e R s m args below meth c w nL k n Qf o (pc + 1) L (.int (x / y) :: st) M) : Go p l e R s m args below meth c w nL k n Qf o pc L (.int y :: .int x :: st) M :=
  fun r hr H locs ls hP hS hl => lv_idiv g.1 g.2.1 d hy (kk r hr H locs ls hP hS hl)
theorem G_irem (g : Gd p s m args meth c w nL cc own) {pc : Nat} {L : List (Nat × Value)} {st : List Value} {M : Mem} {o : Option ρ} {x y : Int32} (d : decode cc pc = .ok (.irem, 1)) (kk : Go p l e R s m args below meth c w nL k n Qf o (pc + 1) L (.int (irm x y) :: st) M) : Go p l e R s m args below meth c w nL k n Qf (grd (nzB y) o) pc L (.int y :: .int x :: st) M := by
  intro r hr H locs ls hP hS hl
  obtain ⟨h, hr⟩ := grd_some hr
  exact lv_irem g.1 g.2.1 d (nzB_of h) (kk r hr H locs ls hP hS hl)
theorem G_iremK (g : Gd p s m args meth c w nL cc own) {pc : Nat} {L : List (Nat × Value)} {st : List Value} {M : Mem} {o : Option ρ} {x y : Int32} (hy : ¬ y = 0) (d : decode cc pc = .ok (.irem, 1)) (kk : Go p l e R s m args below meth c w nL k n Qf o (pc + 1) L (.int (irm x y) :: st) M) : Go p l e R s m args below meth c w nL k n Qf o pc L (.int y :: .int x :: st) M :=
  fun r hr H locs ls hP hS hl => lv_irem g.1 g.2.1 d hy (kk r hr H locs ls hP hS hl)
theorem G_fdiv (g : Gd p s m args meth c w nL cc own) {pc : Nat} {L : List (Nat × Value)} {st : List Value} {M : Mem} {o : Option ρ} {x y : UInt32} (d : decode cc pc = .ok (.fdiv, 1)) (kk : Go p l e R s m args below meth c w nL k n Qf o (pc + 1) L (.float (FP.fdiv x y) :: st) M) : Go p l e R s m args below meth c w nL k n Qf (grd (nn32 (FP.fdiv x y)) o) pc L (.float y :: .float x :: st) M := by
  intro r hr H locs ls hP hS hl
  obtain ⟨h, hr⟩ := grd_some hr
  exact lv_fdiv g.1 g.2.1 d (nn32_of h) (kk r hr H locs ls hP hS hl)
theorem G_ddiv (g : Gd p s m args meth c w nL cc own) {pc : Nat} {L : List (Nat × Value)} {st : List Value} {M : Mem} {o : Option ρ} {x y : UInt64} (d : decode cc pc = .ok (.ddiv, 1)) (kk : Go p l e R s m args below meth c w nL k n Qf o (pc + 1) L (.double (FP.ddiv x y) :: st) M) : Go p l e R s m args below meth c w nL k n Qf (grd (nn64 (FP.ddiv x y)) o) pc L (.double y :: .double x :: st) M := by
  intro r hr H locs ls hP hS hl
  obtain ⟨h, hr⟩ := grd_some hr
  exact lv_ddiv g.1 g.2.1 d (nn64_of h) (kk r hr H locs ls hP hS hl)
theorem G_iconst (g : Gd p s m args meth c w nL cc own) {pc : Nat} {L : List (Nat × Value)} {st : List Value} {M : Mem} {o : Option ρ} {z : Int} (v : Int32) (d : decode cc pc = .ok (.iconst z, 1)) (hv : Int32.ofInt z = v) (kk : Go p l e R s m args below meth c w nL k n Qf o (pc + 1) L (.int v :: st) M) : Go p l e R s m args below meth c w nL k n Qf o pc L st M :=
  fun r hr H locs ls hP hS hl => lv_iconst g.1 g.2.1 d hv (kk r hr H locs ls hP hS hl)
theorem G_bipush (g : Gd p s m args meth c w nL cc own) {pc : Nat} {L : List (Nat × Value)} {st : List Value} {M : Mem} {o : Option ρ} {z : Int} (v : Int32) (d : decode cc pc = .ok (.bipush z, 2)) (hv : (Int8.ofInt z).toInt32 = v) (kk : Go p l e R s m args below meth c w nL k n Qf o (pc + 2) L (.int v :: st) M) : Go p l e R s m args below meth c w nL k n Qf o pc L st M :=
  fun r hr H locs ls hP hS hl => lv_bipush g.1 g.2.1 d hv (kk r hr H locs ls hP hS hl)
theorem G_sipush (g : Gd p s m args meth c w nL cc own) {pc : Nat} {L : List (Nat × Value)} {st : List Value} {M : Mem} {o : Option ρ} {z : Int} (v : Int32) (d : decode cc pc = .ok (.sipush z, 3)) (hv : (Int16.ofInt z).toInt32 = v) (kk : Go p l e R s m args below meth c w nL k n Qf o (pc + 3) L (.int v :: st) M) : Go p l e R s m args below meth c w nL k n Qf o pc L st M :=
  fun r hr H locs ls hP hS hl => lv_sipush g.1 g.2.1 d hv (kk r hr H locs ls hP hS hl)
theorem G_iload_n (g : Gd p s m args meth c w nL cc own) {pc : Nat} {L : List (Nat × Value)} {st : List Value} {M : Mem} {o : Option ρ} {f : Fin 4} {i : Nat} {x : Int32} (j : Nat) (d : decode cc pc = .ok (.iload_n f, 1)) (hi : (f : Nat) = i) (hj : L[j]? = some (i, .int x)) (kk : Go p l e R s m args below meth c w nL k n Qf o (pc + 1) L (.int x :: st) M) : Go p l e R s m args below meth c w nL k n Qf o pc L st M :=
  fun r hr H locs ls hP hS hl => lv_iload_n g.1 g.2.1 d hi (lv_at hl j hj) (kk r hr H locs ls hP hS hl)
theorem G_iload (g : Gd p s m args meth c w nL cc own) {pc : Nat} {L : List (Nat × Value)} {st : List Value} {M : Mem} {o : Option ρ} {i : Nat} {x : Int32} (j : Nat) (d : decode cc pc = .ok (.iload i, 2)) (hj : L[j]? = some (i, .int x)) (kk : Go p l e R s m args below meth c w nL k n Qf o (pc + 2) L (.int x :: st) M) : Go p l e R s m args below meth c w nL k n Qf o pc L st M :=
  fun r hr H locs ls hP hS hl => lv_iload g.1 g.2.1 d (lv_at hl j hj) (kk r hr H locs ls hP hS hl)
theorem G_aload_n (g : Gd p s m args meth c w nL cc own) {pc : Nat} {L : List (Nat × Value)} {st : List Value} {M : Mem} {o : Option ρ} {f : Fin 4} {i : Nat} {x : Nat} (j : Nat) (d : decode cc pc = .ok (.aload_n f, 1)) (hi : (f : Nat) = i) (hj : L[j]? = some (i, .ref x)) (kk : Go p l e R s m args below meth c w nL k n Qf o (pc + 1) L (.ref x :: st) M) : Go p l e R s m args below meth c w nL k n Qf o pc L st M :=
  fun r hr H locs ls hP hS hl => lv_aload_n g.1 g.2.1 d hi (lv_at hl j hj) (kk r hr H locs ls hP hS hl)
theorem G_aload (g : Gd p s m args meth c w nL cc own) {pc : Nat} {L : List (Nat × Value)} {st : List Value} {M : Mem} {o : Option ρ} {i : Nat} {x : Nat} (j : Nat) (d : decode cc pc = .ok (.aload i, 2)) (hj : L[j]? = some (i, .ref x)) (kk : Go p l e R s m args below meth c w nL k n Qf o (pc + 2) L (.ref x :: st) M) : Go p l e R s m args below meth c w nL k n Qf o pc L st M :=
  fun r hr H locs ls hP hS hl => lv_aload g.1 g.2.1 d (lv_at hl j hj) (kk r hr H locs ls hP hS hl)
theorem G_dload_n (g : Gd p s m args meth c w nL cc own) {pc : Nat} {L : List (Nat × Value)} {st : List Value} {M : Mem} {o : Option ρ} {f : Fin 4} {i : Nat} {x : UInt64} (j : Nat) (d : decode cc pc = .ok (.dload_n f, 1)) (hi : (f : Nat) = i) (hj : L[j]? = some (i, .double x)) (kk : Go p l e R s m args below meth c w nL k n Qf o (pc + 1) L (.double x :: st) M) : Go p l e R s m args below meth c w nL k n Qf o pc L st M :=
  fun r hr H locs ls hP hS hl => lv_dload_n g.1 g.2.1 d hi (lv_at hl j hj) (kk r hr H locs ls hP hS hl)
theorem G_dload (g : Gd p s m args meth c w nL cc own) {pc : Nat} {L : List (Nat × Value)} {st : List Value} {M : Mem} {o : Option ρ} {i : Nat} {x : UInt64} (j : Nat) (d : decode cc pc = .ok (.dload i, 2)) (hj : L[j]? = some (i, .double x)) (kk : Go p l e R s m args below meth c w nL k n Qf o (pc + 2) L (.double x :: st) M) : Go p l e R s m args below meth c w nL k n Qf o pc L st M :=
  fun r hr H locs ls hP hS hl => lv_dload g.1 g.2.1 d (lv_at hl j hj) (kk r hr H locs ls hP hS hl)
theorem G_aload_nN (g : Gd p s m args meth c w nL cc own) {pc : Nat} {L : List (Nat × Value)} {st : List Value} {M : Mem} {o : Option ρ} {f : Fin 4} {i : Nat} (j : Nat) (d : decode cc pc = .ok (.aload_n f, 1)) (hi : (f : Nat) = i) (hj : L[j]? = some (i, .null)) (kk : Go p l e R s m args below meth c w nL k n Qf o (pc + 1) L (.null :: st) M) : Go p l e R s m args below meth c w nL k n Qf o pc L st M :=
  fun r hr H locs ls hP hS hl => lv_aload_nN g.1 g.2.1 d hi (lv_at hl j hj) (kk r hr H locs ls hP hS hl)
theorem G_istore_n (g : Gd p s m args meth c w nL cc own) {pc : Nat} {L : List (Nat × Value)} {st : List Value} {M : Mem} {o : Option ρ} {f : Fin 4} {i : Nat} {x : Int32} (L2 : List (Nat × Value)) (d : decode cc pc = .ok (.istore_n f, 1)) (hi : (f : Nat) = i) (hn : i < nL) (hL : (i, Value.int x) :: L.filter (fun q => !(q.1 == i) && !(q.1 + 1 == i && q.2.category == 2)) = L2) (kk : Go p l e R s m args below meth c w nL k n Qf o (pc + 1) L2 st M) : Go p l e R s m args below meth c w nL k n Qf o pc L (Value.int x :: st) M :=
  fun r hr H locs ls hP hS hl => lv_istore_n g.1 g.2.1 d hi hl hn hL (fun ls hl => kk r hr H locs ls hP hS hl)
theorem G_istore (g : Gd p s m args meth c w nL cc own) {pc : Nat} {L : List (Nat × Value)} {st : List Value} {M : Mem} {o : Option ρ} {i : Nat} {x : Int32} (L2 : List (Nat × Value)) (d : decode cc pc = .ok (.istore i, 2)) (hn : i < nL) (hL : (i, Value.int x) :: L.filter (fun q => !(q.1 == i) && !(q.1 + 1 == i && q.2.category == 2)) = L2) (kk : Go p l e R s m args below meth c w nL k n Qf o (pc + 2) L2 st M) : Go p l e R s m args below meth c w nL k n Qf o pc L (Value.int x :: st) M :=
  fun r hr H locs ls hP hS hl => lv_istore g.1 g.2.1 d hl hn hL (fun ls hl => kk r hr H locs ls hP hS hl)
theorem G_astore_n (g : Gd p s m args meth c w nL cc own) {pc : Nat} {L : List (Nat × Value)} {st : List Value} {M : Mem} {o : Option ρ} {f : Fin 4} {i : Nat} {x : Nat} (L2 : List (Nat × Value)) (d : decode cc pc = .ok (.astore_n f, 1)) (hi : (f : Nat) = i) (hn : i < nL) (hL : (i, Value.ref x) :: L.filter (fun q => !(q.1 == i) && !(q.1 + 1 == i && q.2.category == 2)) = L2) (kk : Go p l e R s m args below meth c w nL k n Qf o (pc + 1) L2 st M) : Go p l e R s m args below meth c w nL k n Qf o pc L (Value.ref x :: st) M :=
  fun r hr H locs ls hP hS hl => lv_astore_n g.1 g.2.1 d hi hl hn hL (fun ls hl => kk r hr H locs ls hP hS hl)
theorem G_astore (g : Gd p s m args meth c w nL cc own) {pc : Nat} {L : List (Nat × Value)} {st : List Value} {M : Mem} {o : Option ρ} {i : Nat} {x : Nat} (L2 : List (Nat × Value)) (d : decode cc pc = .ok (.astore i, 2)) (hn : i < nL) (hL : (i, Value.ref x) :: L.filter (fun q => !(q.1 == i) && !(q.1 + 1 == i && q.2.category == 2)) = L2) (kk : Go p l e R s m args below meth c w nL k n Qf o (pc + 2) L2 st M) : Go p l e R s m args below meth c w nL k n Qf o pc L (Value.ref x :: st) M :=
  fun r hr H locs ls hP hS hl => lv_astore g.1 g.2.1 d hl hn hL (fun ls hl => kk r hr H locs ls hP hS hl)
theorem G_astore_nN (g : Gd p s m args meth c w nL cc own) {pc : Nat} {L : List (Nat × Value)} {st : List Value} {M : Mem} {o : Option ρ} {f : Fin 4} {i : Nat} (L2 : List (Nat × Value)) (d : decode cc pc = .ok (.astore_n f, 1)) (hi : (f : Nat) = i) (hn : i < nL) (hL : (i, Value.null) :: L.filter (fun q => !(q.1 == i) && !(q.1 + 1 == i && q.2.category == 2)) = L2) (kk : Go p l e R s m args below meth c w nL k n Qf o (pc + 1) L2 st M) : Go p l e R s m args below meth c w nL k n Qf o pc L (.null :: st) M :=
  fun r hr H locs ls hP hS hl => lv_astore_nN g.1 g.2.1 d hi hl hn hL (fun ls hl => kk r hr H locs ls hP hS hl)
theorem G_null (g : Gd p s m args meth c w nL cc own) {pc : Nat} {L : List (Nat × Value)} {st : List Value} {M : Mem} {o : Option ρ} (d : decode cc pc = .ok (.aconst_null, 1)) (kk : Go p l e R s m args below meth c w nL k n Qf o (pc + 1) L (.null :: st) M) : Go p l e R s m args below meth c w nL k n Qf o pc L st M :=
  fun r hr H locs ls hP hS hl => lv_null g.1 g.2.1 d (kk r hr H locs ls hP hS hl)
theorem G_iinc (g : Gd p s m args meth c w nL cc own) {pc : Nat} {L : List (Nat × Value)} {st : List Value} {M : Mem} {o : Option ρ} {i : Nat} {z : Int} {x : Int32} (v : Int32) (L2 : List (Nat × Value)) (j : Nat) (d : decode cc pc = .ok (.iinc i z, 3)) (hj : L[j]? = some (i, .int x)) (hv : x + Int32.ofInt z = v) (hn : i < nL) (hL : (i, Value.int v) :: L.filter (fun q => !(q.1 == i) && !(q.1 + 1 == i && q.2.category == 2)) = L2) (kk : Go p l e R s m args below meth c w nL k n Qf o (pc + 3) L2 st M) : Go p l e R s m args below meth c w nL k n Qf o pc L st M :=
  fun r hr H locs ls hP hS hl => lv_iinc g.1 g.2.1 d hl hj hv hn hL (fun ls hl => kk r hr H locs ls hP hS hl)
theorem G_dup (g : Gd p s m args meth c w nL cc own) {pc : Nat} {L : List (Nat × Value)} {st : List Value} {M : Mem} {o : Option ρ} {va : Value} (d : decode cc pc = .ok (.dup, 1)) (hc : va.category = 1) (kk : Go p l e R s m args below meth c w nL k n Qf o (pc + 1) L (va :: va :: st) M) : Go p l e R s m args below meth c w nL k n Qf o pc L (va :: st) M :=
  fun r hr H locs ls hP hS hl => lv_dup g.1 g.2.1 d hc (kk r hr H locs ls hP hS hl)
theorem G_dup2 (g : Gd p s m args meth c w nL cc own) {pc : Nat} {L : List (Nat × Value)} {st : List Value} {M : Mem} {o : Option ρ} {va vb : Value} (d : decode cc pc = .ok (.dup2, 1)) (ha : va.category = 1) (hb : vb.category = 1) (kk : Go p l e R s m args below meth c w nL k n Qf o (pc + 1) L (va :: vb :: va :: vb :: st) M) : Go p l e R s m args below meth c w nL k n Qf o pc L (va :: vb :: st) M :=
  fun r hr H locs ls hP hS hl => lv_dup2_11 g.1 g.2.1 d ha hb (kk r hr H locs ls hP hS hl)
theorem G_pop (g : Gd p s m args meth c w nL cc own) {pc : Nat} {L : List (Nat × Value)} {st : List Value} {M : Mem} {o : Option ρ} {va : Value} (d : decode cc pc = .ok (.pop, 1)) (hc : va.category = 1) (kk : Go p l e R s m args below meth c w nL k n Qf o (pc + 1) L st M) : Go p l e R s m args below meth c w nL k n Qf o pc L (va :: st) M :=
  fun r hr H locs ls hP hS hl => lv_pop g.1 g.2.1 d hc (kk r hr H locs ls hP hS hl)
theorem G_goto (g : Gd p s m args meth c w nL cc own) {pc : Nat} {L : List (Nat × Value)} {st : List Value} {M : Mem} {o : Option ρ} {off : Int} (tgt : Nat) (d : decode cc pc = .ok (.goto off, 3)) (ht : (pc : Int) + off = (tgt : Int)) (kk : Go p l e R s m args below meth c w nL k n Qf o tgt L st M) : Go p l e R s m args below meth c w nL k n Qf o pc L st M :=
  fun r hr H locs ls hP hS hl => lv_goto g.1 g.2.1 d ht (kk r hr H locs ls hP hS hl)
theorem G_if_eq (g : Gd p s m args meth c w nL cc own) {pc : Nat} {L : List (Nat × Value)} {st : List Value} {M : Mem} {o1 o2 : Option ρ} {x : Int32} {off : Int} (tgt : Nat) (d : decode cc pc = .ok (.ifCond .eq off, 3)) (ht : (pc : Int) + off = (tgt : Int)) (k1 : Go p l e R s m args below meth c w nL k n Qf o1 tgt L st M) (k2 : Go p l e R s m args below meth c w nL k n Qf o2 (pc + 3) L st M) : Go p l e R s m args below meth c w nL k n Qf (if x = 0 then o1 else o2) pc L (.int x :: st) M := by
  intro r hr H locs ls hP hS hl
  refine lv_if_eq g.1 g.2.1 d ht (fun h => ?_) (fun h => ?_)
  · rw [if_pos h] at hr; exact k1 r hr H locs ls hP hS hl
  · rw [if_neg h] at hr; exact k2 r hr H locs ls hP hS hl
theorem G_if_ne (g : Gd p s m args meth c w nL cc own) {pc : Nat} {L : List (Nat × Value)} {st : List Value} {M : Mem} {o1 o2 : Option ρ} {x : Int32} {off : Int} (tgt : Nat) (d : decode cc pc = .ok (.ifCond .ne off, 3)) (ht : (pc : Int) + off = (tgt : Int)) (k1 : Go p l e R s m args below meth c w nL k n Qf o1 (pc + 3) L st M) (k2 : Go p l e R s m args below meth c w nL k n Qf o2 tgt L st M) : Go p l e R s m args below meth c w nL k n Qf (if x = 0 then o1 else o2) pc L (.int x :: st) M := by
  intro r hr H locs ls hP hS hl
  refine lv_if_ne g.1 g.2.1 d ht (fun h => ?_) (fun h => ?_)
  · rw [if_neg h] at hr; exact k2 r hr H locs ls hP hS hl
  · rw [if_pos h] at hr; exact k1 r hr H locs ls hP hS hl
theorem G_if_lt (g : Gd p s m args meth c w nL cc own) {pc : Nat} {L : List (Nat × Value)} {st : List Value} {M : Mem} {o1 o2 : Option ρ} {x : Int32} {off : Int} (tgt : Nat) (d : decode cc pc = .ok (.ifCond .lt off, 3)) (ht : (pc : Int) + off = (tgt : Int)) (k1 : Go p l e R s m args below meth c w nL k n Qf o1 tgt L st M) (k2 : Go p l e R s m args below meth c w nL k n Qf o2 (pc + 3) L st M) : Go p l e R s m args below meth c w nL k n Qf (if x < 0 then o1 else o2) pc L (.int x :: st) M := by
  intro r hr H locs ls hP hS hl
  refine lv_if_lt g.1 g.2.1 d ht (fun h => ?_) (fun h => ?_)
  · rw [if_pos h] at hr; exact k1 r hr H locs ls hP hS hl
  · rw [if_neg h] at hr; exact k2 r hr H locs ls hP hS hl
theorem G_if_ge (g : Gd p s m args meth c w nL cc own) {pc : Nat} {L : List (Nat × Value)} {st : List Value} {M : Mem} {o1 o2 : Option ρ} {x : Int32} {off : Int} (tgt : Nat) (d : decode cc pc = .ok (.ifCond .ge off, 3)) (ht : (pc : Int) + off = (tgt : Int)) (k1 : Go p l e R s m args below meth c w nL k n Qf o1 (pc + 3) L st M) (k2 : Go p l e R s m args below meth c w nL k n Qf o2 tgt L st M) : Go p l e R s m args below meth c w nL k n Qf (if x < 0 then o1 else o2) pc L (.int x :: st) M := by
  intro r hr H locs ls hP hS hl
  refine lv_if_ge g.1 g.2.1 d ht (fun h => ?_) (fun h => ?_)
  · rw [if_neg (Int32.not_lt.mpr h)] at hr; exact k2 r hr H locs ls hP hS hl
  · rw [if_pos (Int32.not_le.mp h)] at hr; exact k1 r hr H locs ls hP hS hl
theorem G_if_gt (g : Gd p s m args meth c w nL cc own) {pc : Nat} {L : List (Nat × Value)} {st : List Value} {M : Mem} {o1 o2 : Option ρ} {x : Int32} {off : Int} (tgt : Nat) (d : decode cc pc = .ok (.ifCond .gt off, 3)) (ht : (pc : Int) + off = (tgt : Int)) (k1 : Go p l e R s m args below meth c w nL k n Qf o1 (pc + 3) L st M) (k2 : Go p l e R s m args below meth c w nL k n Qf o2 tgt L st M) : Go p l e R s m args below meth c w nL k n Qf (if x ≤ 0 then o1 else o2) pc L (.int x :: st) M := by
  intro r hr H locs ls hP hS hl
  refine lv_if_gt g.1 g.2.1 d ht (fun h => ?_) (fun h => ?_)
  · rw [if_neg (Int32.not_le.mpr h)] at hr; exact k2 r hr H locs ls hP hS hl
  · rw [if_pos (Int32.not_lt.mp h)] at hr; exact k1 r hr H locs ls hP hS hl
theorem G_if_le (g : Gd p s m args meth c w nL cc own) {pc : Nat} {L : List (Nat × Value)} {st : List Value} {M : Mem} {o1 o2 : Option ρ} {x : Int32} {off : Int} (tgt : Nat) (d : decode cc pc = .ok (.ifCond .le off, 3)) (ht : (pc : Int) + off = (tgt : Int)) (k1 : Go p l e R s m args below meth c w nL k n Qf o1 (pc + 3) L st M) (k2 : Go p l e R s m args below meth c w nL k n Qf o2 tgt L st M) : Go p l e R s m args below meth c w nL k n Qf (if 0 < x then o1 else o2) pc L (.int x :: st) M := by
  intro r hr H locs ls hP hS hl
  refine lv_if_le g.1 g.2.1 d ht (fun h => ?_) (fun h => ?_)
  · rw [if_neg (Int32.not_lt.mpr h)] at hr; exact k2 r hr H locs ls hP hS hl
  · rw [if_pos (Int32.not_le.mp h)] at hr; exact k1 r hr H locs ls hP hS hl
theorem G_icmp_eq (g : Gd p s m args meth c w nL cc own) {pc : Nat} {L : List (Nat × Value)} {st : List Value} {M : Mem} {o1 o2 : Option ρ} {x y : Int32} {off : Int} (tgt : Nat) (d : decode cc pc = .ok (.if_icmp .eq off, 3)) (ht : (pc : Int) + off = (tgt : Int)) (k1 : Go p l e R s m args below meth c w nL k n Qf o1 tgt L st M) (k2 : Go p l e R s m args below meth c w nL k n Qf o2 (pc + 3) L st M) : Go p l e R s m args below meth c w nL k n Qf (if x = y then o1 else o2) pc L (.int y :: .int x :: st) M := by
  intro r hr H locs ls hP hS hl
  refine lv_icmp_eq g.1 g.2.1 d ht (fun h => ?_) (fun h => ?_)
  · rw [if_pos h] at hr; exact k1 r hr H locs ls hP hS hl
  · rw [if_neg h] at hr; exact k2 r hr H locs ls hP hS hl
theorem G_icmp_ne (g : Gd p s m args meth c w nL cc own) {pc : Nat} {L : List (Nat × Value)} {st : List Value} {M : Mem} {o1 o2 : Option ρ} {x y : Int32} {off : Int} (tgt : Nat) (d : decode cc pc = .ok (.if_icmp .ne off, 3)) (ht : (pc : Int) + off = (tgt : Int)) (k1 : Go p l e R s m args below meth c w nL k n Qf o1 (pc + 3) L st M) (k2 : Go p l e R s m args below meth c w nL k n Qf o2 tgt L st M) : Go p l e R s m args below meth c w nL k n Qf (if x = y then o1 else o2) pc L (.int y :: .int x :: st) M := by
  intro r hr H locs ls hP hS hl
  refine lv_icmp_ne g.1 g.2.1 d ht (fun h => ?_) (fun h => ?_)
  · rw [if_neg h] at hr; exact k2 r hr H locs ls hP hS hl
  · rw [if_pos h] at hr; exact k1 r hr H locs ls hP hS hl
theorem G_icmp_lt (g : Gd p s m args meth c w nL cc own) {pc : Nat} {L : List (Nat × Value)} {st : List Value} {M : Mem} {o1 o2 : Option ρ} {x y : Int32} {off : Int} (tgt : Nat) (d : decode cc pc = .ok (.if_icmp .lt off, 3)) (ht : (pc : Int) + off = (tgt : Int)) (k1 : Go p l e R s m args below meth c w nL k n Qf o1 tgt L st M) (k2 : Go p l e R s m args below meth c w nL k n Qf o2 (pc + 3) L st M) : Go p l e R s m args below meth c w nL k n Qf (if x < y then o1 else o2) pc L (.int y :: .int x :: st) M := by
  intro r hr H locs ls hP hS hl
  refine lv_icmp_lt g.1 g.2.1 d ht (fun h => ?_) (fun h => ?_)
  · rw [if_pos h] at hr; exact k1 r hr H locs ls hP hS hl
  · rw [if_neg h] at hr; exact k2 r hr H locs ls hP hS hl
theorem G_icmp_ge (g : Gd p s m args meth c w nL cc own) {pc : Nat} {L : List (Nat × Value)} {st : List Value} {M : Mem} {o1 o2 : Option ρ} {x y : Int32} {off : Int} (tgt : Nat) (d : decode cc pc = .ok (.if_icmp .ge off, 3)) (ht : (pc : Int) + off = (tgt : Int)) (k1 : Go p l e R s m args below meth c w nL k n Qf o1 (pc + 3) L st M) (k2 : Go p l e R s m args below meth c w nL k n Qf o2 tgt L st M) : Go p l e R s m args below meth c w nL k n Qf (if x < y then o1 else o2) pc L (.int y :: .int x :: st) M := by
  intro r hr H locs ls hP hS hl
  refine lv_icmp_ge g.1 g.2.1 d ht (fun h => ?_) (fun h => ?_)
  · rw [if_neg (Int32.not_lt.mpr h)] at hr; exact k2 r hr H locs ls hP hS hl
  · rw [if_pos (Int32.not_le.mp h)] at hr; exact k1 r hr H locs ls hP hS hl
theorem G_icmp_gt (g : Gd p s m args meth c w nL cc own) {pc : Nat} {L : List (Nat × Value)} {st : List Value} {M : Mem} {o1 o2 : Option ρ} {x y : Int32} {off : Int} (tgt : Nat) (d : decode cc pc = .ok (.if_icmp .gt off, 3)) (ht : (pc : Int) + off = (tgt : Int)) (k1 : Go p l e R s m args below meth c w nL k n Qf o1 (pc + 3) L st M) (k2 : Go p l e R s m args below meth c w nL k n Qf o2 tgt L st M) : Go p l e R s m args below meth c w nL k n Qf (if x ≤ y then o1 else o2) pc L (.int y :: .int x :: st) M := by
  intro r hr H locs ls hP hS hl
  refine lv_icmp_gt g.1 g.2.1 d ht (fun h => ?_) (fun h => ?_)
  · rw [if_neg (Int32.not_le.mpr h)] at hr; exact k2 r hr H locs ls hP hS hl
  · rw [if_pos (Int32.not_lt.mp h)] at hr; exact k1 r hr H locs ls hP hS hl
theorem G_icmp_le (g : Gd p s m args meth c w nL cc own) {pc : Nat} {L : List (Nat × Value)} {st : List Value} {M : Mem} {o1 o2 : Option ρ} {x y : Int32} {off : Int} (tgt : Nat) (d : decode cc pc = .ok (.if_icmp .le off, 3)) (ht : (pc : Int) + off = (tgt : Int)) (k1 : Go p l e R s m args below meth c w nL k n Qf o1 (pc + 3) L st M) (k2 : Go p l e R s m args below meth c w nL k n Qf o2 tgt L st M) : Go p l e R s m args below meth c w nL k n Qf (if y < x then o1 else o2) pc L (.int y :: .int x :: st) M := by
  intro r hr H locs ls hP hS hl
  refine lv_icmp_le g.1 g.2.1 d ht (fun h => ?_) (fun h => ?_)
  · rw [if_neg (Int32.not_lt.mpr h)] at hr; exact k2 r hr H locs ls hP hS hl
  · rw [if_pos (Int32.not_le.mp h)] at hr; exact k1 r hr H locs ls hP hS hl
theorem b2i_0 {b : Bool} : b2i b = 0 ↔ ¬ b = true := by cases b <;> decide
theorem G_if_eqB (g : Gd p s m args meth c w nL cc own) {pc : Nat} {L : List (Nat × Value)} {st : List Value} {M : Mem} {o1 o2 : Option ρ} {b : Bool} {off : Int} (tgt : Nat) (d : decode cc pc = .ok (.ifCond .eq off, 3)) (ht : (pc : Int) + off = (tgt : Int)) (k1 : Go p l e R s m args below meth c w nL k n Qf o1 (pc + 3) L st M) (k2 : Go p l e R s m args below meth c w nL k n Qf o2 tgt L st M) : Go p l e R s m args below meth c w nL k n Qf (if b = true then o1 else o2) pc L (.int (b2i b) :: st) M := by
  intro r hr H locs ls hP hS hl
  refine lv_if_eq g.1 g.2.1 d ht (fun h => ?_) (fun h => ?_)
  · rw [if_neg (b2i_0.mp h)] at hr; exact k2 r hr H locs ls hP hS hl
  · rw [if_pos (by by_cases hb : b = true; exact hb; exact absurd (b2i_0.mpr hb) h)] at hr; exact k1 r hr H locs ls hP hS hl
theorem G_if_neB (g : Gd p s m args meth c w nL cc own) {pc : Nat} {L : List (Nat × Value)} {st : List Value} {M : Mem} {o1 o2 : Option ρ} {b : Bool} {off : Int} (tgt : Nat) (d : decode cc pc = .ok (.ifCond .ne off, 3)) (ht : (pc : Int) + off = (tgt : Int)) (k1 : Go p l e R s m args below meth c w nL k n Qf o1 tgt L st M) (k2 : Go p l e R s m args below meth c w nL k n Qf o2 (pc + 3) L st M) : Go p l e R s m args below meth c w nL k n Qf (if b = true then o1 else o2) pc L (.int (b2i b) :: st) M := by
  intro r hr H locs ls hP hS hl
  refine lv_if_ne g.1 g.2.1 d ht (fun h => ?_) (fun h => ?_)
  · rw [if_pos (by by_cases hb : b = true; exact hb; exact absurd (b2i_0.mpr hb) h)] at hr; exact k1 r hr H locs ls hP hS hl
  · rw [if_neg (b2i_0.mp h)] at hr; exact k2 r hr H locs ls hP hS hl
theorem G_ifT_eq (g : Gd p s m args meth c w nL cc own) {pc : Nat} {L : List (Nat × Value)} {st : List Value} {M : Mem} {o : Option ρ} {x : Int32} {off : Int} (tgt : Nat) (hc : x = 0) (d : decode cc pc = .ok (.ifCond .eq off, 3)) (ht : (pc : Int) + off = (tgt : Int)) (kk : Go p l e R s m args below meth c w nL k n Qf o tgt L st M) : Go p l e R s m args below meth c w nL k n Qf o pc L (.int x :: st) M :=
  fun r hr H locs ls hP hS hl => lv_if_eq g.1 g.2.1 d ht (fun _ => kk r hr H locs ls hP hS hl) (fun h => absurd hc h)
theorem G_ifF_eq (g : Gd p s m args meth c w nL cc own) {pc : Nat} {L : List (Nat × Value)} {st : List Value} {M : Mem} {o : Option ρ} {x : Int32} {off : Int} (tgt : Nat) (hc : ¬ x = 0) (d : decode cc pc = .ok (.ifCond .eq off, 3)) (ht : (pc : Int) + off = (tgt : Int)) (kk : Go p l e R s m args below meth c w nL k n Qf o (pc + 3) L st M) : Go p l e R s m args below meth c w nL k n Qf o pc L (.int x :: st) M :=
  fun r hr H locs ls hP hS hl => lv_if_eq g.1 g.2.1 d ht (fun h => absurd h hc) (fun _ => kk r hr H locs ls hP hS hl)
theorem G_ifT_ne (g : Gd p s m args meth c w nL cc own) {pc : Nat} {L : List (Nat × Value)} {st : List Value} {M : Mem} {o : Option ρ} {x : Int32} {off : Int} (tgt : Nat) (hc : ¬ x = 0) (d : decode cc pc = .ok (.ifCond .ne off, 3)) (ht : (pc : Int) + off = (tgt : Int)) (kk : Go p l e R s m args below meth c w nL k n Qf o tgt L st M) : Go p l e R s m args below meth c w nL k n Qf o pc L (.int x :: st) M :=
  fun r hr H locs ls hP hS hl => lv_if_ne g.1 g.2.1 d ht (fun _ => kk r hr H locs ls hP hS hl) (fun h => absurd h hc)
theorem G_ifF_ne (g : Gd p s m args meth c w nL cc own) {pc : Nat} {L : List (Nat × Value)} {st : List Value} {M : Mem} {o : Option ρ} {x : Int32} {off : Int} (tgt : Nat) (hc : x = 0) (d : decode cc pc = .ok (.ifCond .ne off, 3)) (ht : (pc : Int) + off = (tgt : Int)) (kk : Go p l e R s m args below meth c w nL k n Qf o (pc + 3) L st M) : Go p l e R s m args below meth c w nL k n Qf o pc L (.int x :: st) M :=
  fun r hr H locs ls hP hS hl => lv_if_ne g.1 g.2.1 d ht (fun h => absurd hc h) (fun _ => kk r hr H locs ls hP hS hl)
theorem G_ifT_lt (g : Gd p s m args meth c w nL cc own) {pc : Nat} {L : List (Nat × Value)} {st : List Value} {M : Mem} {o : Option ρ} {x : Int32} {off : Int} (tgt : Nat) (hc : x < 0) (d : decode cc pc = .ok (.ifCond .lt off, 3)) (ht : (pc : Int) + off = (tgt : Int)) (kk : Go p l e R s m args below meth c w nL k n Qf o tgt L st M) : Go p l e R s m args below meth c w nL k n Qf o pc L (.int x :: st) M :=
  fun r hr H locs ls hP hS hl => lv_if_lt g.1 g.2.1 d ht (fun _ => kk r hr H locs ls hP hS hl) (fun h => absurd hc h)
theorem G_ifF_lt (g : Gd p s m args meth c w nL cc own) {pc : Nat} {L : List (Nat × Value)} {st : List Value} {M : Mem} {o : Option ρ} {x : Int32} {off : Int} (tgt : Nat) (hc : ¬ x < 0) (d : decode cc pc = .ok (.ifCond .lt off, 3)) (ht : (pc : Int) + off = (tgt : Int)) (kk : Go p l e R s m args below meth c w nL k n Qf o (pc + 3) L st M) : Go p l e R s m args below meth c w nL k n Qf o pc L (.int x :: st) M :=
  fun r hr H locs ls hP hS hl => lv_if_lt g.1 g.2.1 d ht (fun h => absurd h hc) (fun _ => kk r hr H locs ls hP hS hl)
theorem G_ifT_ge (g : Gd p s m args meth c w nL cc own) {pc : Nat} {L : List (Nat × Value)} {st : List Value} {M : Mem} {o : Option ρ} {x : Int32} {off : Int} (tgt : Nat) (hc : 0 ≤ x) (d : decode cc pc = .ok (.ifCond .ge off, 3)) (ht : (pc : Int) + off = (tgt : Int)) (kk : Go p l e R s m args below meth c w nL k n Qf o tgt L st M) : Go p l e R s m args below meth c w nL k n Qf o pc L (.int x :: st) M :=
  fun r hr H locs ls hP hS hl => lv_if_ge g.1 g.2.1 d ht (fun _ => kk r hr H locs ls hP hS hl) (fun h => absurd hc h)
theorem G_ifF_ge (g : Gd p s m args meth c w nL cc own) {pc : Nat} {L : List (Nat × Value)} {st : List Value} {M : Mem} {o : Option ρ} {x : Int32} {off : Int} (tgt : Nat) (hc : ¬ 0 ≤ x) (d : decode cc pc = .ok (.ifCond .ge off, 3)) (ht : (pc : Int) + off = (tgt : Int)) (kk : Go p l e R s m args below meth c w nL k n Qf o (pc + 3) L st M) : Go p l e R s m args below meth c w nL k n Qf o pc L (.int x :: st) M :=
  fun r hr H locs ls hP hS hl => lv_if_ge g.1 g.2.1 d ht (fun h => absurd h hc) (fun _ => kk r hr H locs ls hP hS hl)
theorem G_ifT_gt (g : Gd p s m args meth c w nL cc own) {pc : Nat} {L : List (Nat × Value)} {st : List Value} {M : Mem} {o : Option ρ} {x : Int32} {off : Int} (tgt : Nat) (hc : 0 < x) (d : decode cc pc = .ok (.ifCond .gt off, 3)) (ht : (pc : Int) + off = (tgt : Int)) (kk : Go p l e R s m args below meth c w nL k n Qf o tgt L st M) : Go p l e R s m args below meth c w nL k n Qf o pc L (.int x :: st) M :=
  fun r hr H locs ls hP hS hl => lv_if_gt g.1 g.2.1 d ht (fun _ => kk r hr H locs ls hP hS hl) (fun h => absurd hc h)
theorem G_ifF_gt (g : Gd p s m args meth c w nL cc own) {pc : Nat} {L : List (Nat × Value)} {st : List Value} {M : Mem} {o : Option ρ} {x : Int32} {off : Int} (tgt : Nat) (hc : ¬ 0 < x) (d : decode cc pc = .ok (.ifCond .gt off, 3)) (ht : (pc : Int) + off = (tgt : Int)) (kk : Go p l e R s m args below meth c w nL k n Qf o (pc + 3) L st M) : Go p l e R s m args below meth c w nL k n Qf o pc L (.int x :: st) M :=
  fun r hr H locs ls hP hS hl => lv_if_gt g.1 g.2.1 d ht (fun h => absurd h hc) (fun _ => kk r hr H locs ls hP hS hl)
theorem G_ifT_le (g : Gd p s m args meth c w nL cc own) {pc : Nat} {L : List (Nat × Value)} {st : List Value} {M : Mem} {o : Option ρ} {x : Int32} {off : Int} (tgt : Nat) (hc : x ≤ 0) (d : decode cc pc = .ok (.ifCond .le off, 3)) (ht : (pc : Int) + off = (tgt : Int)) (kk : Go p l e R s m args below meth c w nL k n Qf o tgt L st M) : Go p l e R s m args below meth c w nL k n Qf o pc L (.int x :: st) M :=
  fun r hr H locs ls hP hS hl => lv_if_le g.1 g.2.1 d ht (fun _ => kk r hr H locs ls hP hS hl) (fun h => absurd hc h)
theorem G_ifF_le (g : Gd p s m args meth c w nL cc own) {pc : Nat} {L : List (Nat × Value)} {st : List Value} {M : Mem} {o : Option ρ} {x : Int32} {off : Int} (tgt : Nat) (hc : ¬ x ≤ 0) (d : decode cc pc = .ok (.ifCond .le off, 3)) (ht : (pc : Int) + off = (tgt : Int)) (kk : Go p l e R s m args below meth c w nL k n Qf o (pc + 3) L st M) : Go p l e R s m args below meth c w nL k n Qf o pc L (.int x :: st) M :=
  fun r hr H locs ls hP hS hl => lv_if_le g.1 g.2.1 d ht (fun h => absurd h hc) (fun _ => kk r hr H locs ls hP hS hl)
theorem G_case {pc : Nat} {L : List (Nat × Value)} {st : List Value} {M : Mem} {o1 o2 : Option ρ} {x v : Int32} (k1 : Go p l e R s m args below meth c w nL k n Qf o1 pc L (.int v :: st) M) (k2 : ¬ x = v → Go p l e R s m args below meth c w nL k n Qf o2 pc L (.int x :: st) M) : Go p l e R s m args below meth c w nL k n Qf (if x = v then o1 else o2) pc L (.int x :: st) M := by
  intro r hr
  by_cases h : x = v
  · subst h
    rw [if_pos rfl] at hr
    exact k1 r hr
  · rw [if_neg h] at hr
    exact k2 h r hr
theorem G_tabK (g : Gd p s m args meth c w nL cc own) {pc : Nat} {L : List (Nat × Value)} {st : List Value} {M : Mem} {o : Option ρ} {dflt lo hi : Int} {offs : Array Int} {len : Nat} {x : Int32} {off : Int} (tgt : Nat) (d : decode cc pc = .ok (.tableswitch dflt lo hi offs, len)) (h1 : ¬ x.toInt < lo) (h2 : ¬ hi < x.toInt) (ho : offs[(x.toInt - lo).toNat]? = some off) (ht : (pc : Int) + off = (tgt : Int)) (kk : Go p l e R s m args below meth c w nL k n Qf o tgt L st M) : Go p l e R s m args below meth c w nL k n Qf o pc L (.int x :: st) M :=
  fun r hr H locs ls hP hS hl => lv_tableIn g.1 g.2.1 d h1 h2 ho ht (kk r hr H locs ls hP hS hl)
theorem G_tabD (g : Gd p s m args meth c w nL cc own) {pc : Nat} {L : List (Nat × Value)} {st : List Value} {M : Mem} {o : Option ρ} {dflt lo hi : Int} {offs : Array Int} {len : Nat} {x : Int32} (tgt : Nat) (d : decode cc pc = .ok (.tableswitch dflt lo hi offs, len)) (h : x.toInt < lo ∨ hi < x.toInt) (ht : (pc : Int) + dflt = (tgt : Int)) (kk : Go p l e R s m args below meth c w nL k n Qf o tgt L st M) : Go p l e R s m args below meth c w nL k n Qf o pc L (.int x :: st) M :=
  fun r hr H locs ls hP hS hl => lv_tableOut g.1 g.2.1 d h ht (kk r hr H locs ls hP hS hl)
theorem G_lkp (g : Gd p s m args meth c w nL cc own) {pc : Nat} {L : List (Nat × Value)} {st : List Value} {M : Mem} {o : Option ρ} {dflt : Int} {ps : Array (Int × Int)} {len : Nat} {x : Int32} {off : Int} (tgt : Nat) (d : decode cc pc = .ok (.lookupswitch dflt ps, len)) (hp : (ps.toList.zip (ps.toList.drop 1)).all (fun (a, next) => a.1 < next.1) = true) (ho : Op.lookupswitch.offset ps.toList dflt x.toInt = off) (ht : (pc : Int) + off = (tgt : Int)) (kk : Go p l e R s m args below meth c w nL k n Qf o tgt L st M) : Go p l e R s m args below meth c w nL k n Qf o pc L (.int x :: st) M :=
  fun r hr H locs ls hP hS hl => lv_lookup g.1 g.2.1 d hp ho ht (kk r hr H locs ls hP hS hl)
theorem G_ifnull (g : Gd p s m args meth c w nL cc own) {pc : Nat} {L : List (Nat × Value)} {st : List Value} {M : Mem} {o : Option ρ} {q : Nat} {off : Int} (d : decode cc pc = .ok (.ifnull off, 3)) (kk : Go p l e R s m args below meth c w nL k n Qf o (pc + 3) L st M) : Go p l e R s m args below meth c w nL k n Qf o pc L (.ref q :: st) M :=
  fun r hr H locs ls hP hS hl => lv_ifnull g.1 g.2.1 d (kk r hr H locs ls hP hS hl)
theorem G_ifnullN (g : Gd p s m args meth c w nL cc own) {pc : Nat} {L : List (Nat × Value)} {st : List Value} {M : Mem} {o : Option ρ} {off : Int} (tgt : Nat) (d : decode cc pc = .ok (.ifnull off, 3)) (ht : (pc : Int) + off = (tgt : Int)) (kk : Go p l e R s m args below meth c w nL k n Qf o tgt L st M) : Go p l e R s m args below meth c w nL k n Qf o pc L (.null :: st) M :=
  fun r hr H locs ls hP hS hl => lv_ifnullN g.1 g.2.1 d ht (kk r hr H locs ls hP hS hl)
theorem G_get (g : Gd p s m args meth c w nL cc own) {pc : Nat} {L : List (Nat × Value)} {st : List Value} {M : Mem} {o : Option ρ} {idx ci fk q : Nat} (fa : FA own idx ci fk 0) (hq : q ∈ wL w) (hk : (wZ w q).1 = ci) (d : decode cc pc = .ok (.getfield idx, 3)) (kk : Go p l e R s m args below meth c w nL k n Qf o (pc + 3) L (.int (M q fk) :: st) M) : Go p l e R s m args below meth c w nL k n Qf o pc L (.ref (wad w q) :: st) M := by
  intro r hr H locs ls hP hS hl
  obtain ⟨ref, C, T, N, f1, rfl, f3, f4, f5, f6, f7, f8⟩ := fa
  obtain ⟨j, -, hj⟩ := wW_get (M := M) hq
  rw [cellE_obj hk f6] at hj
  exact va_get g.1 g.2.1 g.2.2.2.2.1 f5 g.2.2.2.1 g.2.2.2.2.2.1 hP j hj f3 fk f4 (g.2.2.2.2.1 _ f1) (fun _ h9 => h9) (flds_int f7 f8) d (kk r hr H locs ls hP hS hl)
theorem G_getR (g : Gd p s m args meth c w nL cc own) {pc : Nat} {L : List (Nat × Value)} {st : List Value} {M : Mem} {o : Option ρ} {idx ci fk q q2 : Nat} (fa : FA own idx ci fk 1) (hq : q ∈ wL w) (hk : (wZ w q).1 = ci) (hz : (wZ w q).2.2 fk = some q2) (d : decode cc pc = .ok (.getfield idx, 3)) (kk : Go p l e R s m args below meth c w nL k n Qf o (pc + 3) L (.ref (wad w q2) :: st) M) : Go p l e R s m args below meth c w nL k n Qf o pc L (.ref (wad w q) :: st) M := by
  intro r hr H locs ls hP hS hl
  obtain ⟨ref, C, T, N, f1, rfl, f3, f4, f5, f6, f7, f8⟩ := fa
  obtain ⟨j, -, hj⟩ := wW_get (M := M) hq
  rw [cellE_obj hk f6] at hj
  exact va_get g.1 g.2.1 g.2.2.2.2.1 f5 g.2.2.2.1 g.2.2.2.2.2.1 hP j hj f3 fk f4 (g.2.2.2.2.1 _ f1) (fun _ h9 => h9) (flds_ref f7 f8 hz) d (kk r hr H locs ls hP hS hl)
theorem G_put (g : Gd p s m args meth c w nL cc own) {pc : Nat} {L : List (Nat × Value)} {st : List Value} {M : Mem} {o : Option ρ} {idx ci fk q : Nat} {v : Int32} {ty : FieldType} (fa : FA own idx ci fk 0) (fw : FW ci fk ty) (hn : narrow ty (.int v) = .int v) (hf : fits ty (.int v) = true) (hq : q ∈ wL w) (hk : (wZ w q).1 = ci) (d : decode cc pc = .ok (.putfield idx, 3)) (kk : Go p l e R s m args below meth c w nL k n Qf o (pc + 3) L st (put M q fk v)) : Go p l e R s m args below meth c w nL k n Qf o pc L (.int v :: .ref (wad w q) :: st) M := by
  intro r hr H locs ls hP hS hl
  obtain ⟨ref, C, T, N, f1, rfl, f3, f4, f5, f6, f7, f8⟩ := fa
  obtain ⟨C2, T2, N2, ty0, w1, w2, w3, w4, w5⟩ := fw
  cases Option.some.inj (w1.symm.trans f3)
  obtain ⟨j, hj0, hj⟩ := wW_get (M := M) hq
  rw [cellE_obj hk f6] at hj
  refine va_put g.1 g.2.1 g.2.2.2.2.1 f5 ty0 w2 w3 g.2.2.2.1 g.2.2.2.2.2.1 hP (wD_of g.2.2.2.2.2.2.2.2.1 M) hS j hj f3 fk f4 (g.2.2.2.2.1 _ f1) (fun _ h9 => h9) w4 w5 hn hf (by rw [flds_len]; exact f7) d (fun H1 locs1 hP1 _ hS1 => ?_)
  rw [wW_set g.2.2.2.2.2.2.2.2.1 hj0 (f := upd (M q) fk v) (by rw [cellE_obj hk f6, flds_put f7 f8, setR_self])] at hP1
  exact kk r hr H1 locs1 ls hP1 hS1 hl
theorem G_getN (g : Gd p s m args meth c w nL cc own) {pc : Nat} {L : List (Nat × Value)} {st : List Value} {M : Mem} {o : Option ρ} {idx ci fk q : Nat} (fa : FN own idx ci fk 0) (hq : q ∈ wL w) (hk : (wZ w q).1 = ci) (d : decode cc pc = .ok (.getfield idx, 3)) (kk : Go p l e R s m args below meth c w nL k n Qf o (pc + 3) L (.int (M q fk) :: st) M) : Go p l e R s m args below meth c w nL k n Qf o pc L (.ref (wad w q) :: st) M := by
  intro r hr H locs ls hP hS hl
  obtain ⟨ref, host, C, T, N, f1, rfl, f3, f4, f5, f6, f7, f8⟩ := fa
  obtain ⟨j, -, hj⟩ := wW_get (M := M) hq
  rw [cellE_obj hk f6] at hj
  exact va_getN g.1 g.2.1 g.2.2.2.2.1 f5 g.2.2.2.1 g.2.2.2.2.2.1 hP j hj f3 fk f4 (va_Nw.use rfl (g.2.2.2.2.2.2.2.1.2.2.1 _ f1)) (fun _ h9 => h9) (flds_int f7 f8) d (kk r hr H locs ls hP hS hl)
theorem G_getRN (g : Gd p s m args meth c w nL cc own) {pc : Nat} {L : List (Nat × Value)} {st : List Value} {M : Mem} {o : Option ρ} {idx ci fk q q2 : Nat} (fa : FN own idx ci fk 1) (hq : q ∈ wL w) (hk : (wZ w q).1 = ci) (hz : (wZ w q).2.2 fk = some q2) (d : decode cc pc = .ok (.getfield idx, 3)) (kk : Go p l e R s m args below meth c w nL k n Qf o (pc + 3) L (.ref (wad w q2) :: st) M) : Go p l e R s m args below meth c w nL k n Qf o pc L (.ref (wad w q) :: st) M := by
  intro r hr H locs ls hP hS hl
  obtain ⟨ref, host, C, T, N, f1, rfl, f3, f4, f5, f6, f7, f8⟩ := fa
  obtain ⟨j, -, hj⟩ := wW_get (M := M) hq
  rw [cellE_obj hk f6] at hj
  exact va_getN g.1 g.2.1 g.2.2.2.2.1 f5 g.2.2.2.1 g.2.2.2.2.2.1 hP j hj f3 fk f4 (va_Nw.use rfl (g.2.2.2.2.2.2.2.1.2.2.1 _ f1)) (fun _ h9 => h9) (flds_ref f7 f8 hz) d (kk r hr H locs ls hP hS hl)
theorem G_putN (g : Gd p s m args meth c w nL cc own) {pc : Nat} {L : List (Nat × Value)} {st : List Value} {M : Mem} {o : Option ρ} {idx ci fk q : Nat} {v : Int32} {ty : FieldType} (fa : FN own idx ci fk 0) (fw : FW ci fk ty) (hn : narrow ty (.int v) = .int v) (hf : fits ty (.int v) = true) (hq : q ∈ wL w) (hk : (wZ w q).1 = ci) (d : decode cc pc = .ok (.putfield idx, 3)) (kk : Go p l e R s m args below meth c w nL k n Qf o (pc + 3) L st (put M q fk v)) : Go p l e R s m args below meth c w nL k n Qf o pc L (.int v :: .ref (wad w q) :: st) M := by
  intro r hr H locs ls hP hS hl
  obtain ⟨ref, host, C, T, N, f1, rfl, f3, f4, f5, f6, f7, f8⟩ := fa
  obtain ⟨C2, T2, N2, ty0, w1, w2, w3, w4, w5⟩ := fw
  cases Option.some.inj (w1.symm.trans f3)
  obtain ⟨j, hj0, hj⟩ := wW_get (M := M) hq
  rw [cellE_obj hk f6] at hj
  refine va_putN g.1 g.2.1 g.2.2.2.2.1 f5 ty0 w2 w3 g.2.2.2.1 g.2.2.2.2.2.1 hP (wD_of g.2.2.2.2.2.2.2.2.1 M) hS j hj f3 fk f4 (va_Nw.use rfl (g.2.2.2.2.2.2.2.1.2.2.1 _ f1)) (fun _ h9 => h9) w4 w5 hn hf (by rw [flds_len]; exact f7) d (fun H1 locs1 hP1 _ hS1 => ?_)
  rw [wW_set g.2.2.2.2.2.2.2.2.1 hj0 (f := upd (M q) fk v) (by rw [cellE_obj hk f6, flds_put f7 f8, setR_self])] at hP1
  exact kk r hr H1 locs1 ls hP1 hS1 hl
theorem G_iald (g : Gd p s m args meth c w nL cc own) {pc : Nat} {L : List (Nat × Value)} {st : List Value} {M : Mem} {o : Option ρ} {q nn : Nat} {i : Int32} (hq : q ∈ wL w) (hk : (wZ w q).1 = 20) (hn : (wZ w q).2.1 = nn) (d : decode cc pc = .ok (.iaload, 1)) (kk : Go p l e R s m args below meth c w nL k n Qf o (pc + 1) L (.int (M q i.toNatClampNeg) :: st) M) : Go p l e R s m args below meth c w nL k n Qf (grd (inB i nn) o) pc L (.int i :: .ref (wad w q) :: st) M := by
  intro r hr H locs ls hP hS hl
  obtain ⟨h, hr⟩ := grd_some hr
  have h := inB_of h
  · skip
    obtain ⟨j, -, hj⟩ := wW_get (M := M) hq
    rw [cellE_arr hk, hn] at hj
    exact va_iald g.1 g.2.1 g.2.2.2.2.2.1 hP j 0 hj rfl h d (kk r hr H locs ls hP hS hl)
theorem G_bald (g : Gd p s m args meth c w nL cc own) {pc : Nat} {L : List (Nat × Value)} {st : List Value} {M : Mem} {o : Option ρ} {q nn : Nat} {i : Int32} (hq : q ∈ wL w) (hk : (wZ w q).1 = 21) (hn : (wZ w q).2.1 = nn) (d : decode cc pc = .ok (.baload, 1)) (kk : Go p l e R s m args below meth c w nL k n Qf o (pc + 1) L (.int (M q i.toNatClampNeg) :: st) M) : Go p l e R s m args below meth c w nL k n Qf (grd (inB i nn) o) pc L (.int i :: .ref (wad w q) :: st) M := by
  intro r hr H locs ls hP hS hl
  obtain ⟨h, hr⟩ := grd_some hr
  have h := inB_of h
  · skip
    obtain ⟨j, -, hj⟩ := wW_get (M := M) hq
    rw [cellE_byt hk, hn] at hj
    exact va_bald g.1 g.2.1 g.2.2.2.2.2.1 hP j 1 hj rfl h d (kk r hr H locs ls hP hS hl)
theorem G_iast (g : Gd p s m args meth c w nL cc own) {pc : Nat} {L : List (Nat × Value)} {st : List Value} {M : Mem} {o : Option ρ} {q nn : Nat} {i x : Int32} (hq : q ∈ wL w) (hk : (wZ w q).1 = 20) (hn : (wZ w q).2.1 = nn) (d : decode cc pc = .ok (.iastore, 1)) (kk : Go p l e R s m args below meth c w nL k n Qf o (pc + 1) L st (put M q i.toNatClampNeg x)) : Go p l e R s m args below meth c w nL k n Qf (grd (inB i nn) o) pc L (.int x :: .int i :: .ref (wad w q) :: st) M := by
  intro r hr H locs ls hP hS hl
  obtain ⟨h, hr⟩ := grd_some hr
  have h := inB_of h
  · skip
    obtain ⟨j, hj0, hj⟩ := wW_get (M := M) hq
    rw [cellE_arr hk, hn] at hj
    refine va_iast g.1 g.2.1 g.2.2.2.2.2.1 hP (wD_of g.2.2.2.2.2.2.2.2.1 M) hS j 0 hj rfl h d (fun H1 locs1 hP1 _ hS1 => ?_)
    rw [wW_set g.2.2.2.2.2.2.2.2.1 hj0 (f := upd (M q) i.toNatClampNeg x) (by rw [cellE_arr hk, setR_self, hn])] at hP1
    exact kk r hr H1 locs1 ls hP1 hS1 hl
theorem G_bast (g : Gd p s m args meth c w nL cc own) {pc : Nat} {L : List (Nat × Value)} {st : List Value} {M : Mem} {o : Option ρ} {q nn : Nat} {i x : Int32} (hq : q ∈ wL w) (hk : (wZ w q).1 = 21) (hn : (wZ w q).2.1 = nn) (d : decode cc pc = .ok (.bastore, 1)) (kk : Go p l e R s m args below meth c w nL k n Qf o (pc + 1) L st (put M q i.toNatClampNeg (vp_nar .byte x))) : Go p l e R s m args below meth c w nL k n Qf (grd (inB i nn) o) pc L (.int x :: .int i :: .ref (wad w q) :: st) M := by
  intro r hr H locs ls hP hS hl
  obtain ⟨h, hr⟩ := grd_some hr
  have h := inB_of h
  · skip
    obtain ⟨j, hj0, hj⟩ := wW_get (M := M) hq
    rw [cellE_byt hk, hn] at hj
    refine va_bast g.1 g.2.1 g.2.2.2.2.2.1 hP (wD_of g.2.2.2.2.2.2.2.2.1 M) hS j 1 hj rfl h d (fun H1 locs1 hP1 _ hS1 => ?_)
    rw [wW_set g.2.2.2.2.2.2.2.2.1 hj0 (f := upd (M q) i.toNatClampNeg (vp_nar .byte x)) (by rw [cellE_byt hk, setR_self, hn])] at hP1
    exact kk r hr H1 locs1 ls hP1 hS1 hl
theorem G_ialdK (g : Gd p s m args meth c w nL cc own) {pc : Nat} {L : List (Nat × Value)} {st : List Value} {M : Mem} {o : Option ρ} {q nn : Nat} {i : Int32} (j : Nat) (hi : inB i nn = true) (hij : i.toNatClampNeg = j) (hq : q ∈ wL w) (hk : (wZ w q).1 = 20) (hn : (wZ w q).2.1 = nn) (d : decode cc pc = .ok (.iaload, 1)) (kk : Go p l e R s m args below meth c w nL k n Qf o (pc + 1) L (.int (M q j) :: st) M) : Go p l e R s m args below meth c w nL k n Qf o pc L (.int i :: .ref (wad w q) :: st) M := by
  subst hij
  have h := G_iald g (o := o) hq hk hn d kk
  rw [grd_t hi] at h
  exact h
theorem G_iastK (g : Gd p s m args meth c w nL cc own) {pc : Nat} {L : List (Nat × Value)} {st : List Value} {M : Mem} {o : Option ρ} {q nn : Nat} {i x : Int32} (j : Nat) (hi : inB i nn = true) (hij : i.toNatClampNeg = j) (hq : q ∈ wL w) (hk : (wZ w q).1 = 20) (hn : (wZ w q).2.1 = nn) (d : decode cc pc = .ok (.iastore, 1)) (kk : Go p l e R s m args below meth c w nL k n Qf o (pc + 1) L st (put M q j x)) : Go p l e R s m args below meth c w nL k n Qf o pc L (.int x :: .int i :: .ref (wad w q) :: st) M := by
  subst hij
  have h := G_iast g (o := o) hq hk hn d kk
  rw [grd_t hi] at h
  exact h
theorem G_nmM {pc : Nat} {L : List (Nat × Value)} {st : List Value} {M : Mem} {o : Mem → Option ρ} (kk : ∀ M1 : Mem, Go p l e R s m args below meth c w nL k n Qf (o M1) pc L st M1) : Go p l e R s m args below meth c w nL k n Qf (nm M o) pc L st M := kk M
theorem G_nmX {pc : Nat} {L : List (Nat × Value)} {st : List Value} {M : Mem} (t : Int32) {o : Int32 → Option ρ} (kk : ∀ y : Int32, y = t → Go p l e R s m args below meth c w nL k n Qf (o y) pc L st M) : Go p l e R s m args below meth c w nL k n Qf (nm t o) pc L st M := kk t rfl
theorem G_nmI {pc : Nat} {L : List (Nat × Value)} {st : List Value} {M : Mem} {x : Int32} {o : Int32 → Option ρ} (kk : ∀ y : Int32, Go p l e R s m args below meth c w nL k n Qf (o y) pc L (.int y :: st) M) : Go p l e R s m args below meth c w nL k n Qf (nm x o) pc L (.int x :: st) M := kk x
theorem G_sub {pc : Nat} {L : List (Nat × Value)} {st : List Value} {M : Mem} {o : Option ρ} (ks : List Nat) (L2 : List (Nat × Value)) (hL : lv_pick L ks = L2) (kk : Go p l e R s m args below meth c w nL k n Qf o pc L2 st M) : Go p l e R s m args below meth c w nL k n Qf o pc L st M := fun r hr H locs ls hP hS hl => kk r hr H locs ls hP hS (lv_sub hl ks hL)
theorem G_none {pc : Nat} {L : List (Nat × Value)} {st : List Value} {M : Mem} : Go p l e R s m args below meth c w nL k n Qf none pc L st M := fun r hr => nomatch hr
theorem G_jn {pc : Nat} {L : List (Nat × Value)} {st : List Value} {M : Mem} {A : Type} {f : A → Mem → Option ρ} {h : (A → Mem → Option ρ) → Option ρ} (pj : Nat) (Lj : A → List (Nat × Value)) (sj : A → List Value) (k1 : ∀ a M1, Go p l e R s m args below meth c w nL k n Qf (f a M1) pj (Lj a) (sj a) M1) (k2 : ∀ j : A → Mem → Option ρ, (∀ a M1, Go p l e R s m args below meth c w nL k n Qf (j a M1) pj (Lj a) (sj a) M1) → Go p l e R s m args below meth c w nL k n Qf (h j) pc L st M) : Go p l e R s m args below meth c w nL k n Qf (jn f h) pc L st M := k2 f k1
theorem G_loop {A : Type} {F : Nat → A → Mem → (A → Mem → Option ρ) → Option ρ} {K : A → Mem → Option ρ} (h x : Nat) (Lh Lx : A → List (Nat × Value)) (h0 : ∀ a M K, F 0 a M K = none) (hk : ∀ a M, Go p l e R s m args below meth c w nL k n Qf (K a M) x (Lx a) [] M) (hs : ∀ K : A → Mem → Option ρ, (∀ a M, Go p l e R s m args below meth c w nL k n Qf (K a M) x (Lx a) [] M) → ∀ N, (∀ a M, Go p l e R s m args below meth c w nL k n Qf (F N a M K) h (Lh a) [] M) → ∀ a M, Go p l e R s m args below meth c w nL k n Qf (F (N + 1) a M K) h (Lh a) [] M) (N : Nat) (a : A) (M : Mem) : Go p l e R s m args below meth c w nL k n Qf (F N a M K) h (Lh a) [] M := by
  have key : ∀ N, ∀ a M, Go p l e R s m args below meth c w nL k n Qf (F N a M K) h (Lh a) [] M := by
    intro N
    induction N with
    | zero => intro a M; rw [h0]; exact fun r hr => nomatch hr
    | succ N ih => exact hs K hk N ih
  exact key N a M
theorem G_ocase {pc : Nat} {L : List (Nat × Value)} {st : List Value} {M : Mem} {x : Option Nat} {o1 : Option ρ} {o2 : Nat → Option ρ} (k1 : Go p l e R s m args below meth c w nL k n Qf o1 pc L (.null :: st) M) (k2 : ∀ q, q ∈ stL → Go p l e R s m args below meth c w nL k n Qf (o2 q) pc L (.ref (wad w q) :: st) M) : Go p l e R s m args below meth c w nL k n Qf (ocase x o1 o2) pc L (va_rf (x.map (wad w)) :: st) M := by
  intro r hr
  cases x with
  | none => exact k1 r hr
  | some q =>
    obtain ⟨h, hr⟩ := grd_some hr
    exact k2 q (List.contains_iff_mem.mp h) r hr
theorem G_scase {pc : Nat} {L : List (Nat × Value)} {st : List Value} {M : Mem} {x : Option Nat} {o : Nat → Option ρ} (kk : ∀ i, i < 20 → Go p l e R s m args below meth c w nL k n Qf (o i) pc L (.ref (wad w (1000 + i)) :: st) M) : Go p l e R s m args below meth c w nL k n Qf (scase x o) pc L (va_rf (x.map (wad w)) :: st) M := by
  intro r hr
  cases x with
  | none => cases hr
  | some q =>
    obtain ⟨h, hr⟩ := grd_some hr
    simp only [Bool.and_eq_true, decide_eq_true_eq] at h
    have e : q = 1000 + (q - 1000) := by omega
    have h2 := kk (q - 1000) (by omega) r hr
    rw [← e] at h2
    exact h2
theorem G_alen (g : Gd p s m args meth c w nL cc own) {pc : Nat} {L : List (Nat × Value)} {st : List Value} {M : Mem} {o : Option ρ} {q : Nat} (v : Int32) (hq : q ∈ wL w) (hk : (wZ w q).1 = 20) (hn : Int32.ofNat (wZ w q).2.1 = v) (d : decode cc pc = .ok (.arraylength, 1)) (kk : Go p l e R s m args below meth c w nL k n Qf o (pc + 1) L (.int v :: st) M) : Go p l e R s m args below meth c w nL k n Qf o pc L (.ref (wad w q) :: st) M := by
  intro r hr H locs ls hP hS hl
  obtain ⟨j, -, hj⟩ := wW_get (M := M) hq
  rw [cellE_arr hk] at hj
  exact va_alen g.1 g.2.1 g.2.2.2.2.2.1 hP j 0 hj rfl hn d (kk r hr H locs ls hP hS hl)
theorem G_alenB (g : Gd p s m args meth c w nL cc own) {pc : Nat} {L : List (Nat × Value)} {st : List Value} {M : Mem} {o : Option ρ} {q : Nat} (v : Int32) (hq : q ∈ wL w) (hk : (wZ w q).1 = 21) (hn : Int32.ofNat (wZ w q).2.1 = v) (d : decode cc pc = .ok (.arraylength, 1)) (kk : Go p l e R s m args below meth c w nL k n Qf o (pc + 1) L (.int v :: st) M) : Go p l e R s m args below meth c w nL k n Qf o pc L (.ref (wad w q) :: st) M := by
  intro r hr H locs ls hP hS hl
  obtain ⟨j, -, hj⟩ := wW_get (M := M) hq
  rw [cellE_byt hk] at hj
  exact va_alen g.1 g.2.1 g.2.2.2.2.2.1 hP j 1 hj rfl hn d (kk r hr H locs ls hP hS hl)
theorem G_alenS (g : Gd p s m args meth c w nL cc own) {pc : Nat} {L : List (Nat × Value)} {st : List Value} {M : Mem} {o : Option ρ} {q : Nat} (v : Int32) (hq : q ∈ wL w) (hk : (wZ w q).1 = 24) (hn : Int32.ofNat (wZ w q).2.1 = v) (d : decode cc pc = .ok (.arraylength, 1)) (kk : Go p l e R s m args below meth c w nL k n Qf o (pc + 1) L (.int v :: st) M) : Go p l e R s m args below meth c w nL k n Qf o pc L (.ref (wad w q) :: st) M := by
  intro r hr H locs ls hP hS hl
  obtain ⟨j, -, hj⟩ := wW_get (M := M) hq
  rw [cellE_sta hk] at hj
  exact va_alen g.1 g.2.1 g.2.2.2.2.2.1 hP j 4 hj rfl hn d (kk r hr H locs ls hP hS hl)
theorem G_alenT (g : Gd p s m args meth c w nL cc own) {pc : Nat} {L : List (Nat × Value)} {st : List Value} {M : Mem} {o : Option ρ} {q : Nat} (v : Int32) (hq : q ∈ wL w) (hk : (wZ w q).1 = 25) (hn : Int32.ofNat (wZ w q).2.1 = v) (d : decode cc pc = .ok (.arraylength, 1)) (kk : Go p l e R s m args below meth c w nL k n Qf o (pc + 1) L (.int v :: st) M) : Go p l e R s m args below meth c w nL k n Qf o pc L (.ref (wad w q) :: st) M := by
  intro r hr H locs ls hP hS hl
  obtain ⟨j, -, hj⟩ := wW_get (M := M) hq
  rw [cellE_str hk] at hj
  exact va_alen g.1 g.2.1 g.2.2.2.2.2.1 hP j 5 hj rfl hn d (kk r hr H locs ls hP hS hl)
theorem G_ireturn (g : Gd p s m args meth c w nL cc own) {L : List (Nat × Value)} {M : Mem} {pc mc ms : Nat} {x : Int32} (hr0 : meth.sig.returnType = some .int) (h1 : k ≤ mc) (h2 : n ≤ ms) (d : decode cc pc = .ok (.ireturn, 1)) : Go p l e R s m args below meth c w nL k n (fun r => MQ below (QI w r) args s mc ms (wA w)) (some (x, M)) pc L [.int x] M := by
  intro r hr H locs ls hP hS hl
  cases hr
  refine W.widen h1 h2 ?_
  exact W.iret (hlocks := g.2.2.2.2.2.2.1) g.1 g.2.1 hr0 (fun t ht hW => ⟨⟨x, (), rfl, rfl, Rp.at ht hP⟩, hS.F ht⟩) hS.2.2 d
theorem G_zreturn (g : Gd p s m args meth c w nL cc own) {L : List (Nat × Value)} {M : Mem} {pc mc ms : Nat} {x : Int32} (b : Bool) (hx : x = b2i b) (hr0 : meth.sig.returnType = some .boolean) (h1 : k ≤ mc) (h2 : n ≤ ms) (d : decode cc pc = .ok (.ireturn, 1)) : Go p l e R s m args below meth c w nL k n (fun r => MQ below (QZ w r) args s mc ms (wA w)) (some (b, M)) pc L [.int x] M := by
  intro r hr H locs ls hP hS hl
  cases hr
  subst hx
  refine W.widen h1 h2 ?_
  exact W.zret (hlocks := g.2.2.2.2.2.2.1) g.1 g.2.1 hr0 (b2i_nar b) (fun t ht hW => ⟨⟨b2i b, (), rfl, rfl, Rp.at ht hP⟩, hS.F ht⟩) hS.2.2 d
theorem G_return (g : Gd p s m args meth c w nL cc own) {L : List (Nat × Value)} {M : Mem} {pc mc ms : Nat} (hr0 : meth.sig.returnType = none) (h1 : k ≤ mc) (h2 : n ≤ ms) (d : decode cc pc = .ok (.return_, 1)) : Go p l e R s m args below meth c w nL k n (fun r => MQ below (QV w r) args s mc ms (wA w)) (some M) pc L [] M := by
  intro r hr H locs ls hP hS hl
  cases hr
  refine W.widen h1 h2 ?_
  exact W.vret (hlocks := g.2.2.2.2.2.2.1) g.1 g.2.1 hr0 (fun t ht hW => ⟨⟨(), rfl, trivial, Rp.at ht hP⟩, hS.F ht⟩) hS.2.2 d
theorem G_areturn (g : Gd p s m args meth c w nL cc own) {L : List (Nat × Value)} {M : Mem} {pc mc ms : Nat} {v : Value} {rt : FieldType} (q : Option Nat) (hv : v = va_rf (q.map (wad w))) (hr0 : meth.sig.returnType = some rt) (hrt : (∃ n, rt = .object n) ∨ ∃ t, rt = .array t) (h1 : k ≤ mc) (h2 : n ≤ ms) (d : decode cc pc = .ok (.areturn, 1)) : Go p l e R s m args below meth c w nL k n (fun r => MQ below (QR w r) args s mc ms (wA w)) (some (q, M)) pc L [v] M := by
  intro r hr H locs ls hP hS hl
  cases hr
  subst hv
  refine W.widen h1 h2 ?_
  exact W.aret (hlocks := g.2.2.2.2.2.2.1) g.1 g.2.1 hr0 hrt (by cases q with | none => exact Or.inl rfl | some a => exact Or.inr ⟨wad w a, rfl⟩) (fun t ht hW => ⟨⟨q.map (wad w), (), rfl, rfl, Rp.at ht hP⟩, hS.F ht⟩) hS.2.2 d
theorem G_dreturn (g : Gd p s m args meth c w nL cc own) {L : List (Nat × Value)} {M : Mem} {pc mc ms : Nat} {x : UInt64} (hr0 : meth.sig.returnType = some .double) (h1 : k ≤ mc) (h2 : n ≤ ms) (d : decode cc pc = .ok (.dreturn, 1)) : Go p l e R s m args below meth c w nL k n (fun r => MQ below (QD w r) args s mc ms (wA w)) (some (x, M)) pc L [.double x] M := by
  intro r hr H locs ls hP hS hl
  cases hr
  refine W.widen h1 h2 ?_
  exact W.dret (hlocks := g.2.2.2.2.2.2.1) g.1 g.2.1 hr0 (fun t ht hW => ⟨⟨x, (), rfl, rfl, Rp.at ht hP⟩, hS.F ht⟩) hS.2.2 d
theorem G_freturn (g : Gd p s m args meth c w nL cc own) {L : List (Nat × Value)} {M : Mem} {pc mc ms : Nat} {x : UInt32} (hr0 : meth.sig.returnType = some .float) (h1 : k ≤ mc) (h2 : n ≤ ms) (d : decode cc pc = .ok (.freturn, 1)) : Go p l e R s m args below meth c w nL k n (fun r => MQ below (QF w r) args s mc ms (wA w)) (some (x, M)) pc L [.float x] M := by
  intro r hr H locs ls hP hS hl
  cases hr
  refine W.widen h1 h2 ?_
  exact W.fret (hlocks := g.2.2.2.2.2.2.1) g.1 g.2.1 hr0 (fun t ht hW => ⟨⟨x, (), rfl, rfl, Rp.at ht hP⟩, hS.F ht⟩) hS.2.2 d
theorem G_ldcS (g : Gd p s m args meth c w nL cc own) {pc : Nat} {L : List (Nat × Value)} {st : List Value} {M : Mem} {o : Option ρ} {idx : Nat} (i : Nat) (hs : (own, idx, i) ∈ strS) (d : decode cc pc = .ok (.ldc idx, 2)) (kk : Go p l e R s m args below meth c w nL k n Qf o (pc + 2) L (.ref (wad w (1000 + i)) :: st) M) : Go p l e R s m args below meth c w nL k n Qf o pc L st M :=
  fun r hr H locs ls hP hS hl => va_ldcS g.1 g.2.1 g.2.2.2.1 (g.2.2.2.2.2.2.2.1.2.1 _ hs) d (kk r hr H locs ls hP hS hl)
theorem G_ldcI (g : Gd p s m args meth c w nL cc own) {pc : Nat} {L : List (Nat × Value)} {st : List Value} {M : Mem} {o : Option ρ} {idx : Nat} {v : Int32} (hs : Cond.constant own idx v ∈ TT) (d : decode cc pc = .ok (.ldc idx, 2)) (kk : Go p l e R s m args below meth c w nL k n Qf o (pc + 2) L (.int v :: st) M) : Go p l e R s m args below meth c w nL k n Qf o pc L st M :=
  fun r hr H locs ls hP hS hl => lv_ldc g.1 g.2.1 g.2.2.2.1 (g.2.2.2.2.1 _ hs) d (kk r hr H locs ls hP hS hl)
theorem G_mmax (g : Gd p s m args meth c w nL cc own) {pc : Nat} {L : List (Nat × Value)} {st : List Value} {M : Mem} {o : Option ρ} {idx : Nat} {x y : Int32} (hm : Cond.methodLink own idx Lib.Math.max.name ∈ TT ∧ Cond.static Lib.Math.max.name ∈ TT ∧ Cond.initialized "java/lang/Math" ∈ TT ∧ Cond.code Lib.Math.max.name Lib.Math.max.code 2 (some .int) ∈ TT) (hR : 1 ≤ R.frames ∧ (st.map fun v => v.category).sum + 13 ≤ R.locals ∧ k ≤ R.cells ∧ n ≤ R.slots) (d : decode cc pc = .ok (.invokestatic idx, 3)) (kk : Go p l e R s m args below meth c w nL k n Qf o (pc + 3) L (.int (imax x y) :: st) M) : Go p l e R s m args below meth c w nL k n Qf o pc L (.int y :: .int x :: st) M :=
  fun r hr H locs ls hP hS hl => va_mmax g.1 g.2.1 (g.2.2.1.trans hl.1.symm) g.2.2.2.1 (g.2.2.2.2.1 _ hm.1) (g.2.2.2.2.1 _ hm.2.1) (g.2.2.2.2.1 _ hm.2.2.1) (g.2.2.2.2.1 _ hm.2.2.2) hR.1 hR.2.1 hR.2.2.1 hR.2.2.2 d (kk r hr H locs ls hP hS hl)
theorem G_mmin (g : Gd p s m args meth c w nL cc own) {pc : Nat} {L : List (Nat × Value)} {st : List Value} {M : Mem} {o : Option ρ} {idx : Nat} {x y : Int32} (hm : Cond.methodLink own idx Lib.Math.min.name ∈ TT ∧ Cond.static Lib.Math.min.name ∈ TT ∧ Cond.initialized "java/lang/Math" ∈ TT ∧ Cond.code Lib.Math.min.name Lib.Math.min.code 2 (some .int) ∈ TT) (hR : 1 ≤ R.frames ∧ (st.map fun v => v.category).sum + 13 ≤ R.locals ∧ k ≤ R.cells ∧ n ≤ R.slots) (d : decode cc pc = .ok (.invokestatic idx, 3)) (kk : Go p l e R s m args below meth c w nL k n Qf o (pc + 3) L (.int (imin x y) :: st) M) : Go p l e R s m args below meth c w nL k n Qf o pc L (.int y :: .int x :: st) M :=
  fun r hr H locs ls hP hS hl => va_mmin g.1 g.2.1 (g.2.2.1.trans hl.1.symm) g.2.2.2.1 (g.2.2.2.2.1 _ hm.1) (g.2.2.2.2.1 _ hm.2.1) (g.2.2.2.2.1 _ hm.2.2.1) (g.2.2.2.2.1 _ hm.2.2.2) hR.1 hR.2.1 hR.2.2.1 hR.2.2.2 d (kk r hr H locs ls hP hS hl)
theorem G_mabs (g : Gd p s m args meth c w nL cc own) {pc : Nat} {L : List (Nat × Value)} {st : List Value} {M : Mem} {o : Option ρ} {idx : Nat} {x : Int32} (hm : Cond.methodLink own idx Lib.Math.abs.name ∈ TT ∧ Cond.static Lib.Math.abs.name ∈ TT ∧ Cond.initialized "java/lang/Math" ∈ TT ∧ Cond.code Lib.Math.abs.name Lib.Math.abs.code 1 (some .int) ∈ TT) (hR : 1 ≤ R.frames ∧ (st.map fun v => v.category).sum + 13 ≤ R.locals ∧ k ≤ R.cells ∧ n ≤ R.slots) (d : decode cc pc = .ok (.invokestatic idx, 3)) (kk : Go p l e R s m args below meth c w nL k n Qf o (pc + 3) L (.int (iabs x) :: st) M) : Go p l e R s m args below meth c w nL k n Qf o pc L (.int x :: st) M :=
  fun r hr H locs ls hP hS hl => va_mabs g.1 g.2.1 (g.2.2.1.trans hl.1.symm) g.2.2.2.1 (g.2.2.2.2.1 _ hm.1) (g.2.2.2.2.1 _ hm.2.1) (g.2.2.2.2.1 _ hm.2.2.1) (g.2.2.2.2.1 _ hm.2.2.2) hR.1 hR.2.1 hR.2.2.1 hR.2.2.2 d (kk r hr H locs ls hP hS hl)
theorem G_copy (g : Gd p s m args meth c w nL cc own) {pc : Nat} {L : List (Nat × Value)} {st : List Value} {M : Mem} {o : Option ρ} {idx q0 q1 n0 n1 : Nat} {sp dp z : Int32} (hm : Cond.methodLink own idx arraycopyName ∈ TT ∧ Cond.native arraycopyName ∈ TT ∧ Cond.static arraycopyName ∈ TT ∧ Cond.initialized "java/lang/System" ∈ TT) (hR : 1 ≤ R.frames ∧ (st.map fun v => v.category).sum + (nativeFrameWords "java/lang/System" "arraycopy" 5 + 11) ≤ R.locals) (hq0 : q0 ∈ wL w) (hk0 : (wZ w q0).1 = 20) (hn0 : (wZ w q0).2.1 = n0) (hq1 : q1 ∈ wL w) (hk1 : (wZ w q1).1 = 20) (hn1 : (wZ w q1).2.1 = n1) (d : decode cc pc = .ok (.invokestatic idx, 3)) (kk : Go p l e R s m args below meth c w nL k n Qf o (pc + 3) L st (setR M q1 (va_cpy (M q0) (M q1) sp.toNatClampNeg dp.toNatClampNeg z.toNatClampNeg))) : Go p l e R s m args below meth c w nL k n Qf (grd (cpB sp dp z n0 n1) o) pc L (.int z :: .int dp :: .ref (wad w q1) :: .int sp :: .ref (wad w q0) :: st) M := by
  intro r hr H locs ls hP hS hl
  obtain ⟨h, hr⟩ := grd_some hr
  have h := cpB_of h
  · skip
    obtain ⟨h1, h2, h3, h4, h5⟩ := h
    obtain ⟨j0, -, hj0⟩ := wW_get (M := M) hq0
    obtain ⟨j1, hx1, hj1⟩ := wW_get (M := M) hq1
    rw [cellE_arr hk0, hn0] at hj0
    rw [cellE_arr hk1, hn1] at hj1
    refine va_copyi g.1 g.2.1 (g.2.2.1.trans hl.1.symm) g.2.2.2.1 (g.2.2.2.2.1 _ hm.1) (g.2.2.2.2.1 _ hm.2.1) (g.2.2.2.2.1 _ hm.2.2.1) (g.2.2.2.2.1 _ hm.2.2.2) g.2.2.2.2.2.1 hP (wD_of g.2.2.2.2.2.2.2.2.1 M) hS j0 j1 0 0 hj0 hj1 rfl rfl rfl h1 h2 h3 h4 h5 (fun _ _ => rfl) hR.1 hR.2 d (fun H1 locs1 hP1 _ hS1 => ?_)
    rw [wW_set g.2.2.2.2.2.2.2.2.1 hx1 (f := va_cpy (M q0) (M q1) sp.toNatClampNeg dp.toNatClampNeg z.toNatClampNeg) (by rw [cellE_arr hk1, setR_self, hn1])] at hP1
    exact kk r hr H1 locs1 ls hP1 hS1 hl
theorem G_aldS (g : Gd p s m args meth c w nL cc own) {pc : Nat} {L : List (Nat × Value)} {st : List Value} {M : Mem} {o : Option ρ} {q nn : Nat} {i : Int32} (hq : q ∈ wL w) (hk : (wZ w q).1 = 24) (hn : (wZ w q).2.1 = nn) (d : decode cc pc = .ok (.aaload, 1)) (kk : Go p l e R s m args below meth c w nL k n Qf o (pc + 1) L (va_rf (((wZ w q).2.2 i.toNatClampNeg).map (wad w)) :: st) M) : Go p l e R s m args below meth c w nL k n Qf (grd (inB i nn) o) pc L (.int i :: .ref (wad w q) :: st) M := by
  intro r hr H locs ls hP hS hl
  obtain ⟨h, hr⟩ := grd_some hr
  have h := inB_of h
  · skip
    obtain ⟨j, -, hj⟩ := wW_get (M := M) hq
    rw [cellE_sta hk, hn] at hj
    exact va_aldq g.1 g.2.1 g.2.2.2.2.2.1 hP j 4 hj rfl h d (kk r hr H locs ls hP hS hl)
theorem G_aldT (g : Gd p s m args meth c w nL cc own) {pc : Nat} {L : List (Nat × Value)} {st : List Value} {M : Mem} {o : Option ρ} {q nn : Nat} {i : Int32} (hq : q ∈ wL w) (hk : (wZ w q).1 = 25) (hn : (wZ w q).2.1 = nn) (d : decode cc pc = .ok (.aaload, 1)) (kk : Go p l e R s m args below meth c w nL k n Qf o (pc + 1) L (va_rf (((wZ w q).2.2 i.toNatClampNeg).map (wad w)) :: st) M) : Go p l e R s m args below meth c w nL k n Qf (grd (inB i nn) o) pc L (.int i :: .ref (wad w q) :: st) M := by
  intro r hr H locs ls hP hS hl
  obtain ⟨h, hr⟩ := grd_some hr
  have h := inB_of h
  · skip
    obtain ⟨j, -, hj⟩ := wW_get (M := M) hq
    rw [cellE_str hk, hn] at hj
    exact va_aldq g.1 g.2.1 g.2.2.2.2.2.1 hP j 5 hj rfl h d (kk r hr H locs ls hP hS hl)
/-- a call's words: its link, the callee's code, its class made ready -/
def CV (own : String) (idx : Nat) (y : MethodName) (b : ByteArray) (maxL : Nat) (ret : Option FieldType) (a : Nat) : Prop := Cond.methodLink own idx y ∈ TT ∧ Cond.instanceMethod y ∈ TT ∧ Cond.selects y.cls y y ∈ TT ∧ Cond.initialized y.cls ∈ TT ∧ Cond.code y b maxL ret ∈ TT ∧ (y.cls ≠ "java/lang/invoke/MethodHandle" ∧ y.cls ≠ "java/lang/invoke/VarHandle" ∧ (parseMethodDescriptor y.desc).map (fun d => d.parameters.length) = some a)
def CS (own : String) (idx : Nat) (y : MethodName) (b : ByteArray) (maxL : Nat) (ret : Option FieldType) (a : Nat) : Prop := Cond.methodLink own idx y ∈ TT ∧ Cond.static y ∈ TT ∧ Cond.initialized y.cls ∈ TT ∧ Cond.code y b maxL ret ∈ TT ∧ (y.cls ≠ "java/lang/invoke/MethodHandle" ∧ y.cls ≠ "java/lang/invoke/VarHandle" ∧ (parseMethodDescriptor y.desc).map (fun d => d.parameters.length) = some a)
def CVN (own : String) (idx : Nat) (host : String) (y : MethodName) (b : ByteArray) (maxL : Nat) (ret : Option FieldType) (a : Nat) : Prop := Cond.methodLinkNest own idx y host ∈ NW ∧ Cond.instanceMethod y ∈ TT ∧ Cond.selects y.cls y y ∈ TT ∧ Cond.initialized y.cls ∈ TT ∧ Cond.code y b maxL ret ∈ TT ∧ (y.cls ≠ "java/lang/invoke/MethodHandle" ∧ y.cls ≠ "java/lang/invoke/VarHandle" ∧ (parseMethodDescriptor y.desc).map (fun d => d.parameters.length) = some a)
def CSN (own : String) (idx : Nat) (host : String) (y : MethodName) (b : ByteArray) (maxL : Nat) (ret : Option FieldType) (a : Nat) : Prop := Cond.methodLinkNest own idx y host ∈ NW ∧ Cond.static y ∈ TT ∧ Cond.initialized y.cls ∈ TT ∧ Cond.code y b maxL ret ∈ TT ∧ (y.cls ≠ "java/lang/invoke/MethodHandle" ∧ y.cls ≠ "java/lang/invoke/VarHandle" ∧ (parseMethodDescriptor y.desc).map (fun d => d.parameters.length) = some a)
theorem TT_gi {y : Cond} (hy : y ∈ TT) : GoodIn TT (y :: TT) := by
  intro w hw
  have hm : w ∈ TT := by
    rcases List.mem_cons.mp hw with rfl | h
    · exact hy
    · exact h
  exact ⟨hm, good_of_word (TT_good hm).2⟩
def bnd {α ρ : Type} (x : Option (α × Mem)) (f : α → Mem → Option ρ) : Option ρ := match x with
  | none => none
  | some r => f r.1 r.2
def bndM {ρ : Type} (x : Option Mem) (f : Mem → Option ρ) : Option ρ := match x with
  | none => none
  | some r => f r
theorem G_cVI (g : Gd p s m args meth c w nL cc own) {pc idx a maxL : Nat} {L : List (Nat × Value)} {st As : List Value} {M : Mem} {y : MethodName} {b : ByteArray} {rm : Room} {q ci N : Nat} {T : u_T} {f : Option (Int32 × Mem)} {o : Int32 → Mem → Option ρ} (cw : CV own idx y b maxL (some .int) a) (hM : Ct QI l y b maxL (some .int) rm w (.ref (wad w q) :: As) M f) (hq : q ∈ wL w) (hk : (wZ w q).1 = ci) (hc : vwCl[ci]? = some (y.cls, T, N)) (hci : ci < 20) (hn : As.length = a) (hR : rm.frames + 1 ≤ R.frames ∧ 8 + (maxL + 11) + rm.locals ≤ R.locals) (hC : k + rm.cells ≤ R.cells ∧ n + rm.slots ≤ R.slots) (hs : (st.map fun v => v.category).sum ≤ 8) (d : decode cc pc = .ok (.invokevirtual idx, 3)) (kk : ∀ (x : Int32) (M1 : Mem), Go p l e R s m args below meth c w nL (k + rm.cells) (n + rm.slots) Qf (o x M1) (pc + 3) L (.int x :: st) M1) : Go p l e R s m args below meth c w nL k n Qf (bnd f o) pc L (As.reverse ++ .ref (wad w q) :: st) M := by
  intro r hr H locs ls hP hS hl
  cases f with
  | none => cases hr
  | some v =>
    obtain ⟨j, -, hj⟩ := wW_get (M := M) hq
    rw [cellE_obj hk hci] at hj
    refine va_calli (va_runV (As := As) (rest := st) ⟨g.1, g.2.1, g.2.2.1, g.2.2.2.1, g.2.2.2.2.1⟩ (hM v rfl) ⟨callB_of a g.2.2.2.2.1 (TT_gi cw.2.2.2.2.1) rfl rfl rfl (g.2.2.2.2.1 _ cw.2.2.2.1) (g.2.2.2.2.1 _ cw.1) cw.2.2.2.2.2 hR, g.2.2.2.2.1 _ cw.2.1, g.2.2.2.2.1 _ cw.2.2.1⟩ ⟨Wd.blind, va_recv g.2.2.2.2.2.1 hP hc hj, fun U hU hW => ⟨rfl, by rw [hU]; exact hP, va_K.moved hW.alike g.2.2.2.2.2.1, g.2.2.2.2.2.2.2.2.1, by rw [hU]; exact Nat.le_trans g.2.2.2.2.2.2.2.2.2 hS.1, Sx.step g.2.2.2.2.2.2.2.1 hS hU hW⟩⟩ rfl hn hl.1 rfl (lv_room hs) d hC) hS (fun _ _ h => h) (fun _ h => h) (fun x u t H1 locs1 ht hvm hw hB hz hkp hS1 => ?_)
    have hw : x = v.1 := hw
    subst hw
    exact kk v.1 v.2 r hr H1 locs1 ls (by rw [← ht]; exact hB) hS1 hl
theorem G_cSI (g : Gd p s m args meth c w nL cc own) {pc idx a maxL : Nat} {L : List (Nat × Value)} {st As : List Value} {M : Mem} {y : MethodName} {b : ByteArray} {rm : Room} {f : Option (Int32 × Mem)} {o : Int32 → Mem → Option ρ} (cw : CS own idx y b maxL (some .int) a) (hM : Ct QI l y b maxL (some .int) rm w (As) M f) (hn : As.length = a) (hR : rm.frames + 1 ≤ R.frames ∧ 8 + (maxL + 11) + rm.locals ≤ R.locals) (hC : k + rm.cells ≤ R.cells ∧ n + rm.slots ≤ R.slots) (hs : (st.map fun v => v.category).sum ≤ 8) (d : decode cc pc = .ok (.invokestatic idx, 3)) (kk : ∀ (x : Int32) (M1 : Mem), Go p l e R s m args below meth c w nL (k + rm.cells) (n + rm.slots) Qf (o x M1) (pc + 3) L (.int x :: st) M1) : Go p l e R s m args below meth c w nL k n Qf (bnd f o) pc L (As.reverse ++ st) M := by
  intro r hr H locs ls hP hS hl
  cases f with
  | none => cases hr
  | some v =>
    refine va_calli (va_runS (As := As) (rest := st) ⟨g.1, g.2.1, g.2.2.1, g.2.2.2.1, g.2.2.2.2.1⟩ (hM v rfl) ⟨callB_of a g.2.2.2.2.1 (TT_gi cw.2.2.2.1) rfl rfl rfl (g.2.2.2.2.1 _ cw.2.2.1) (g.2.2.2.2.1 _ cw.1) cw.2.2.2.2 hR, g.2.2.2.2.1 _ cw.2.1⟩ ⟨Wd.blind, fun U hU hW => ⟨rfl, by rw [hU]; exact hP, va_K.moved hW.alike g.2.2.2.2.2.1, g.2.2.2.2.2.2.2.2.1, by rw [hU]; exact Nat.le_trans g.2.2.2.2.2.2.2.2.2 hS.1, Sx.step g.2.2.2.2.2.2.2.1 hS hU hW⟩⟩ rfl hn hl.1 rfl (lv_room hs) d hC) hS (fun _ _ h => h) (fun _ h => h) (fun x u t H1 locs1 ht hvm hw hB hz hkp hS1 => ?_)
    have hw : x = v.1 := hw
    subst hw
    exact kk v.1 v.2 r hr H1 locs1 ls (by rw [← ht]; exact hB) hS1 hl
theorem G_cVNI (g : Gd p s m args meth c w nL cc own) {pc idx a maxL : Nat} {L : List (Nat × Value)} {st As : List Value} {M : Mem} {y : MethodName} {b : ByteArray} {rm : Room} {host : String} {q ci N : Nat} {T : u_T} {f : Option (Int32 × Mem)} {o : Int32 → Mem → Option ρ} (cw : CVN own idx host y b maxL (some .int) a) (hM : Ct QI l y b maxL (some .int) rm w (.ref (wad w q) :: As) M f) (hq : q ∈ wL w) (hk : (wZ w q).1 = ci) (hc : vwCl[ci]? = some (y.cls, T, N)) (hci : ci < 20) (hn : As.length = a) (hR : rm.frames + 1 ≤ R.frames ∧ 8 + (maxL + 11) + rm.locals ≤ R.locals) (hC : k + rm.cells ≤ R.cells ∧ n + rm.slots ≤ R.slots) (hs : (st.map fun v => v.category).sum ≤ 8) (d : decode cc pc = .ok (.invokevirtual idx, 3)) (kk : ∀ (x : Int32) (M1 : Mem), Go p l e R s m args below meth c w nL (k + rm.cells) (n + rm.slots) Qf (o x M1) (pc + 3) L (.int x :: st) M1) : Go p l e R s m args below meth c w nL k n Qf (bnd f o) pc L (As.reverse ++ .ref (wad w q) :: st) M := by
  intro r hr H locs ls hP hS hl
  cases f with
  | none => cases hr
  | some v =>
    obtain ⟨j, -, hj⟩ := wW_get (M := M) hq
    rw [cellE_obj hk hci] at hj
    refine va_calli (va_runVN (As := As) (rest := st) ⟨g.1, g.2.1, g.2.2.1, g.2.2.2.1, g.2.2.2.2.1⟩ (hM v rfl) ⟨va_cnB a g.2.2.2.2.1 (TT_gi cw.2.2.2.2.1) rfl rfl rfl (g.2.2.2.2.2.2.2.1.2.2.1 _ cw.1) (g.2.2.2.2.1 _ cw.2.2.2.1) cw.2.2.2.2.2 hR, g.2.2.2.2.1 _ cw.2.1, g.2.2.2.2.1 _ cw.2.2.1⟩ ⟨Wd.blind, va_recv g.2.2.2.2.2.1 hP hc hj, fun U hU hW => ⟨rfl, by rw [hU]; exact hP, va_K.moved hW.alike g.2.2.2.2.2.1, g.2.2.2.2.2.2.2.2.1, by rw [hU]; exact Nat.le_trans g.2.2.2.2.2.2.2.2.2 hS.1, Sx.step g.2.2.2.2.2.2.2.1 hS hU hW⟩⟩ rfl hn hl.1 rfl (lv_room hs) d hC) hS (fun _ _ h => h) (fun _ h => h) (fun x u t H1 locs1 ht hvm hw hB hz hkp hS1 => ?_)
    have hw : x = v.1 := hw
    subst hw
    exact kk v.1 v.2 r hr H1 locs1 ls (by rw [← ht]; exact hB) hS1 hl
theorem G_cSNI (g : Gd p s m args meth c w nL cc own) {pc idx a maxL : Nat} {L : List (Nat × Value)} {st As : List Value} {M : Mem} {y : MethodName} {b : ByteArray} {rm : Room} {host : String} {f : Option (Int32 × Mem)} {o : Int32 → Mem → Option ρ} (cw : CSN own idx host y b maxL (some .int) a) (hM : Ct QI l y b maxL (some .int) rm w (As) M f) (hn : As.length = a) (hR : rm.frames + 1 ≤ R.frames ∧ 8 + (maxL + 11) + rm.locals ≤ R.locals) (hC : k + rm.cells ≤ R.cells ∧ n + rm.slots ≤ R.slots) (hs : (st.map fun v => v.category).sum ≤ 8) (d : decode cc pc = .ok (.invokestatic idx, 3)) (kk : ∀ (x : Int32) (M1 : Mem), Go p l e R s m args below meth c w nL (k + rm.cells) (n + rm.slots) Qf (o x M1) (pc + 3) L (.int x :: st) M1) : Go p l e R s m args below meth c w nL k n Qf (bnd f o) pc L (As.reverse ++ st) M := by
  intro r hr H locs ls hP hS hl
  cases f with
  | none => cases hr
  | some v =>
    refine va_calli (va_runSN (As := As) (rest := st) ⟨g.1, g.2.1, g.2.2.1, g.2.2.2.1, g.2.2.2.2.1⟩ (hM v rfl) ⟨va_cnB a g.2.2.2.2.1 (TT_gi cw.2.2.2.1) rfl rfl rfl (g.2.2.2.2.2.2.2.1.2.2.1 _ cw.1) (g.2.2.2.2.1 _ cw.2.2.1) cw.2.2.2.2 hR, g.2.2.2.2.1 _ cw.2.1, trivial⟩ ⟨Wd.blind, fun U hU hW => ⟨rfl, by rw [hU]; exact hP, va_K.moved hW.alike g.2.2.2.2.2.1, g.2.2.2.2.2.2.2.2.1, by rw [hU]; exact Nat.le_trans g.2.2.2.2.2.2.2.2.2 hS.1, Sx.step g.2.2.2.2.2.2.2.1 hS hU hW⟩⟩ rfl hn hl.1 rfl (lv_room hs) d hC) hS (fun _ _ h => h) (fun _ h => h) (fun x u t H1 locs1 ht hvm hw hB hz hkp hS1 => ?_)
    have hw : x = v.1 := hw
    subst hw
    exact kk v.1 v.2 r hr H1 locs1 ls (by rw [← ht]; exact hB) hS1 hl
theorem G_cVZ (g : Gd p s m args meth c w nL cc own) {pc idx a maxL : Nat} {L : List (Nat × Value)} {st As : List Value} {M : Mem} {y : MethodName} {b : ByteArray} {rm : Room} {q ci N : Nat} {T : u_T} {f : Option (Bool × Mem)} {o : Bool → Mem → Option ρ} (cw : CV own idx y b maxL (some .boolean) a) (hM : Ct QZ l y b maxL (some .boolean) rm w (.ref (wad w q) :: As) M f) (hq : q ∈ wL w) (hk : (wZ w q).1 = ci) (hc : vwCl[ci]? = some (y.cls, T, N)) (hci : ci < 20) (hn : As.length = a) (hR : rm.frames + 1 ≤ R.frames ∧ 8 + (maxL + 11) + rm.locals ≤ R.locals) (hC : k + rm.cells ≤ R.cells ∧ n + rm.slots ≤ R.slots) (hs : (st.map fun v => v.category).sum ≤ 8) (d : decode cc pc = .ok (.invokevirtual idx, 3)) (kk : ∀ (x : Bool) (M1 : Mem), Go p l e R s m args below meth c w nL (k + rm.cells) (n + rm.slots) Qf (o x M1) (pc + 3) L (.int (b2i x) :: st) M1) : Go p l e R s m args below meth c w nL k n Qf (bnd f o) pc L (As.reverse ++ .ref (wad w q) :: st) M := by
  intro r hr H locs ls hP hS hl
  cases f with
  | none => cases hr
  | some v =>
    obtain ⟨j, -, hj⟩ := wW_get (M := M) hq
    rw [cellE_obj hk hci] at hj
    refine va_calli (va_runV (As := As) (rest := st) ⟨g.1, g.2.1, g.2.2.1, g.2.2.2.1, g.2.2.2.2.1⟩ (hM v rfl) ⟨callB_of a g.2.2.2.2.1 (TT_gi cw.2.2.2.2.1) rfl rfl rfl (g.2.2.2.2.1 _ cw.2.2.2.1) (g.2.2.2.2.1 _ cw.1) cw.2.2.2.2.2 hR, g.2.2.2.2.1 _ cw.2.1, g.2.2.2.2.1 _ cw.2.2.1⟩ ⟨Wd.blind, va_recv g.2.2.2.2.2.1 hP hc hj, fun U hU hW => ⟨rfl, by rw [hU]; exact hP, va_K.moved hW.alike g.2.2.2.2.2.1, g.2.2.2.2.2.2.2.2.1, by rw [hU]; exact Nat.le_trans g.2.2.2.2.2.2.2.2.2 hS.1, Sx.step g.2.2.2.2.2.2.2.1 hS hU hW⟩⟩ rfl hn hl.1 rfl (lv_room hs) d hC) hS (fun _ _ h => h) (fun _ h => h) (fun x u t H1 locs1 ht hvm hw hB hz hkp hS1 => ?_)
    have hw : x = b2i v.1 := hw
    subst hw
    exact kk v.1 v.2 r hr H1 locs1 ls (by rw [← ht]; exact hB) hS1 hl
theorem G_cSZ (g : Gd p s m args meth c w nL cc own) {pc idx a maxL : Nat} {L : List (Nat × Value)} {st As : List Value} {M : Mem} {y : MethodName} {b : ByteArray} {rm : Room} {f : Option (Bool × Mem)} {o : Bool → Mem → Option ρ} (cw : CS own idx y b maxL (some .boolean) a) (hM : Ct QZ l y b maxL (some .boolean) rm w (As) M f) (hn : As.length = a) (hR : rm.frames + 1 ≤ R.frames ∧ 8 + (maxL + 11) + rm.locals ≤ R.locals) (hC : k + rm.cells ≤ R.cells ∧ n + rm.slots ≤ R.slots) (hs : (st.map fun v => v.category).sum ≤ 8) (d : decode cc pc = .ok (.invokestatic idx, 3)) (kk : ∀ (x : Bool) (M1 : Mem), Go p l e R s m args below meth c w nL (k + rm.cells) (n + rm.slots) Qf (o x M1) (pc + 3) L (.int (b2i x) :: st) M1) : Go p l e R s m args below meth c w nL k n Qf (bnd f o) pc L (As.reverse ++ st) M := by
  intro r hr H locs ls hP hS hl
  cases f with
  | none => cases hr
  | some v =>
    refine va_calli (va_runS (As := As) (rest := st) ⟨g.1, g.2.1, g.2.2.1, g.2.2.2.1, g.2.2.2.2.1⟩ (hM v rfl) ⟨callB_of a g.2.2.2.2.1 (TT_gi cw.2.2.2.1) rfl rfl rfl (g.2.2.2.2.1 _ cw.2.2.1) (g.2.2.2.2.1 _ cw.1) cw.2.2.2.2 hR, g.2.2.2.2.1 _ cw.2.1⟩ ⟨Wd.blind, fun U hU hW => ⟨rfl, by rw [hU]; exact hP, va_K.moved hW.alike g.2.2.2.2.2.1, g.2.2.2.2.2.2.2.2.1, by rw [hU]; exact Nat.le_trans g.2.2.2.2.2.2.2.2.2 hS.1, Sx.step g.2.2.2.2.2.2.2.1 hS hU hW⟩⟩ rfl hn hl.1 rfl (lv_room hs) d hC) hS (fun _ _ h => h) (fun _ h => h) (fun x u t H1 locs1 ht hvm hw hB hz hkp hS1 => ?_)
    have hw : x = b2i v.1 := hw
    subst hw
    exact kk v.1 v.2 r hr H1 locs1 ls (by rw [← ht]; exact hB) hS1 hl
theorem G_cVNZ (g : Gd p s m args meth c w nL cc own) {pc idx a maxL : Nat} {L : List (Nat × Value)} {st As : List Value} {M : Mem} {y : MethodName} {b : ByteArray} {rm : Room} {host : String} {q ci N : Nat} {T : u_T} {f : Option (Bool × Mem)} {o : Bool → Mem → Option ρ} (cw : CVN own idx host y b maxL (some .boolean) a) (hM : Ct QZ l y b maxL (some .boolean) rm w (.ref (wad w q) :: As) M f) (hq : q ∈ wL w) (hk : (wZ w q).1 = ci) (hc : vwCl[ci]? = some (y.cls, T, N)) (hci : ci < 20) (hn : As.length = a) (hR : rm.frames + 1 ≤ R.frames ∧ 8 + (maxL + 11) + rm.locals ≤ R.locals) (hC : k + rm.cells ≤ R.cells ∧ n + rm.slots ≤ R.slots) (hs : (st.map fun v => v.category).sum ≤ 8) (d : decode cc pc = .ok (.invokevirtual idx, 3)) (kk : ∀ (x : Bool) (M1 : Mem), Go p l e R s m args below meth c w nL (k + rm.cells) (n + rm.slots) Qf (o x M1) (pc + 3) L (.int (b2i x) :: st) M1) : Go p l e R s m args below meth c w nL k n Qf (bnd f o) pc L (As.reverse ++ .ref (wad w q) :: st) M := by
  intro r hr H locs ls hP hS hl
  cases f with
  | none => cases hr
  | some v =>
    obtain ⟨j, -, hj⟩ := wW_get (M := M) hq
    rw [cellE_obj hk hci] at hj
    refine va_calli (va_runVN (As := As) (rest := st) ⟨g.1, g.2.1, g.2.2.1, g.2.2.2.1, g.2.2.2.2.1⟩ (hM v rfl) ⟨va_cnB a g.2.2.2.2.1 (TT_gi cw.2.2.2.2.1) rfl rfl rfl (g.2.2.2.2.2.2.2.1.2.2.1 _ cw.1) (g.2.2.2.2.1 _ cw.2.2.2.1) cw.2.2.2.2.2 hR, g.2.2.2.2.1 _ cw.2.1, g.2.2.2.2.1 _ cw.2.2.1⟩ ⟨Wd.blind, va_recv g.2.2.2.2.2.1 hP hc hj, fun U hU hW => ⟨rfl, by rw [hU]; exact hP, va_K.moved hW.alike g.2.2.2.2.2.1, g.2.2.2.2.2.2.2.2.1, by rw [hU]; exact Nat.le_trans g.2.2.2.2.2.2.2.2.2 hS.1, Sx.step g.2.2.2.2.2.2.2.1 hS hU hW⟩⟩ rfl hn hl.1 rfl (lv_room hs) d hC) hS (fun _ _ h => h) (fun _ h => h) (fun x u t H1 locs1 ht hvm hw hB hz hkp hS1 => ?_)
    have hw : x = b2i v.1 := hw
    subst hw
    exact kk v.1 v.2 r hr H1 locs1 ls (by rw [← ht]; exact hB) hS1 hl
theorem G_cSNZ (g : Gd p s m args meth c w nL cc own) {pc idx a maxL : Nat} {L : List (Nat × Value)} {st As : List Value} {M : Mem} {y : MethodName} {b : ByteArray} {rm : Room} {host : String} {f : Option (Bool × Mem)} {o : Bool → Mem → Option ρ} (cw : CSN own idx host y b maxL (some .boolean) a) (hM : Ct QZ l y b maxL (some .boolean) rm w (As) M f) (hn : As.length = a) (hR : rm.frames + 1 ≤ R.frames ∧ 8 + (maxL + 11) + rm.locals ≤ R.locals) (hC : k + rm.cells ≤ R.cells ∧ n + rm.slots ≤ R.slots) (hs : (st.map fun v => v.category).sum ≤ 8) (d : decode cc pc = .ok (.invokestatic idx, 3)) (kk : ∀ (x : Bool) (M1 : Mem), Go p l e R s m args below meth c w nL (k + rm.cells) (n + rm.slots) Qf (o x M1) (pc + 3) L (.int (b2i x) :: st) M1) : Go p l e R s m args below meth c w nL k n Qf (bnd f o) pc L (As.reverse ++ st) M := by
  intro r hr H locs ls hP hS hl
  cases f with
  | none => cases hr
  | some v =>
    refine va_calli (va_runSN (As := As) (rest := st) ⟨g.1, g.2.1, g.2.2.1, g.2.2.2.1, g.2.2.2.2.1⟩ (hM v rfl) ⟨va_cnB a g.2.2.2.2.1 (TT_gi cw.2.2.2.1) rfl rfl rfl (g.2.2.2.2.2.2.2.1.2.2.1 _ cw.1) (g.2.2.2.2.1 _ cw.2.2.1) cw.2.2.2.2 hR, g.2.2.2.2.1 _ cw.2.1, trivial⟩ ⟨Wd.blind, fun U hU hW => ⟨rfl, by rw [hU]; exact hP, va_K.moved hW.alike g.2.2.2.2.2.1, g.2.2.2.2.2.2.2.2.1, by rw [hU]; exact Nat.le_trans g.2.2.2.2.2.2.2.2.2 hS.1, Sx.step g.2.2.2.2.2.2.2.1 hS hU hW⟩⟩ rfl hn hl.1 rfl (lv_room hs) d hC) hS (fun _ _ h => h) (fun _ h => h) (fun x u t H1 locs1 ht hvm hw hB hz hkp hS1 => ?_)
    have hw : x = b2i v.1 := hw
    subst hw
    exact kk v.1 v.2 r hr H1 locs1 ls (by rw [← ht]; exact hB) hS1 hl
theorem G_cVV (g : Gd p s m args meth c w nL cc own) {pc idx a maxL : Nat} {L : List (Nat × Value)} {st As : List Value} {M : Mem} {y : MethodName} {b : ByteArray} {rm : Room} {q ci N : Nat} {T : u_T} {f : Option (Mem)} {o : Mem → Option ρ} (cw : CV own idx y b maxL none a) (hM : Ct QV l y b maxL none rm w (.ref (wad w q) :: As) M f) (hq : q ∈ wL w) (hk : (wZ w q).1 = ci) (hc : vwCl[ci]? = some (y.cls, T, N)) (hci : ci < 20) (hn : As.length = a) (hR : rm.frames + 1 ≤ R.frames ∧ 8 + (maxL + 11) + rm.locals ≤ R.locals) (hC : k + rm.cells ≤ R.cells ∧ n + rm.slots ≤ R.slots) (hs : (st.map fun v => v.category).sum ≤ 8) (d : decode cc pc = .ok (.invokevirtual idx, 3)) (kk : ∀ (M1 : Mem), Go p l e R s m args below meth c w nL (k + rm.cells) (n + rm.slots) Qf (o M1) (pc + 3) L (st) M1) : Go p l e R s m args below meth c w nL k n Qf (bndM f o) pc L (As.reverse ++ .ref (wad w q) :: st) M := by
  intro r hr H locs ls hP hS hl
  cases f with
  | none => cases hr
  | some v =>
    obtain ⟨j, -, hj⟩ := wW_get (M := M) hq
    rw [cellE_obj hk hci] at hj
    refine va_callv (va_runV (As := As) (rest := st) ⟨g.1, g.2.1, g.2.2.1, g.2.2.2.1, g.2.2.2.2.1⟩ (hM v rfl) ⟨callB_of a g.2.2.2.2.1 (TT_gi cw.2.2.2.2.1) rfl rfl rfl (g.2.2.2.2.1 _ cw.2.2.2.1) (g.2.2.2.2.1 _ cw.1) cw.2.2.2.2.2 hR, g.2.2.2.2.1 _ cw.2.1, g.2.2.2.2.1 _ cw.2.2.1⟩ ⟨Wd.blind, va_recv g.2.2.2.2.2.1 hP hc hj, fun U hU hW => ⟨rfl, by rw [hU]; exact hP, va_K.moved hW.alike g.2.2.2.2.2.1, g.2.2.2.2.2.2.2.2.1, by rw [hU]; exact Nat.le_trans g.2.2.2.2.2.2.2.2.2 hS.1, Sx.step g.2.2.2.2.2.2.2.1 hS hU hW⟩⟩ rfl hn hl.1 rfl (lv_room hs) d hC) hS (fun _ _ h => h) (fun _ h => h) (fun u t H1 locs1 ht hvm hw hB hz hkp hS1 => ?_)
    exact kk v r hr H1 locs1 ls (by rw [← ht]; exact hB) hS1 hl
theorem G_cSV (g : Gd p s m args meth c w nL cc own) {pc idx a maxL : Nat} {L : List (Nat × Value)} {st As : List Value} {M : Mem} {y : MethodName} {b : ByteArray} {rm : Room} {f : Option (Mem)} {o : Mem → Option ρ} (cw : CS own idx y b maxL none a) (hM : Ct QV l y b maxL none rm w (As) M f) (hn : As.length = a) (hR : rm.frames + 1 ≤ R.frames ∧ 8 + (maxL + 11) + rm.locals ≤ R.locals) (hC : k + rm.cells ≤ R.cells ∧ n + rm.slots ≤ R.slots) (hs : (st.map fun v => v.category).sum ≤ 8) (d : decode cc pc = .ok (.invokestatic idx, 3)) (kk : ∀ (M1 : Mem), Go p l e R s m args below meth c w nL (k + rm.cells) (n + rm.slots) Qf (o M1) (pc + 3) L (st) M1) : Go p l e R s m args below meth c w nL k n Qf (bndM f o) pc L (As.reverse ++ st) M := by
  intro r hr H locs ls hP hS hl
  cases f with
  | none => cases hr
  | some v =>
    refine va_callv (va_runS (As := As) (rest := st) ⟨g.1, g.2.1, g.2.2.1, g.2.2.2.1, g.2.2.2.2.1⟩ (hM v rfl) ⟨callB_of a g.2.2.2.2.1 (TT_gi cw.2.2.2.1) rfl rfl rfl (g.2.2.2.2.1 _ cw.2.2.1) (g.2.2.2.2.1 _ cw.1) cw.2.2.2.2 hR, g.2.2.2.2.1 _ cw.2.1⟩ ⟨Wd.blind, fun U hU hW => ⟨rfl, by rw [hU]; exact hP, va_K.moved hW.alike g.2.2.2.2.2.1, g.2.2.2.2.2.2.2.2.1, by rw [hU]; exact Nat.le_trans g.2.2.2.2.2.2.2.2.2 hS.1, Sx.step g.2.2.2.2.2.2.2.1 hS hU hW⟩⟩ rfl hn hl.1 rfl (lv_room hs) d hC) hS (fun _ _ h => h) (fun _ h => h) (fun u t H1 locs1 ht hvm hw hB hz hkp hS1 => ?_)
    exact kk v r hr H1 locs1 ls (by rw [← ht]; exact hB) hS1 hl
theorem G_cVNV (g : Gd p s m args meth c w nL cc own) {pc idx a maxL : Nat} {L : List (Nat × Value)} {st As : List Value} {M : Mem} {y : MethodName} {b : ByteArray} {rm : Room} {host : String} {q ci N : Nat} {T : u_T} {f : Option (Mem)} {o : Mem → Option ρ} (cw : CVN own idx host y b maxL none a) (hM : Ct QV l y b maxL none rm w (.ref (wad w q) :: As) M f) (hq : q ∈ wL w) (hk : (wZ w q).1 = ci) (hc : vwCl[ci]? = some (y.cls, T, N)) (hci : ci < 20) (hn : As.length = a) (hR : rm.frames + 1 ≤ R.frames ∧ 8 + (maxL + 11) + rm.locals ≤ R.locals) (hC : k + rm.cells ≤ R.cells ∧ n + rm.slots ≤ R.slots) (hs : (st.map fun v => v.category).sum ≤ 8) (d : decode cc pc = .ok (.invokevirtual idx, 3)) (kk : ∀ (M1 : Mem), Go p l e R s m args below meth c w nL (k + rm.cells) (n + rm.slots) Qf (o M1) (pc + 3) L (st) M1) : Go p l e R s m args below meth c w nL k n Qf (bndM f o) pc L (As.reverse ++ .ref (wad w q) :: st) M := by
  intro r hr H locs ls hP hS hl
  cases f with
  | none => cases hr
  | some v =>
    obtain ⟨j, -, hj⟩ := wW_get (M := M) hq
    rw [cellE_obj hk hci] at hj
    refine va_callv (va_runVN (As := As) (rest := st) ⟨g.1, g.2.1, g.2.2.1, g.2.2.2.1, g.2.2.2.2.1⟩ (hM v rfl) ⟨va_cnB a g.2.2.2.2.1 (TT_gi cw.2.2.2.2.1) rfl rfl rfl (g.2.2.2.2.2.2.2.1.2.2.1 _ cw.1) (g.2.2.2.2.1 _ cw.2.2.2.1) cw.2.2.2.2.2 hR, g.2.2.2.2.1 _ cw.2.1, g.2.2.2.2.1 _ cw.2.2.1⟩ ⟨Wd.blind, va_recv g.2.2.2.2.2.1 hP hc hj, fun U hU hW => ⟨rfl, by rw [hU]; exact hP, va_K.moved hW.alike g.2.2.2.2.2.1, g.2.2.2.2.2.2.2.2.1, by rw [hU]; exact Nat.le_trans g.2.2.2.2.2.2.2.2.2 hS.1, Sx.step g.2.2.2.2.2.2.2.1 hS hU hW⟩⟩ rfl hn hl.1 rfl (lv_room hs) d hC) hS (fun _ _ h => h) (fun _ h => h) (fun u t H1 locs1 ht hvm hw hB hz hkp hS1 => ?_)
    exact kk v r hr H1 locs1 ls (by rw [← ht]; exact hB) hS1 hl
theorem G_cSNV (g : Gd p s m args meth c w nL cc own) {pc idx a maxL : Nat} {L : List (Nat × Value)} {st As : List Value} {M : Mem} {y : MethodName} {b : ByteArray} {rm : Room} {host : String} {f : Option (Mem)} {o : Mem → Option ρ} (cw : CSN own idx host y b maxL none a) (hM : Ct QV l y b maxL none rm w (As) M f) (hn : As.length = a) (hR : rm.frames + 1 ≤ R.frames ∧ 8 + (maxL + 11) + rm.locals ≤ R.locals) (hC : k + rm.cells ≤ R.cells ∧ n + rm.slots ≤ R.slots) (hs : (st.map fun v => v.category).sum ≤ 8) (d : decode cc pc = .ok (.invokestatic idx, 3)) (kk : ∀ (M1 : Mem), Go p l e R s m args below meth c w nL (k + rm.cells) (n + rm.slots) Qf (o M1) (pc + 3) L (st) M1) : Go p l e R s m args below meth c w nL k n Qf (bndM f o) pc L (As.reverse ++ st) M := by
  intro r hr H locs ls hP hS hl
  cases f with
  | none => cases hr
  | some v =>
    refine va_callv (va_runSN (As := As) (rest := st) ⟨g.1, g.2.1, g.2.2.1, g.2.2.2.1, g.2.2.2.2.1⟩ (hM v rfl) ⟨va_cnB a g.2.2.2.2.1 (TT_gi cw.2.2.2.1) rfl rfl rfl (g.2.2.2.2.2.2.2.1.2.2.1 _ cw.1) (g.2.2.2.2.1 _ cw.2.2.1) cw.2.2.2.2 hR, g.2.2.2.2.1 _ cw.2.1, trivial⟩ ⟨Wd.blind, fun U hU hW => ⟨rfl, by rw [hU]; exact hP, va_K.moved hW.alike g.2.2.2.2.2.1, g.2.2.2.2.2.2.2.2.1, by rw [hU]; exact Nat.le_trans g.2.2.2.2.2.2.2.2.2 hS.1, Sx.step g.2.2.2.2.2.2.2.1 hS hU hW⟩⟩ rfl hn hl.1 rfl (lv_room hs) d hC) hS (fun _ _ h => h) (fun _ h => h) (fun u t H1 locs1 ht hvm hw hB hz hkp hS1 => ?_)
    exact kk v r hr H1 locs1 ls (by rw [← ht]; exact hB) hS1 hl
theorem G_cVR (g : Gd p s m args meth c w nL cc own) {pc idx a maxL : Nat} {L : List (Nat × Value)} {st As : List Value} {M : Mem} {y : MethodName} {b : ByteArray} {rm : Room} {q ci N : Nat} {T : u_T} {rn : String} {f : Option (Option Nat × Mem)} {o : Option Nat → Mem → Option ρ} (cw : CV own idx y b maxL (some (.object rn)) a) (hM : Ct QR l y b maxL (some (.object rn)) rm w (.ref (wad w q) :: As) M f) (hq : q ∈ wL w) (hk : (wZ w q).1 = ci) (hc : vwCl[ci]? = some (y.cls, T, N)) (hci : ci < 20) (hn : As.length = a) (hR : rm.frames + 1 ≤ R.frames ∧ 8 + (maxL + 11) + rm.locals ≤ R.locals) (hC : k + rm.cells ≤ R.cells ∧ n + rm.slots ≤ R.slots) (hs : (st.map fun v => v.category).sum ≤ 8) (d : decode cc pc = .ok (.invokevirtual idx, 3)) (kk : ∀ (x : Option Nat) (M1 : Mem), Go p l e R s m args below meth c w nL (k + rm.cells) (n + rm.slots) Qf (o x M1) (pc + 3) L (va_rf (x.map (wad w)) :: st) M1) : Go p l e R s m args below meth c w nL k n Qf (bnd f o) pc L (As.reverse ++ .ref (wad w q) :: st) M := by
  intro r hr H locs ls hP hS hl
  cases f with
  | none => cases hr
  | some v =>
    obtain ⟨j, -, hj⟩ := wW_get (M := M) hq
    rw [cellE_obj hk hci] at hj
    refine va_callq (va_runV (As := As) (rest := st) ⟨g.1, g.2.1, g.2.2.1, g.2.2.2.1, g.2.2.2.2.1⟩ (hM v rfl) ⟨callB_of a g.2.2.2.2.1 (TT_gi cw.2.2.2.2.1) rfl rfl rfl (g.2.2.2.2.1 _ cw.2.2.2.1) (g.2.2.2.2.1 _ cw.1) cw.2.2.2.2.2 hR, g.2.2.2.2.1 _ cw.2.1, g.2.2.2.2.1 _ cw.2.2.1⟩ ⟨Wd.blind, va_recv g.2.2.2.2.2.1 hP hc hj, fun U hU hW => ⟨rfl, by rw [hU]; exact hP, va_K.moved hW.alike g.2.2.2.2.2.1, g.2.2.2.2.2.2.2.2.1, by rw [hU]; exact Nat.le_trans g.2.2.2.2.2.2.2.2.2 hS.1, Sx.step g.2.2.2.2.2.2.2.1 hS hU hW⟩⟩ rfl hn hl.1 rfl (lv_room hs) d hC) hS (fun _ _ h => h) (fun _ h => h) (fun x u t H1 locs1 ht hvm hw hB hz hkp hS1 => ?_)
    have hw : x = v.1.map (wad w) := hw
    subst hw
    exact kk v.1 v.2 r hr H1 locs1 ls (by rw [← ht]; exact hB) hS1 hl
theorem G_cSR (g : Gd p s m args meth c w nL cc own) {pc idx a maxL : Nat} {L : List (Nat × Value)} {st As : List Value} {M : Mem} {y : MethodName} {b : ByteArray} {rm : Room} {rn : String} {f : Option (Option Nat × Mem)} {o : Option Nat → Mem → Option ρ} (cw : CS own idx y b maxL (some (.object rn)) a) (hM : Ct QR l y b maxL (some (.object rn)) rm w (As) M f) (hn : As.length = a) (hR : rm.frames + 1 ≤ R.frames ∧ 8 + (maxL + 11) + rm.locals ≤ R.locals) (hC : k + rm.cells ≤ R.cells ∧ n + rm.slots ≤ R.slots) (hs : (st.map fun v => v.category).sum ≤ 8) (d : decode cc pc = .ok (.invokestatic idx, 3)) (kk : ∀ (x : Option Nat) (M1 : Mem), Go p l e R s m args below meth c w nL (k + rm.cells) (n + rm.slots) Qf (o x M1) (pc + 3) L (va_rf (x.map (wad w)) :: st) M1) : Go p l e R s m args below meth c w nL k n Qf (bnd f o) pc L (As.reverse ++ st) M := by
  intro r hr H locs ls hP hS hl
  cases f with
  | none => cases hr
  | some v =>
    refine va_callq (va_runS (As := As) (rest := st) ⟨g.1, g.2.1, g.2.2.1, g.2.2.2.1, g.2.2.2.2.1⟩ (hM v rfl) ⟨callB_of a g.2.2.2.2.1 (TT_gi cw.2.2.2.1) rfl rfl rfl (g.2.2.2.2.1 _ cw.2.2.1) (g.2.2.2.2.1 _ cw.1) cw.2.2.2.2 hR, g.2.2.2.2.1 _ cw.2.1⟩ ⟨Wd.blind, fun U hU hW => ⟨rfl, by rw [hU]; exact hP, va_K.moved hW.alike g.2.2.2.2.2.1, g.2.2.2.2.2.2.2.2.1, by rw [hU]; exact Nat.le_trans g.2.2.2.2.2.2.2.2.2 hS.1, Sx.step g.2.2.2.2.2.2.2.1 hS hU hW⟩⟩ rfl hn hl.1 rfl (lv_room hs) d hC) hS (fun _ _ h => h) (fun _ h => h) (fun x u t H1 locs1 ht hvm hw hB hz hkp hS1 => ?_)
    have hw : x = v.1.map (wad w) := hw
    subst hw
    exact kk v.1 v.2 r hr H1 locs1 ls (by rw [← ht]; exact hB) hS1 hl
theorem G_cVNR (g : Gd p s m args meth c w nL cc own) {pc idx a maxL : Nat} {L : List (Nat × Value)} {st As : List Value} {M : Mem} {y : MethodName} {b : ByteArray} {rm : Room} {host : String} {q ci N : Nat} {T : u_T} {rn : String} {f : Option (Option Nat × Mem)} {o : Option Nat → Mem → Option ρ} (cw : CVN own idx host y b maxL (some (.object rn)) a) (hM : Ct QR l y b maxL (some (.object rn)) rm w (.ref (wad w q) :: As) M f) (hq : q ∈ wL w) (hk : (wZ w q).1 = ci) (hc : vwCl[ci]? = some (y.cls, T, N)) (hci : ci < 20) (hn : As.length = a) (hR : rm.frames + 1 ≤ R.frames ∧ 8 + (maxL + 11) + rm.locals ≤ R.locals) (hC : k + rm.cells ≤ R.cells ∧ n + rm.slots ≤ R.slots) (hs : (st.map fun v => v.category).sum ≤ 8) (d : decode cc pc = .ok (.invokevirtual idx, 3)) (kk : ∀ (x : Option Nat) (M1 : Mem), Go p l e R s m args below meth c w nL (k + rm.cells) (n + rm.slots) Qf (o x M1) (pc + 3) L (va_rf (x.map (wad w)) :: st) M1) : Go p l e R s m args below meth c w nL k n Qf (bnd f o) pc L (As.reverse ++ .ref (wad w q) :: st) M := by
  intro r hr H locs ls hP hS hl
  cases f with
  | none => cases hr
  | some v =>
    obtain ⟨j, -, hj⟩ := wW_get (M := M) hq
    rw [cellE_obj hk hci] at hj
    refine va_callq (va_runVN (As := As) (rest := st) ⟨g.1, g.2.1, g.2.2.1, g.2.2.2.1, g.2.2.2.2.1⟩ (hM v rfl) ⟨va_cnB a g.2.2.2.2.1 (TT_gi cw.2.2.2.2.1) rfl rfl rfl (g.2.2.2.2.2.2.2.1.2.2.1 _ cw.1) (g.2.2.2.2.1 _ cw.2.2.2.1) cw.2.2.2.2.2 hR, g.2.2.2.2.1 _ cw.2.1, g.2.2.2.2.1 _ cw.2.2.1⟩ ⟨Wd.blind, va_recv g.2.2.2.2.2.1 hP hc hj, fun U hU hW => ⟨rfl, by rw [hU]; exact hP, va_K.moved hW.alike g.2.2.2.2.2.1, g.2.2.2.2.2.2.2.2.1, by rw [hU]; exact Nat.le_trans g.2.2.2.2.2.2.2.2.2 hS.1, Sx.step g.2.2.2.2.2.2.2.1 hS hU hW⟩⟩ rfl hn hl.1 rfl (lv_room hs) d hC) hS (fun _ _ h => h) (fun _ h => h) (fun x u t H1 locs1 ht hvm hw hB hz hkp hS1 => ?_)
    have hw : x = v.1.map (wad w) := hw
    subst hw
    exact kk v.1 v.2 r hr H1 locs1 ls (by rw [← ht]; exact hB) hS1 hl
theorem G_cSNR (g : Gd p s m args meth c w nL cc own) {pc idx a maxL : Nat} {L : List (Nat × Value)} {st As : List Value} {M : Mem} {y : MethodName} {b : ByteArray} {rm : Room} {host : String} {rn : String} {f : Option (Option Nat × Mem)} {o : Option Nat → Mem → Option ρ} (cw : CSN own idx host y b maxL (some (.object rn)) a) (hM : Ct QR l y b maxL (some (.object rn)) rm w (As) M f) (hn : As.length = a) (hR : rm.frames + 1 ≤ R.frames ∧ 8 + (maxL + 11) + rm.locals ≤ R.locals) (hC : k + rm.cells ≤ R.cells ∧ n + rm.slots ≤ R.slots) (hs : (st.map fun v => v.category).sum ≤ 8) (d : decode cc pc = .ok (.invokestatic idx, 3)) (kk : ∀ (x : Option Nat) (M1 : Mem), Go p l e R s m args below meth c w nL (k + rm.cells) (n + rm.slots) Qf (o x M1) (pc + 3) L (va_rf (x.map (wad w)) :: st) M1) : Go p l e R s m args below meth c w nL k n Qf (bnd f o) pc L (As.reverse ++ st) M := by
  intro r hr H locs ls hP hS hl
  cases f with
  | none => cases hr
  | some v =>
    refine va_callq (va_runSN (As := As) (rest := st) ⟨g.1, g.2.1, g.2.2.1, g.2.2.2.1, g.2.2.2.2.1⟩ (hM v rfl) ⟨va_cnB a g.2.2.2.2.1 (TT_gi cw.2.2.2.1) rfl rfl rfl (g.2.2.2.2.2.2.2.1.2.2.1 _ cw.1) (g.2.2.2.2.1 _ cw.2.2.1) cw.2.2.2.2 hR, g.2.2.2.2.1 _ cw.2.1, trivial⟩ ⟨Wd.blind, fun U hU hW => ⟨rfl, by rw [hU]; exact hP, va_K.moved hW.alike g.2.2.2.2.2.1, g.2.2.2.2.2.2.2.2.1, by rw [hU]; exact Nat.le_trans g.2.2.2.2.2.2.2.2.2 hS.1, Sx.step g.2.2.2.2.2.2.2.1 hS hU hW⟩⟩ rfl hn hl.1 rfl (lv_room hs) d hC) hS (fun _ _ h => h) (fun _ h => h) (fun x u t H1 locs1 ht hvm hw hB hz hkp hS1 => ?_)
    have hw : x = v.1.map (wad w) := hw
    subst hw
    exact kk v.1 v.2 r hr H1 locs1 ls (by rw [← ht]; exact hB) hS1 hl
theorem G_cVD (g : Gd p s m args meth c w nL cc own) {pc idx a maxL : Nat} {L : List (Nat × Value)} {st As : List Value} {M : Mem} {y : MethodName} {b : ByteArray} {rm : Room} {q ci N : Nat} {T : u_T} {f : Option (UInt64 × Mem)} {o : UInt64 → Mem → Option ρ} (cw : CV own idx y b maxL (some .double) a) (hM : Ct QD l y b maxL (some .double) rm w (.ref (wad w q) :: As) M f) (hq : q ∈ wL w) (hk : (wZ w q).1 = ci) (hc : vwCl[ci]? = some (y.cls, T, N)) (hci : ci < 20) (hn : As.length = a) (hR : rm.frames + 1 ≤ R.frames ∧ 8 + (maxL + 11) + rm.locals ≤ R.locals) (hC : k + rm.cells ≤ R.cells ∧ n + rm.slots ≤ R.slots) (hs : (st.map fun v => v.category).sum ≤ 8) (d : decode cc pc = .ok (.invokevirtual idx, 3)) (kk : ∀ (x : UInt64) (M1 : Mem), Go p l e R s m args below meth c w nL (k + rm.cells) (n + rm.slots) Qf (o x M1) (pc + 3) L (.double x :: st) M1) : Go p l e R s m args below meth c w nL k n Qf (bnd f o) pc L (As.reverse ++ .ref (wad w q) :: st) M := by
  intro r hr H locs ls hP hS hl
  cases f with
  | none => cases hr
  | some v =>
    obtain ⟨j, -, hj⟩ := wW_get (M := M) hq
    rw [cellE_obj hk hci] at hj
    refine va_calld (va_runV (As := As) (rest := st) ⟨g.1, g.2.1, g.2.2.1, g.2.2.2.1, g.2.2.2.2.1⟩ (hM v rfl) ⟨callB_of a g.2.2.2.2.1 (TT_gi cw.2.2.2.2.1) rfl rfl rfl (g.2.2.2.2.1 _ cw.2.2.2.1) (g.2.2.2.2.1 _ cw.1) cw.2.2.2.2.2 hR, g.2.2.2.2.1 _ cw.2.1, g.2.2.2.2.1 _ cw.2.2.1⟩ ⟨Wd.blind, va_recv g.2.2.2.2.2.1 hP hc hj, fun U hU hW => ⟨rfl, by rw [hU]; exact hP, va_K.moved hW.alike g.2.2.2.2.2.1, g.2.2.2.2.2.2.2.2.1, by rw [hU]; exact Nat.le_trans g.2.2.2.2.2.2.2.2.2 hS.1, Sx.step g.2.2.2.2.2.2.2.1 hS hU hW⟩⟩ rfl hn hl.1 rfl (lv_room hs) d hC) hS (fun _ _ h => h) (fun _ h => h) (fun x u t H1 locs1 ht hvm hw hB hz hkp hS1 => ?_)
    have hw : x = v.1 := hw
    subst hw
    exact kk v.1 v.2 r hr H1 locs1 ls (by rw [← ht]; exact hB) hS1 hl
theorem G_cSD (g : Gd p s m args meth c w nL cc own) {pc idx a maxL : Nat} {L : List (Nat × Value)} {st As : List Value} {M : Mem} {y : MethodName} {b : ByteArray} {rm : Room} {f : Option (UInt64 × Mem)} {o : UInt64 → Mem → Option ρ} (cw : CS own idx y b maxL (some .double) a) (hM : Ct QD l y b maxL (some .double) rm w (As) M f) (hn : As.length = a) (hR : rm.frames + 1 ≤ R.frames ∧ 8 + (maxL + 11) + rm.locals ≤ R.locals) (hC : k + rm.cells ≤ R.cells ∧ n + rm.slots ≤ R.slots) (hs : (st.map fun v => v.category).sum ≤ 8) (d : decode cc pc = .ok (.invokestatic idx, 3)) (kk : ∀ (x : UInt64) (M1 : Mem), Go p l e R s m args below meth c w nL (k + rm.cells) (n + rm.slots) Qf (o x M1) (pc + 3) L (.double x :: st) M1) : Go p l e R s m args below meth c w nL k n Qf (bnd f o) pc L (As.reverse ++ st) M := by
  intro r hr H locs ls hP hS hl
  cases f with
  | none => cases hr
  | some v =>
    refine va_calld (va_runS (As := As) (rest := st) ⟨g.1, g.2.1, g.2.2.1, g.2.2.2.1, g.2.2.2.2.1⟩ (hM v rfl) ⟨callB_of a g.2.2.2.2.1 (TT_gi cw.2.2.2.1) rfl rfl rfl (g.2.2.2.2.1 _ cw.2.2.1) (g.2.2.2.2.1 _ cw.1) cw.2.2.2.2 hR, g.2.2.2.2.1 _ cw.2.1⟩ ⟨Wd.blind, fun U hU hW => ⟨rfl, by rw [hU]; exact hP, va_K.moved hW.alike g.2.2.2.2.2.1, g.2.2.2.2.2.2.2.2.1, by rw [hU]; exact Nat.le_trans g.2.2.2.2.2.2.2.2.2 hS.1, Sx.step g.2.2.2.2.2.2.2.1 hS hU hW⟩⟩ rfl hn hl.1 rfl (lv_room hs) d hC) hS (fun _ _ h => h) (fun _ h => h) (fun x u t H1 locs1 ht hvm hw hB hz hkp hS1 => ?_)
    have hw : x = v.1 := hw
    subst hw
    exact kk v.1 v.2 r hr H1 locs1 ls (by rw [← ht]; exact hB) hS1 hl
theorem G_cVND (g : Gd p s m args meth c w nL cc own) {pc idx a maxL : Nat} {L : List (Nat × Value)} {st As : List Value} {M : Mem} {y : MethodName} {b : ByteArray} {rm : Room} {host : String} {q ci N : Nat} {T : u_T} {f : Option (UInt64 × Mem)} {o : UInt64 → Mem → Option ρ} (cw : CVN own idx host y b maxL (some .double) a) (hM : Ct QD l y b maxL (some .double) rm w (.ref (wad w q) :: As) M f) (hq : q ∈ wL w) (hk : (wZ w q).1 = ci) (hc : vwCl[ci]? = some (y.cls, T, N)) (hci : ci < 20) (hn : As.length = a) (hR : rm.frames + 1 ≤ R.frames ∧ 8 + (maxL + 11) + rm.locals ≤ R.locals) (hC : k + rm.cells ≤ R.cells ∧ n + rm.slots ≤ R.slots) (hs : (st.map fun v => v.category).sum ≤ 8) (d : decode cc pc = .ok (.invokevirtual idx, 3)) (kk : ∀ (x : UInt64) (M1 : Mem), Go p l e R s m args below meth c w nL (k + rm.cells) (n + rm.slots) Qf (o x M1) (pc + 3) L (.double x :: st) M1) : Go p l e R s m args below meth c w nL k n Qf (bnd f o) pc L (As.reverse ++ .ref (wad w q) :: st) M := by
  intro r hr H locs ls hP hS hl
  cases f with
  | none => cases hr
  | some v =>
    obtain ⟨j, -, hj⟩ := wW_get (M := M) hq
    rw [cellE_obj hk hci] at hj
    refine va_calld (va_runVN (As := As) (rest := st) ⟨g.1, g.2.1, g.2.2.1, g.2.2.2.1, g.2.2.2.2.1⟩ (hM v rfl) ⟨va_cnB a g.2.2.2.2.1 (TT_gi cw.2.2.2.2.1) rfl rfl rfl (g.2.2.2.2.2.2.2.1.2.2.1 _ cw.1) (g.2.2.2.2.1 _ cw.2.2.2.1) cw.2.2.2.2.2 hR, g.2.2.2.2.1 _ cw.2.1, g.2.2.2.2.1 _ cw.2.2.1⟩ ⟨Wd.blind, va_recv g.2.2.2.2.2.1 hP hc hj, fun U hU hW => ⟨rfl, by rw [hU]; exact hP, va_K.moved hW.alike g.2.2.2.2.2.1, g.2.2.2.2.2.2.2.2.1, by rw [hU]; exact Nat.le_trans g.2.2.2.2.2.2.2.2.2 hS.1, Sx.step g.2.2.2.2.2.2.2.1 hS hU hW⟩⟩ rfl hn hl.1 rfl (lv_room hs) d hC) hS (fun _ _ h => h) (fun _ h => h) (fun x u t H1 locs1 ht hvm hw hB hz hkp hS1 => ?_)
    have hw : x = v.1 := hw
    subst hw
    exact kk v.1 v.2 r hr H1 locs1 ls (by rw [← ht]; exact hB) hS1 hl
theorem G_cSND (g : Gd p s m args meth c w nL cc own) {pc idx a maxL : Nat} {L : List (Nat × Value)} {st As : List Value} {M : Mem} {y : MethodName} {b : ByteArray} {rm : Room} {host : String} {f : Option (UInt64 × Mem)} {o : UInt64 → Mem → Option ρ} (cw : CSN own idx host y b maxL (some .double) a) (hM : Ct QD l y b maxL (some .double) rm w (As) M f) (hn : As.length = a) (hR : rm.frames + 1 ≤ R.frames ∧ 8 + (maxL + 11) + rm.locals ≤ R.locals) (hC : k + rm.cells ≤ R.cells ∧ n + rm.slots ≤ R.slots) (hs : (st.map fun v => v.category).sum ≤ 8) (d : decode cc pc = .ok (.invokestatic idx, 3)) (kk : ∀ (x : UInt64) (M1 : Mem), Go p l e R s m args below meth c w nL (k + rm.cells) (n + rm.slots) Qf (o x M1) (pc + 3) L (.double x :: st) M1) : Go p l e R s m args below meth c w nL k n Qf (bnd f o) pc L (As.reverse ++ st) M := by
  intro r hr H locs ls hP hS hl
  cases f with
  | none => cases hr
  | some v =>
    refine va_calld (va_runSN (As := As) (rest := st) ⟨g.1, g.2.1, g.2.2.1, g.2.2.2.1, g.2.2.2.2.1⟩ (hM v rfl) ⟨va_cnB a g.2.2.2.2.1 (TT_gi cw.2.2.2.1) rfl rfl rfl (g.2.2.2.2.2.2.2.1.2.2.1 _ cw.1) (g.2.2.2.2.1 _ cw.2.2.1) cw.2.2.2.2 hR, g.2.2.2.2.1 _ cw.2.1, trivial⟩ ⟨Wd.blind, fun U hU hW => ⟨rfl, by rw [hU]; exact hP, va_K.moved hW.alike g.2.2.2.2.2.1, g.2.2.2.2.2.2.2.2.1, by rw [hU]; exact Nat.le_trans g.2.2.2.2.2.2.2.2.2 hS.1, Sx.step g.2.2.2.2.2.2.2.1 hS hU hW⟩⟩ rfl hn hl.1 rfl (lv_room hs) d hC) hS (fun _ _ h => h) (fun _ h => h) (fun x u t H1 locs1 ht hvm hw hB hz hkp hS1 => ?_)
    have hw : x = v.1 := hw
    subst hw
    exact kk v.1 v.2 r hr H1 locs1 ls (by rw [← ht]; exact hB) hS1 hl
theorem G_cVF (g : Gd p s m args meth c w nL cc own) {pc idx a maxL : Nat} {L : List (Nat × Value)} {st As : List Value} {M : Mem} {y : MethodName} {b : ByteArray} {rm : Room} {q ci N : Nat} {T : u_T} {f : Option (UInt32 × Mem)} {o : UInt32 → Mem → Option ρ} (cw : CV own idx y b maxL (some .float) a) (hM : Ct QF l y b maxL (some .float) rm w (.ref (wad w q) :: As) M f) (hq : q ∈ wL w) (hk : (wZ w q).1 = ci) (hc : vwCl[ci]? = some (y.cls, T, N)) (hci : ci < 20) (hn : As.length = a) (hR : rm.frames + 1 ≤ R.frames ∧ 8 + (maxL + 11) + rm.locals ≤ R.locals) (hC : k + rm.cells ≤ R.cells ∧ n + rm.slots ≤ R.slots) (hs : (st.map fun v => v.category).sum ≤ 8) (d : decode cc pc = .ok (.invokevirtual idx, 3)) (kk : ∀ (x : UInt32) (M1 : Mem), Go p l e R s m args below meth c w nL (k + rm.cells) (n + rm.slots) Qf (o x M1) (pc + 3) L (.float x :: st) M1) : Go p l e R s m args below meth c w nL k n Qf (bnd f o) pc L (As.reverse ++ .ref (wad w q) :: st) M := by
  intro r hr H locs ls hP hS hl
  cases f with
  | none => cases hr
  | some v =>
    obtain ⟨j, -, hj⟩ := wW_get (M := M) hq
    rw [cellE_obj hk hci] at hj
    refine va_callf (va_runV (As := As) (rest := st) ⟨g.1, g.2.1, g.2.2.1, g.2.2.2.1, g.2.2.2.2.1⟩ (hM v rfl) ⟨callB_of a g.2.2.2.2.1 (TT_gi cw.2.2.2.2.1) rfl rfl rfl (g.2.2.2.2.1 _ cw.2.2.2.1) (g.2.2.2.2.1 _ cw.1) cw.2.2.2.2.2 hR, g.2.2.2.2.1 _ cw.2.1, g.2.2.2.2.1 _ cw.2.2.1⟩ ⟨Wd.blind, va_recv g.2.2.2.2.2.1 hP hc hj, fun U hU hW => ⟨rfl, by rw [hU]; exact hP, va_K.moved hW.alike g.2.2.2.2.2.1, g.2.2.2.2.2.2.2.2.1, by rw [hU]; exact Nat.le_trans g.2.2.2.2.2.2.2.2.2 hS.1, Sx.step g.2.2.2.2.2.2.2.1 hS hU hW⟩⟩ rfl hn hl.1 rfl (lv_room hs) d hC) hS (fun _ _ h => h) (fun _ h => h) (fun x u t H1 locs1 ht hvm hw hB hz hkp hS1 => ?_)
    have hw : x = v.1 := hw
    subst hw
    exact kk v.1 v.2 r hr H1 locs1 ls (by rw [← ht]; exact hB) hS1 hl
theorem G_cSF (g : Gd p s m args meth c w nL cc own) {pc idx a maxL : Nat} {L : List (Nat × Value)} {st As : List Value} {M : Mem} {y : MethodName} {b : ByteArray} {rm : Room} {f : Option (UInt32 × Mem)} {o : UInt32 → Mem → Option ρ} (cw : CS own idx y b maxL (some .float) a) (hM : Ct QF l y b maxL (some .float) rm w (As) M f) (hn : As.length = a) (hR : rm.frames + 1 ≤ R.frames ∧ 8 + (maxL + 11) + rm.locals ≤ R.locals) (hC : k + rm.cells ≤ R.cells ∧ n + rm.slots ≤ R.slots) (hs : (st.map fun v => v.category).sum ≤ 8) (d : decode cc pc = .ok (.invokestatic idx, 3)) (kk : ∀ (x : UInt32) (M1 : Mem), Go p l e R s m args below meth c w nL (k + rm.cells) (n + rm.slots) Qf (o x M1) (pc + 3) L (.float x :: st) M1) : Go p l e R s m args below meth c w nL k n Qf (bnd f o) pc L (As.reverse ++ st) M := by
  intro r hr H locs ls hP hS hl
  cases f with
  | none => cases hr
  | some v =>
    refine va_callf (va_runS (As := As) (rest := st) ⟨g.1, g.2.1, g.2.2.1, g.2.2.2.1, g.2.2.2.2.1⟩ (hM v rfl) ⟨callB_of a g.2.2.2.2.1 (TT_gi cw.2.2.2.1) rfl rfl rfl (g.2.2.2.2.1 _ cw.2.2.1) (g.2.2.2.2.1 _ cw.1) cw.2.2.2.2 hR, g.2.2.2.2.1 _ cw.2.1⟩ ⟨Wd.blind, fun U hU hW => ⟨rfl, by rw [hU]; exact hP, va_K.moved hW.alike g.2.2.2.2.2.1, g.2.2.2.2.2.2.2.2.1, by rw [hU]; exact Nat.le_trans g.2.2.2.2.2.2.2.2.2 hS.1, Sx.step g.2.2.2.2.2.2.2.1 hS hU hW⟩⟩ rfl hn hl.1 rfl (lv_room hs) d hC) hS (fun _ _ h => h) (fun _ h => h) (fun x u t H1 locs1 ht hvm hw hB hz hkp hS1 => ?_)
    have hw : x = v.1 := hw
    subst hw
    exact kk v.1 v.2 r hr H1 locs1 ls (by rw [← ht]; exact hB) hS1 hl
theorem G_cVNF (g : Gd p s m args meth c w nL cc own) {pc idx a maxL : Nat} {L : List (Nat × Value)} {st As : List Value} {M : Mem} {y : MethodName} {b : ByteArray} {rm : Room} {host : String} {q ci N : Nat} {T : u_T} {f : Option (UInt32 × Mem)} {o : UInt32 → Mem → Option ρ} (cw : CVN own idx host y b maxL (some .float) a) (hM : Ct QF l y b maxL (some .float) rm w (.ref (wad w q) :: As) M f) (hq : q ∈ wL w) (hk : (wZ w q).1 = ci) (hc : vwCl[ci]? = some (y.cls, T, N)) (hci : ci < 20) (hn : As.length = a) (hR : rm.frames + 1 ≤ R.frames ∧ 8 + (maxL + 11) + rm.locals ≤ R.locals) (hC : k + rm.cells ≤ R.cells ∧ n + rm.slots ≤ R.slots) (hs : (st.map fun v => v.category).sum ≤ 8) (d : decode cc pc = .ok (.invokevirtual idx, 3)) (kk : ∀ (x : UInt32) (M1 : Mem), Go p l e R s m args below meth c w nL (k + rm.cells) (n + rm.slots) Qf (o x M1) (pc + 3) L (.float x :: st) M1) : Go p l e R s m args below meth c w nL k n Qf (bnd f o) pc L (As.reverse ++ .ref (wad w q) :: st) M := by
  intro r hr H locs ls hP hS hl
  cases f with
  | none => cases hr
  | some v =>
    obtain ⟨j, -, hj⟩ := wW_get (M := M) hq
    rw [cellE_obj hk hci] at hj
    refine va_callf (va_runVN (As := As) (rest := st) ⟨g.1, g.2.1, g.2.2.1, g.2.2.2.1, g.2.2.2.2.1⟩ (hM v rfl) ⟨va_cnB a g.2.2.2.2.1 (TT_gi cw.2.2.2.2.1) rfl rfl rfl (g.2.2.2.2.2.2.2.1.2.2.1 _ cw.1) (g.2.2.2.2.1 _ cw.2.2.2.1) cw.2.2.2.2.2 hR, g.2.2.2.2.1 _ cw.2.1, g.2.2.2.2.1 _ cw.2.2.1⟩ ⟨Wd.blind, va_recv g.2.2.2.2.2.1 hP hc hj, fun U hU hW => ⟨rfl, by rw [hU]; exact hP, va_K.moved hW.alike g.2.2.2.2.2.1, g.2.2.2.2.2.2.2.2.1, by rw [hU]; exact Nat.le_trans g.2.2.2.2.2.2.2.2.2 hS.1, Sx.step g.2.2.2.2.2.2.2.1 hS hU hW⟩⟩ rfl hn hl.1 rfl (lv_room hs) d hC) hS (fun _ _ h => h) (fun _ h => h) (fun x u t H1 locs1 ht hvm hw hB hz hkp hS1 => ?_)
    have hw : x = v.1 := hw
    subst hw
    exact kk v.1 v.2 r hr H1 locs1 ls (by rw [← ht]; exact hB) hS1 hl
theorem G_cSNF (g : Gd p s m args meth c w nL cc own) {pc idx a maxL : Nat} {L : List (Nat × Value)} {st As : List Value} {M : Mem} {y : MethodName} {b : ByteArray} {rm : Room} {host : String} {f : Option (UInt32 × Mem)} {o : UInt32 → Mem → Option ρ} (cw : CSN own idx host y b maxL (some .float) a) (hM : Ct QF l y b maxL (some .float) rm w (As) M f) (hn : As.length = a) (hR : rm.frames + 1 ≤ R.frames ∧ 8 + (maxL + 11) + rm.locals ≤ R.locals) (hC : k + rm.cells ≤ R.cells ∧ n + rm.slots ≤ R.slots) (hs : (st.map fun v => v.category).sum ≤ 8) (d : decode cc pc = .ok (.invokestatic idx, 3)) (kk : ∀ (x : UInt32) (M1 : Mem), Go p l e R s m args below meth c w nL (k + rm.cells) (n + rm.slots) Qf (o x M1) (pc + 3) L (.float x :: st) M1) : Go p l e R s m args below meth c w nL k n Qf (bnd f o) pc L (As.reverse ++ st) M := by
  intro r hr H locs ls hP hS hl
  cases f with
  | none => cases hr
  | some v =>
    refine va_callf (va_runSN (As := As) (rest := st) ⟨g.1, g.2.1, g.2.2.1, g.2.2.2.1, g.2.2.2.2.1⟩ (hM v rfl) ⟨va_cnB a g.2.2.2.2.1 (TT_gi cw.2.2.2.1) rfl rfl rfl (g.2.2.2.2.2.2.2.1.2.2.1 _ cw.1) (g.2.2.2.2.1 _ cw.2.2.1) cw.2.2.2.2 hR, g.2.2.2.2.1 _ cw.2.1, trivial⟩ ⟨Wd.blind, fun U hU hW => ⟨rfl, by rw [hU]; exact hP, va_K.moved hW.alike g.2.2.2.2.2.1, g.2.2.2.2.2.2.2.2.1, by rw [hU]; exact Nat.le_trans g.2.2.2.2.2.2.2.2.2 hS.1, Sx.step g.2.2.2.2.2.2.2.1 hS hU hW⟩⟩ rfl hn hl.1 rfl (lv_room hs) d hC) hS (fun _ _ h => h) (fun _ h => h) (fun x u t H1 locs1 ht hvm hw hB hz hkp hS1 => ?_)
    have hw : x = v.1 := hw
    subst hw
    exact kk v.1 v.2 r hr H1 locs1 ls (by rw [← ht]; exact hB) hS1 hl
end GO
theorem Ct.go {ρ : Type} {Q : Wc → ρ → Array Value → State → Outcome → State → Prop} {l : Launch} {y : MethodName} {b : ByteArray} {maxL : Nat} {ret : Option FieldType} {rm : Room} {w : Wc} {av : List Value} {M : Mem} {f : Option ρ} (hy : plainName y.cls = true) {L : List (Nat × Value)} (hL : lv_args 0 av = L) (hlen : (lg_sl av).length ≤ maxL)
    (body : ∀ p e s m args below meth c, Gd p s m args meth c w maxL b y.cls → meth.sig.returnType = ret → Go p l e rm s m args below meth c w maxL 0 0 (fun r => MQ below (Q w r) args s rm.cells rm.slots (wA w)) f 0 L [] M) : Ct Q l y b maxL ret rm w av M f := by
  intro r hr
  refine Met.ofW (cc := b) (maxL := maxL) (ret := ret) hy rfl ?_
  intro p e s m args below meth c s₁ B hml hv
  obtain ⟨rfl, hP, hK, hW, hlo, hSx⟩ := hv
  have hts := atoms_spec B.pre
  have hl := lv_entry av hlen
  rw [hL] at hl
  rw [lg_entry_eq]
  exact body p e s m _ below meth c ⟨B.exec, B.bytes, hml, findClass_of_methodNamed B.named, fun x hx => hts x (List.mem_cons_of_mem _ hx), hK, B.notSynchronized, hSx, hW, hlo⟩ B.returns r hr _ [] _ hP va_S.rf hl
end
section
/-! places: what lies where, by the shape of all that the law makes -/
abbrev rmL (n : Nat) : Room := { frames := n, cells := 0, slots := 0, locals := 64 * n }
/-- the class's own places are live -/
def WK (w : Wc) (rr : Nat) : Prop := wZ w = Z0 rr ∧ ∀ p, p < 145 → p ∈ wL w
/-- the reference's own places are live; its row is one of two -/
def WM (w : Wc) (rr : Nat) : Prop := wZ w = Z0 rr ∧ (∀ p, 145 ≤ p → p < 156 → p ∈ wL w) ∧ (rr = 146 ∨ rr = 147)
theorem WK.z {w : Wc} {rr : Nat} (hw : WK w rr) : wZ w = Z0 rr := hw.1
theorem WK.k {w : Wc} {rr : Nat} (hw : WK w rr) {q k : Nat} (h : (Z0 rr q).1 = k) : (wZ w q).1 = k := by rw [hw.1]; exact h
theorem WK.n {w : Wc} {rr : Nat} (hw : WK w rr) {q n : Nat} (h : (Z0 rr q).2.1 = n) : (wZ w q).2.1 = n := by rw [hw.1]; exact h
theorem WK.r {w : Wc} {rr : Nat} (hw : WK w rr) {q k q2 : Nat} (h : (Z0 rr q).2.2 k = some q2) : (wZ w q).2.2 k = some q2 := by rw [hw.1]; exact h
theorem WM.z {w : Wc} {rr : Nat} (hw : WM w rr) : wZ w = Z0 rr := hw.1
theorem WM.k {w : Wc} {rr : Nat} (hw : WM w rr) {q k : Nat} (h : (Z0 rr q).1 = k) : (wZ w q).1 = k := by rw [hw.1]; exact h
theorem WM.n {w : Wc} {rr : Nat} (hw : WM w rr) {q n : Nat} (h : (Z0 rr q).2.1 = n) : (wZ w q).2.1 = n := by rw [hw.1]; exact h
theorem WM.r {w : Wc} {rr : Nat} (hw : WM w rr) {q k q2 : Nat} (h : (Z0 rr q).2.2 k = some q2) : (wZ w q).2.2 k = some q2 := by rw [hw.1]; exact h
theorem WK.m {w : Wc} {rr : Nat} (hw : WK w rr) (p : Nat) (h : p < 145) : p ∈ wL w := hw.2 p h
theorem WM.mm {w : Wc} {rr : Nat} (hw : WM w rr) (p : Nat) (h : 145 ≤ p) (h2 : p < 156) : p ∈ wL w := hw.2.1 p h h2
theorem WM.rr {w : Wc} {rr : Nat} (_ : WM w rr) : (Z0 rr 145).2.2 6 = some rr := rfl
theorem WM.mr {w : Wc} {rr : Nat} (hw : WM w rr) : rr ∈ wL w := by rcases hw.2.2 with h | h <;> (rw [h]; exact hw.2.1 _ (by decide) (by decide))
theorem WM.kr {w : Wc} {rr : Nat} (hw : WM w rr) : (wZ w rr).1 = 20 := by rw [hw.1]; rcases hw.2.2 with h | h <;> (subst h; rfl)
theorem WM.nr {w : Wc} {rr : Nat} (hw : WM w rr) : (wZ w rr).2.1 = 405 := by rw [hw.1]; rcases hw.2.2 with h | h <;> (subst h; rfl)
theorem zk0 (rr : Nat) : (Z0 rr 0).1 = 9 := rfl
theorem zr0_0 (rr : Nat) : (Z0 rr 0).2.2 0 = some 1 := rfl
theorem zr0_1 (rr : Nat) : (Z0 rr 0).2.2 1 = some 3 := rfl
theorem zr0_2 (rr : Nat) : (Z0 rr 0).2.2 2 = some 5 := rfl
theorem zr0_3 (rr : Nat) : (Z0 rr 0).2.2 3 = some 10 := rfl
theorem zr0_4 (rr : Nat) : (Z0 rr 0).2.2 4 = some 23 := rfl
theorem zr0_5 (rr : Nat) : (Z0 rr 0).2.2 5 = some 24 := rfl
theorem zr0_6 (rr : Nat) : (Z0 rr 0).2.2 6 = some 130 := rfl
theorem zr0_8 (rr : Nat) : (Z0 rr 0).2.2 8 = some 143 := rfl
theorem zk1 (rr : Nat) : (Z0 rr 1).1 = 7 := rfl
theorem zr1_0 (rr : Nat) : (Z0 rr 1).2.2 0 = some 2 := rfl
theorem zk2 (rr : Nat) : (Z0 rr 2).1 = 21 := rfl
theorem zn2 (rr : Nat) : (Z0 rr 2).2.1 = 500 := rfl
theorem zk3 (rr : Nat) : (Z0 rr 3).1 = 6 := rfl
theorem zr3_4 (rr : Nat) : (Z0 rr 3).2.2 4 = some 4 := rfl
theorem zk4 (rr : Nat) : (Z0 rr 4).1 = 20 := rfl
theorem zn4 (rr : Nat) : (Z0 rr 4).2.1 = 16 := rfl
theorem zk5 (rr : Nat) : (Z0 rr 5).1 = 4 := rfl
theorem zr5_0 (rr : Nat) : (Z0 rr 5).2.2 0 = some 6 := rfl
theorem zr5_1 (rr : Nat) : (Z0 rr 5).2.2 1 = some 7 := rfl
theorem zr5_2 (rr : Nat) : (Z0 rr 5).2.2 2 = some 8 := rfl
theorem zr5_3 (rr : Nat) : (Z0 rr 5).2.2 3 = some 9 := rfl
theorem zk6 (rr : Nat) : (Z0 rr 6).1 = 20 := rfl
theorem zn6 (rr : Nat) : (Z0 rr 6).2.1 = 20 := rfl
theorem zk7 (rr : Nat) : (Z0 rr 7).1 = 20 := rfl
theorem zn7 (rr : Nat) : (Z0 rr 7).2.1 = 20 := rfl
theorem zk8 (rr : Nat) : (Z0 rr 8).1 = 20 := rfl
theorem zn8 (rr : Nat) : (Z0 rr 8).2.1 = 20 := rfl
theorem zk9 (rr : Nat) : (Z0 rr 9).1 = 20 := rfl
theorem zn9 (rr : Nat) : (Z0 rr 9).2.1 = 20 := rfl
theorem zk10 (rr : Nat) : (Z0 rr 10).1 = 5 := rfl
theorem zr10_0 (rr : Nat) : (Z0 rr 10).2.2 0 = some 11 := rfl
theorem zr10_1 (rr : Nat) : (Z0 rr 10).2.2 1 = some 12 := rfl
theorem zr10_3 (rr : Nat) : (Z0 rr 10).2.2 3 = some 13 := rfl
theorem zr10_4 (rr : Nat) : (Z0 rr 10).2.2 4 = some 15 := rfl
theorem zr10_5 (rr : Nat) : (Z0 rr 10).2.2 5 = some 19 := rfl
theorem zk11 (rr : Nat) : (Z0 rr 11).1 = 1 := rfl
theorem zk12 (rr : Nat) : (Z0 rr 12).1 = 20 := rfl
theorem zn12 (rr : Nat) : (Z0 rr 12).2.1 = 16 := rfl
theorem zk13 (rr : Nat) : (Z0 rr 13).1 = 8 := rfl
theorem zr13_0 (rr : Nat) : (Z0 rr 13).2.2 0 = some 14 := rfl
theorem zk14 (rr : Nat) : (Z0 rr 14).1 = 20 := rfl
theorem zn14 (rr : Nat) : (Z0 rr 14).2.1 = 8 := rfl
theorem zk15 (rr : Nat) : (Z0 rr 15).1 = 3 := rfl
theorem zr15_1 (rr : Nat) : (Z0 rr 15).2.2 1 = some 16 := rfl
theorem zr15_2 (rr : Nat) : (Z0 rr 15).2.2 2 = some 17 := rfl
theorem zr15_3 (rr : Nat) : (Z0 rr 15).2.2 3 = some 18 := rfl
theorem zk16 (rr : Nat) : (Z0 rr 16).1 = 20 := rfl
theorem zn16 (rr : Nat) : (Z0 rr 16).2.1 = 30 := rfl
theorem zk17 (rr : Nat) : (Z0 rr 17).1 = 20 := rfl
theorem zn17 (rr : Nat) : (Z0 rr 17).2.1 = 30 := rfl
theorem zk18 (rr : Nat) : (Z0 rr 18).1 = 20 := rfl
theorem zn18 (rr : Nat) : (Z0 rr 18).2.1 = 30 := rfl
theorem zk19 (rr : Nat) : (Z0 rr 19).1 = 3 := rfl
theorem zr19_1 (rr : Nat) : (Z0 rr 19).2.2 1 = some 20 := rfl
theorem zr19_2 (rr : Nat) : (Z0 rr 19).2.2 2 = some 21 := rfl
theorem zr19_3 (rr : Nat) : (Z0 rr 19).2.2 3 = some 22 := rfl
theorem zk20 (rr : Nat) : (Z0 rr 20).1 = 20 := rfl
theorem zn20 (rr : Nat) : (Z0 rr 20).2.1 = 90 := rfl
theorem zk21 (rr : Nat) : (Z0 rr 21).1 = 20 := rfl
theorem zn21 (rr : Nat) : (Z0 rr 21).2.1 = 90 := rfl
theorem zk22 (rr : Nat) : (Z0 rr 22).1 = 20 := rfl
theorem zn22 (rr : Nat) : (Z0 rr 22).2.1 = 90 := rfl
theorem zk23 (rr : Nat) : (Z0 rr 23).1 = 1 := rfl
theorem zk24 (rr : Nat) : (Z0 rr 24).1 = 0 := rfl
theorem zr24_0 (rr : Nat) : (Z0 rr 24).2.2 0 = some 25 := rfl
theorem zk25 (rr : Nat) : (Z0 rr 25).1 = 24 := rfl
theorem zn25 (rr : Nat) : (Z0 rr 25).2.1 = 8 := rfl
theorem zk26 (rr : Nat) : (Z0 rr 26).1 = 5 := rfl
theorem zr26_0 (rr : Nat) : (Z0 rr 26).2.2 0 = some 27 := rfl
theorem zr26_1 (rr : Nat) : (Z0 rr 26).2.2 1 = some 28 := rfl
theorem zr26_3 (rr : Nat) : (Z0 rr 26).2.2 3 = some 29 := rfl
theorem zr26_4 (rr : Nat) : (Z0 rr 26).2.2 4 = some 31 := rfl
theorem zr26_5 (rr : Nat) : (Z0 rr 26).2.2 5 = some 35 := rfl
theorem zk27 (rr : Nat) : (Z0 rr 27).1 = 1 := rfl
theorem zk28 (rr : Nat) : (Z0 rr 28).1 = 20 := rfl
theorem zn28 (rr : Nat) : (Z0 rr 28).2.1 = 16 := rfl
theorem zk29 (rr : Nat) : (Z0 rr 29).1 = 8 := rfl
theorem zr29_0 (rr : Nat) : (Z0 rr 29).2.2 0 = some 30 := rfl
theorem zk30 (rr : Nat) : (Z0 rr 30).1 = 20 := rfl
theorem zn30 (rr : Nat) : (Z0 rr 30).2.1 = 8 := rfl
theorem zk31 (rr : Nat) : (Z0 rr 31).1 = 3 := rfl
theorem zr31_1 (rr : Nat) : (Z0 rr 31).2.2 1 = some 32 := rfl
theorem zr31_2 (rr : Nat) : (Z0 rr 31).2.2 2 = some 33 := rfl
theorem zr31_3 (rr : Nat) : (Z0 rr 31).2.2 3 = some 34 := rfl
theorem zk32 (rr : Nat) : (Z0 rr 32).1 = 20 := rfl
theorem zn32 (rr : Nat) : (Z0 rr 32).2.1 = 30 := rfl
theorem zk33 (rr : Nat) : (Z0 rr 33).1 = 20 := rfl
theorem zn33 (rr : Nat) : (Z0 rr 33).2.1 = 30 := rfl
theorem zk34 (rr : Nat) : (Z0 rr 34).1 = 20 := rfl
theorem zn34 (rr : Nat) : (Z0 rr 34).2.1 = 30 := rfl
theorem zk35 (rr : Nat) : (Z0 rr 35).1 = 3 := rfl
theorem zr35_1 (rr : Nat) : (Z0 rr 35).2.2 1 = some 36 := rfl
theorem zr35_2 (rr : Nat) : (Z0 rr 35).2.2 2 = some 37 := rfl
theorem zr35_3 (rr : Nat) : (Z0 rr 35).2.2 3 = some 38 := rfl
theorem zk36 (rr : Nat) : (Z0 rr 36).1 = 20 := rfl
theorem zn36 (rr : Nat) : (Z0 rr 36).2.1 = 90 := rfl
theorem zk37 (rr : Nat) : (Z0 rr 37).1 = 20 := rfl
theorem zn37 (rr : Nat) : (Z0 rr 37).2.1 = 90 := rfl
theorem zk38 (rr : Nat) : (Z0 rr 38).1 = 20 := rfl
theorem zn38 (rr : Nat) : (Z0 rr 38).2.1 = 90 := rfl
theorem zk39 (rr : Nat) : (Z0 rr 39).1 = 5 := rfl
theorem zr39_0 (rr : Nat) : (Z0 rr 39).2.2 0 = some 40 := rfl
theorem zr39_1 (rr : Nat) : (Z0 rr 39).2.2 1 = some 41 := rfl
theorem zr39_3 (rr : Nat) : (Z0 rr 39).2.2 3 = some 42 := rfl
theorem zr39_4 (rr : Nat) : (Z0 rr 39).2.2 4 = some 44 := rfl
theorem zr39_5 (rr : Nat) : (Z0 rr 39).2.2 5 = some 48 := rfl
theorem zk40 (rr : Nat) : (Z0 rr 40).1 = 1 := rfl
theorem zk41 (rr : Nat) : (Z0 rr 41).1 = 20 := rfl
theorem zn41 (rr : Nat) : (Z0 rr 41).2.1 = 16 := rfl
theorem zk42 (rr : Nat) : (Z0 rr 42).1 = 8 := rfl
theorem zr42_0 (rr : Nat) : (Z0 rr 42).2.2 0 = some 43 := rfl
theorem zk43 (rr : Nat) : (Z0 rr 43).1 = 20 := rfl
theorem zn43 (rr : Nat) : (Z0 rr 43).2.1 = 8 := rfl
theorem zk44 (rr : Nat) : (Z0 rr 44).1 = 3 := rfl
theorem zr44_1 (rr : Nat) : (Z0 rr 44).2.2 1 = some 45 := rfl
theorem zr44_2 (rr : Nat) : (Z0 rr 44).2.2 2 = some 46 := rfl
theorem zr44_3 (rr : Nat) : (Z0 rr 44).2.2 3 = some 47 := rfl
theorem zk45 (rr : Nat) : (Z0 rr 45).1 = 20 := rfl
theorem zn45 (rr : Nat) : (Z0 rr 45).2.1 = 30 := rfl
theorem zk46 (rr : Nat) : (Z0 rr 46).1 = 20 := rfl
theorem zn46 (rr : Nat) : (Z0 rr 46).2.1 = 30 := rfl
theorem zk47 (rr : Nat) : (Z0 rr 47).1 = 20 := rfl
theorem zn47 (rr : Nat) : (Z0 rr 47).2.1 = 30 := rfl
theorem zk48 (rr : Nat) : (Z0 rr 48).1 = 3 := rfl
theorem zr48_1 (rr : Nat) : (Z0 rr 48).2.2 1 = some 49 := rfl
theorem zr48_2 (rr : Nat) : (Z0 rr 48).2.2 2 = some 50 := rfl
theorem zr48_3 (rr : Nat) : (Z0 rr 48).2.2 3 = some 51 := rfl
theorem zk49 (rr : Nat) : (Z0 rr 49).1 = 20 := rfl
theorem zn49 (rr : Nat) : (Z0 rr 49).2.1 = 90 := rfl
theorem zk50 (rr : Nat) : (Z0 rr 50).1 = 20 := rfl
theorem zn50 (rr : Nat) : (Z0 rr 50).2.1 = 90 := rfl
theorem zk51 (rr : Nat) : (Z0 rr 51).1 = 20 := rfl
theorem zn51 (rr : Nat) : (Z0 rr 51).2.1 = 90 := rfl
theorem zk52 (rr : Nat) : (Z0 rr 52).1 = 5 := rfl
theorem zr52_0 (rr : Nat) : (Z0 rr 52).2.2 0 = some 53 := rfl
theorem zr52_1 (rr : Nat) : (Z0 rr 52).2.2 1 = some 54 := rfl
theorem zr52_3 (rr : Nat) : (Z0 rr 52).2.2 3 = some 55 := rfl
theorem zr52_4 (rr : Nat) : (Z0 rr 52).2.2 4 = some 57 := rfl
theorem zr52_5 (rr : Nat) : (Z0 rr 52).2.2 5 = some 61 := rfl
theorem zk53 (rr : Nat) : (Z0 rr 53).1 = 1 := rfl
theorem zk54 (rr : Nat) : (Z0 rr 54).1 = 20 := rfl
theorem zn54 (rr : Nat) : (Z0 rr 54).2.1 = 16 := rfl
theorem zk55 (rr : Nat) : (Z0 rr 55).1 = 8 := rfl
theorem zr55_0 (rr : Nat) : (Z0 rr 55).2.2 0 = some 56 := rfl
theorem zk56 (rr : Nat) : (Z0 rr 56).1 = 20 := rfl
theorem zn56 (rr : Nat) : (Z0 rr 56).2.1 = 8 := rfl
theorem zk57 (rr : Nat) : (Z0 rr 57).1 = 3 := rfl
theorem zr57_1 (rr : Nat) : (Z0 rr 57).2.2 1 = some 58 := rfl
theorem zr57_2 (rr : Nat) : (Z0 rr 57).2.2 2 = some 59 := rfl
theorem zr57_3 (rr : Nat) : (Z0 rr 57).2.2 3 = some 60 := rfl
theorem zk58 (rr : Nat) : (Z0 rr 58).1 = 20 := rfl
theorem zn58 (rr : Nat) : (Z0 rr 58).2.1 = 30 := rfl
theorem zk59 (rr : Nat) : (Z0 rr 59).1 = 20 := rfl
theorem zn59 (rr : Nat) : (Z0 rr 59).2.1 = 30 := rfl
theorem zk60 (rr : Nat) : (Z0 rr 60).1 = 20 := rfl
theorem zn60 (rr : Nat) : (Z0 rr 60).2.1 = 30 := rfl
theorem zk61 (rr : Nat) : (Z0 rr 61).1 = 3 := rfl
theorem zr61_1 (rr : Nat) : (Z0 rr 61).2.2 1 = some 62 := rfl
theorem zr61_2 (rr : Nat) : (Z0 rr 61).2.2 2 = some 63 := rfl
theorem zr61_3 (rr : Nat) : (Z0 rr 61).2.2 3 = some 64 := rfl
theorem zk62 (rr : Nat) : (Z0 rr 62).1 = 20 := rfl
theorem zn62 (rr : Nat) : (Z0 rr 62).2.1 = 90 := rfl
theorem zk63 (rr : Nat) : (Z0 rr 63).1 = 20 := rfl
theorem zn63 (rr : Nat) : (Z0 rr 63).2.1 = 90 := rfl
theorem zk64 (rr : Nat) : (Z0 rr 64).1 = 20 := rfl
theorem zn64 (rr : Nat) : (Z0 rr 64).2.1 = 90 := rfl
theorem zk65 (rr : Nat) : (Z0 rr 65).1 = 5 := rfl
theorem zr65_0 (rr : Nat) : (Z0 rr 65).2.2 0 = some 66 := rfl
theorem zr65_1 (rr : Nat) : (Z0 rr 65).2.2 1 = some 67 := rfl
theorem zr65_3 (rr : Nat) : (Z0 rr 65).2.2 3 = some 68 := rfl
theorem zr65_4 (rr : Nat) : (Z0 rr 65).2.2 4 = some 70 := rfl
theorem zr65_5 (rr : Nat) : (Z0 rr 65).2.2 5 = some 74 := rfl
theorem zk66 (rr : Nat) : (Z0 rr 66).1 = 1 := rfl
theorem zk67 (rr : Nat) : (Z0 rr 67).1 = 20 := rfl
theorem zn67 (rr : Nat) : (Z0 rr 67).2.1 = 16 := rfl
theorem zk68 (rr : Nat) : (Z0 rr 68).1 = 8 := rfl
theorem zr68_0 (rr : Nat) : (Z0 rr 68).2.2 0 = some 69 := rfl
theorem zk69 (rr : Nat) : (Z0 rr 69).1 = 20 := rfl
theorem zn69 (rr : Nat) : (Z0 rr 69).2.1 = 8 := rfl
theorem zk70 (rr : Nat) : (Z0 rr 70).1 = 3 := rfl
theorem zr70_1 (rr : Nat) : (Z0 rr 70).2.2 1 = some 71 := rfl
theorem zr70_2 (rr : Nat) : (Z0 rr 70).2.2 2 = some 72 := rfl
theorem zr70_3 (rr : Nat) : (Z0 rr 70).2.2 3 = some 73 := rfl
theorem zk71 (rr : Nat) : (Z0 rr 71).1 = 20 := rfl
theorem zn71 (rr : Nat) : (Z0 rr 71).2.1 = 30 := rfl
theorem zk72 (rr : Nat) : (Z0 rr 72).1 = 20 := rfl
theorem zn72 (rr : Nat) : (Z0 rr 72).2.1 = 30 := rfl
theorem zk73 (rr : Nat) : (Z0 rr 73).1 = 20 := rfl
theorem zn73 (rr : Nat) : (Z0 rr 73).2.1 = 30 := rfl
theorem zk74 (rr : Nat) : (Z0 rr 74).1 = 3 := rfl
theorem zr74_1 (rr : Nat) : (Z0 rr 74).2.2 1 = some 75 := rfl
theorem zr74_2 (rr : Nat) : (Z0 rr 74).2.2 2 = some 76 := rfl
theorem zr74_3 (rr : Nat) : (Z0 rr 74).2.2 3 = some 77 := rfl
theorem zk75 (rr : Nat) : (Z0 rr 75).1 = 20 := rfl
theorem zn75 (rr : Nat) : (Z0 rr 75).2.1 = 90 := rfl
theorem zk76 (rr : Nat) : (Z0 rr 76).1 = 20 := rfl
theorem zn76 (rr : Nat) : (Z0 rr 76).2.1 = 90 := rfl
theorem zk77 (rr : Nat) : (Z0 rr 77).1 = 20 := rfl
theorem zn77 (rr : Nat) : (Z0 rr 77).2.1 = 90 := rfl
theorem zk78 (rr : Nat) : (Z0 rr 78).1 = 5 := rfl
theorem zr78_0 (rr : Nat) : (Z0 rr 78).2.2 0 = some 79 := rfl
theorem zr78_1 (rr : Nat) : (Z0 rr 78).2.2 1 = some 80 := rfl
theorem zr78_3 (rr : Nat) : (Z0 rr 78).2.2 3 = some 81 := rfl
theorem zr78_4 (rr : Nat) : (Z0 rr 78).2.2 4 = some 83 := rfl
theorem zr78_5 (rr : Nat) : (Z0 rr 78).2.2 5 = some 87 := rfl
theorem zk79 (rr : Nat) : (Z0 rr 79).1 = 1 := rfl
theorem zk80 (rr : Nat) : (Z0 rr 80).1 = 20 := rfl
theorem zn80 (rr : Nat) : (Z0 rr 80).2.1 = 16 := rfl
theorem zk81 (rr : Nat) : (Z0 rr 81).1 = 8 := rfl
theorem zr81_0 (rr : Nat) : (Z0 rr 81).2.2 0 = some 82 := rfl
theorem zk82 (rr : Nat) : (Z0 rr 82).1 = 20 := rfl
theorem zn82 (rr : Nat) : (Z0 rr 82).2.1 = 8 := rfl
theorem zk83 (rr : Nat) : (Z0 rr 83).1 = 3 := rfl
theorem zr83_1 (rr : Nat) : (Z0 rr 83).2.2 1 = some 84 := rfl
theorem zr83_2 (rr : Nat) : (Z0 rr 83).2.2 2 = some 85 := rfl
theorem zr83_3 (rr : Nat) : (Z0 rr 83).2.2 3 = some 86 := rfl
theorem zk84 (rr : Nat) : (Z0 rr 84).1 = 20 := rfl
theorem zn84 (rr : Nat) : (Z0 rr 84).2.1 = 30 := rfl
theorem zk85 (rr : Nat) : (Z0 rr 85).1 = 20 := rfl
theorem zn85 (rr : Nat) : (Z0 rr 85).2.1 = 30 := rfl
theorem zk86 (rr : Nat) : (Z0 rr 86).1 = 20 := rfl
theorem zn86 (rr : Nat) : (Z0 rr 86).2.1 = 30 := rfl
theorem zk87 (rr : Nat) : (Z0 rr 87).1 = 3 := rfl
theorem zr87_1 (rr : Nat) : (Z0 rr 87).2.2 1 = some 88 := rfl
theorem zr87_2 (rr : Nat) : (Z0 rr 87).2.2 2 = some 89 := rfl
theorem zr87_3 (rr : Nat) : (Z0 rr 87).2.2 3 = some 90 := rfl
theorem zk88 (rr : Nat) : (Z0 rr 88).1 = 20 := rfl
theorem zn88 (rr : Nat) : (Z0 rr 88).2.1 = 90 := rfl
theorem zk89 (rr : Nat) : (Z0 rr 89).1 = 20 := rfl
theorem zn89 (rr : Nat) : (Z0 rr 89).2.1 = 90 := rfl
theorem zk90 (rr : Nat) : (Z0 rr 90).1 = 20 := rfl
theorem zn90 (rr : Nat) : (Z0 rr 90).2.1 = 90 := rfl
theorem zk91 (rr : Nat) : (Z0 rr 91).1 = 5 := rfl
theorem zr91_0 (rr : Nat) : (Z0 rr 91).2.2 0 = some 92 := rfl
theorem zr91_1 (rr : Nat) : (Z0 rr 91).2.2 1 = some 93 := rfl
theorem zr91_3 (rr : Nat) : (Z0 rr 91).2.2 3 = some 94 := rfl
theorem zr91_4 (rr : Nat) : (Z0 rr 91).2.2 4 = some 96 := rfl
theorem zr91_5 (rr : Nat) : (Z0 rr 91).2.2 5 = some 100 := rfl
theorem zk92 (rr : Nat) : (Z0 rr 92).1 = 1 := rfl
theorem zk93 (rr : Nat) : (Z0 rr 93).1 = 20 := rfl
theorem zn93 (rr : Nat) : (Z0 rr 93).2.1 = 16 := rfl
theorem zk94 (rr : Nat) : (Z0 rr 94).1 = 8 := rfl
theorem zr94_0 (rr : Nat) : (Z0 rr 94).2.2 0 = some 95 := rfl
theorem zk95 (rr : Nat) : (Z0 rr 95).1 = 20 := rfl
theorem zn95 (rr : Nat) : (Z0 rr 95).2.1 = 8 := rfl
theorem zk96 (rr : Nat) : (Z0 rr 96).1 = 3 := rfl
theorem zr96_1 (rr : Nat) : (Z0 rr 96).2.2 1 = some 97 := rfl
theorem zr96_2 (rr : Nat) : (Z0 rr 96).2.2 2 = some 98 := rfl
theorem zr96_3 (rr : Nat) : (Z0 rr 96).2.2 3 = some 99 := rfl
theorem zk97 (rr : Nat) : (Z0 rr 97).1 = 20 := rfl
theorem zn97 (rr : Nat) : (Z0 rr 97).2.1 = 30 := rfl
theorem zk98 (rr : Nat) : (Z0 rr 98).1 = 20 := rfl
theorem zn98 (rr : Nat) : (Z0 rr 98).2.1 = 30 := rfl
theorem zk99 (rr : Nat) : (Z0 rr 99).1 = 20 := rfl
theorem zn99 (rr : Nat) : (Z0 rr 99).2.1 = 30 := rfl
theorem zk100 (rr : Nat) : (Z0 rr 100).1 = 3 := rfl
theorem zr100_1 (rr : Nat) : (Z0 rr 100).2.2 1 = some 101 := rfl
theorem zr100_2 (rr : Nat) : (Z0 rr 100).2.2 2 = some 102 := rfl
theorem zr100_3 (rr : Nat) : (Z0 rr 100).2.2 3 = some 103 := rfl
theorem zk101 (rr : Nat) : (Z0 rr 101).1 = 20 := rfl
theorem zn101 (rr : Nat) : (Z0 rr 101).2.1 = 90 := rfl
theorem zk102 (rr : Nat) : (Z0 rr 102).1 = 20 := rfl
theorem zn102 (rr : Nat) : (Z0 rr 102).2.1 = 90 := rfl
theorem zk103 (rr : Nat) : (Z0 rr 103).1 = 20 := rfl
theorem zn103 (rr : Nat) : (Z0 rr 103).2.1 = 90 := rfl
theorem zk104 (rr : Nat) : (Z0 rr 104).1 = 5 := rfl
theorem zr104_0 (rr : Nat) : (Z0 rr 104).2.2 0 = some 105 := rfl
theorem zr104_1 (rr : Nat) : (Z0 rr 104).2.2 1 = some 106 := rfl
theorem zr104_3 (rr : Nat) : (Z0 rr 104).2.2 3 = some 107 := rfl
theorem zr104_4 (rr : Nat) : (Z0 rr 104).2.2 4 = some 109 := rfl
theorem zr104_5 (rr : Nat) : (Z0 rr 104).2.2 5 = some 113 := rfl
theorem zk105 (rr : Nat) : (Z0 rr 105).1 = 1 := rfl
theorem zk106 (rr : Nat) : (Z0 rr 106).1 = 20 := rfl
theorem zn106 (rr : Nat) : (Z0 rr 106).2.1 = 16 := rfl
theorem zk107 (rr : Nat) : (Z0 rr 107).1 = 8 := rfl
theorem zr107_0 (rr : Nat) : (Z0 rr 107).2.2 0 = some 108 := rfl
theorem zk108 (rr : Nat) : (Z0 rr 108).1 = 20 := rfl
theorem zn108 (rr : Nat) : (Z0 rr 108).2.1 = 8 := rfl
theorem zk109 (rr : Nat) : (Z0 rr 109).1 = 3 := rfl
theorem zr109_1 (rr : Nat) : (Z0 rr 109).2.2 1 = some 110 := rfl
theorem zr109_2 (rr : Nat) : (Z0 rr 109).2.2 2 = some 111 := rfl
theorem zr109_3 (rr : Nat) : (Z0 rr 109).2.2 3 = some 112 := rfl
theorem zk110 (rr : Nat) : (Z0 rr 110).1 = 20 := rfl
theorem zn110 (rr : Nat) : (Z0 rr 110).2.1 = 30 := rfl
theorem zk111 (rr : Nat) : (Z0 rr 111).1 = 20 := rfl
theorem zn111 (rr : Nat) : (Z0 rr 111).2.1 = 30 := rfl
theorem zk112 (rr : Nat) : (Z0 rr 112).1 = 20 := rfl
theorem zn112 (rr : Nat) : (Z0 rr 112).2.1 = 30 := rfl
theorem zk113 (rr : Nat) : (Z0 rr 113).1 = 3 := rfl
theorem zr113_1 (rr : Nat) : (Z0 rr 113).2.2 1 = some 114 := rfl
theorem zr113_2 (rr : Nat) : (Z0 rr 113).2.2 2 = some 115 := rfl
theorem zr113_3 (rr : Nat) : (Z0 rr 113).2.2 3 = some 116 := rfl
theorem zk114 (rr : Nat) : (Z0 rr 114).1 = 20 := rfl
theorem zn114 (rr : Nat) : (Z0 rr 114).2.1 = 90 := rfl
theorem zk115 (rr : Nat) : (Z0 rr 115).1 = 20 := rfl
theorem zn115 (rr : Nat) : (Z0 rr 115).2.1 = 90 := rfl
theorem zk116 (rr : Nat) : (Z0 rr 116).1 = 20 := rfl
theorem zn116 (rr : Nat) : (Z0 rr 116).2.1 = 90 := rfl
theorem zk117 (rr : Nat) : (Z0 rr 117).1 = 5 := rfl
theorem zr117_0 (rr : Nat) : (Z0 rr 117).2.2 0 = some 118 := rfl
theorem zr117_1 (rr : Nat) : (Z0 rr 117).2.2 1 = some 119 := rfl
theorem zr117_3 (rr : Nat) : (Z0 rr 117).2.2 3 = some 120 := rfl
theorem zr117_4 (rr : Nat) : (Z0 rr 117).2.2 4 = some 122 := rfl
theorem zr117_5 (rr : Nat) : (Z0 rr 117).2.2 5 = some 126 := rfl
theorem zk118 (rr : Nat) : (Z0 rr 118).1 = 1 := rfl
theorem zk119 (rr : Nat) : (Z0 rr 119).1 = 20 := rfl
theorem zn119 (rr : Nat) : (Z0 rr 119).2.1 = 16 := rfl
theorem zk120 (rr : Nat) : (Z0 rr 120).1 = 8 := rfl
theorem zr120_0 (rr : Nat) : (Z0 rr 120).2.2 0 = some 121 := rfl
theorem zk121 (rr : Nat) : (Z0 rr 121).1 = 20 := rfl
theorem zn121 (rr : Nat) : (Z0 rr 121).2.1 = 8 := rfl
theorem zk122 (rr : Nat) : (Z0 rr 122).1 = 3 := rfl
theorem zr122_1 (rr : Nat) : (Z0 rr 122).2.2 1 = some 123 := rfl
theorem zr122_2 (rr : Nat) : (Z0 rr 122).2.2 2 = some 124 := rfl
theorem zr122_3 (rr : Nat) : (Z0 rr 122).2.2 3 = some 125 := rfl
theorem zk123 (rr : Nat) : (Z0 rr 123).1 = 20 := rfl
theorem zn123 (rr : Nat) : (Z0 rr 123).2.1 = 30 := rfl
theorem zk124 (rr : Nat) : (Z0 rr 124).1 = 20 := rfl
theorem zn124 (rr : Nat) : (Z0 rr 124).2.1 = 30 := rfl
theorem zk125 (rr : Nat) : (Z0 rr 125).1 = 20 := rfl
theorem zn125 (rr : Nat) : (Z0 rr 125).2.1 = 30 := rfl
theorem zk126 (rr : Nat) : (Z0 rr 126).1 = 3 := rfl
theorem zr126_1 (rr : Nat) : (Z0 rr 126).2.2 1 = some 127 := rfl
theorem zr126_2 (rr : Nat) : (Z0 rr 126).2.2 2 = some 128 := rfl
theorem zr126_3 (rr : Nat) : (Z0 rr 126).2.2 3 = some 129 := rfl
theorem zk127 (rr : Nat) : (Z0 rr 127).1 = 20 := rfl
theorem zn127 (rr : Nat) : (Z0 rr 127).2.1 = 90 := rfl
theorem zk128 (rr : Nat) : (Z0 rr 128).1 = 20 := rfl
theorem zn128 (rr : Nat) : (Z0 rr 128).2.1 = 90 := rfl
theorem zk129 (rr : Nat) : (Z0 rr 129).1 = 20 := rfl
theorem zn129 (rr : Nat) : (Z0 rr 129).2.1 = 90 := rfl
theorem zk130 (rr : Nat) : (Z0 rr 130).1 = 5 := rfl
theorem zr130_0 (rr : Nat) : (Z0 rr 130).2.2 0 = some 131 := rfl
theorem zr130_1 (rr : Nat) : (Z0 rr 130).2.2 1 = some 132 := rfl
theorem zr130_3 (rr : Nat) : (Z0 rr 130).2.2 3 = some 133 := rfl
theorem zr130_4 (rr : Nat) : (Z0 rr 130).2.2 4 = some 135 := rfl
theorem zr130_5 (rr : Nat) : (Z0 rr 130).2.2 5 = some 139 := rfl
theorem zk131 (rr : Nat) : (Z0 rr 131).1 = 1 := rfl
theorem zk132 (rr : Nat) : (Z0 rr 132).1 = 20 := rfl
theorem zn132 (rr : Nat) : (Z0 rr 132).2.1 = 16 := rfl
theorem zk133 (rr : Nat) : (Z0 rr 133).1 = 8 := rfl
theorem zr133_0 (rr : Nat) : (Z0 rr 133).2.2 0 = some 134 := rfl
theorem zk134 (rr : Nat) : (Z0 rr 134).1 = 20 := rfl
theorem zn134 (rr : Nat) : (Z0 rr 134).2.1 = 8 := rfl
theorem zk135 (rr : Nat) : (Z0 rr 135).1 = 3 := rfl
theorem zr135_1 (rr : Nat) : (Z0 rr 135).2.2 1 = some 136 := rfl
theorem zr135_2 (rr : Nat) : (Z0 rr 135).2.2 2 = some 137 := rfl
theorem zr135_3 (rr : Nat) : (Z0 rr 135).2.2 3 = some 138 := rfl
theorem zk136 (rr : Nat) : (Z0 rr 136).1 = 20 := rfl
theorem zn136 (rr : Nat) : (Z0 rr 136).2.1 = 30 := rfl
theorem zk137 (rr : Nat) : (Z0 rr 137).1 = 20 := rfl
theorem zn137 (rr : Nat) : (Z0 rr 137).2.1 = 30 := rfl
theorem zk138 (rr : Nat) : (Z0 rr 138).1 = 20 := rfl
theorem zn138 (rr : Nat) : (Z0 rr 138).2.1 = 30 := rfl
theorem zk139 (rr : Nat) : (Z0 rr 139).1 = 3 := rfl
theorem zr139_1 (rr : Nat) : (Z0 rr 139).2.2 1 = some 140 := rfl
theorem zr139_2 (rr : Nat) : (Z0 rr 139).2.2 2 = some 141 := rfl
theorem zr139_3 (rr : Nat) : (Z0 rr 139).2.2 3 = some 142 := rfl
theorem zk140 (rr : Nat) : (Z0 rr 140).1 = 20 := rfl
theorem zn140 (rr : Nat) : (Z0 rr 140).2.1 = 90 := rfl
theorem zk141 (rr : Nat) : (Z0 rr 141).1 = 20 := rfl
theorem zn141 (rr : Nat) : (Z0 rr 141).2.1 = 90 := rfl
theorem zk142 (rr : Nat) : (Z0 rr 142).1 = 20 := rfl
theorem zn142 (rr : Nat) : (Z0 rr 142).2.1 = 90 := rfl
theorem zk143 (rr : Nat) : (Z0 rr 143).1 = 2 := rfl
theorem zr143_0 (rr : Nat) : (Z0 rr 143).2.2 0 = some 144 := rfl
theorem zk144 (rr : Nat) : (Z0 rr 144).1 = 21 := rfl
theorem zn144 (rr : Nat) : (Z0 rr 144).2.1 = 360 := rfl
theorem zk145 (rr : Nat) : (Z0 rr 145).1 = 10 := rfl
theorem zr145_0 (rr : Nat) : (Z0 rr 145).2.2 0 = some 146 := rfl
theorem zr145_1 (rr : Nat) : (Z0 rr 145).2.2 1 = some 147 := rfl
theorem zr145_2 (rr : Nat) : (Z0 rr 145).2.2 2 = some 148 := rfl
theorem zr145_3 (rr : Nat) : (Z0 rr 145).2.2 3 = some 149 := rfl
theorem zr145_4 (rr : Nat) : (Z0 rr 145).2.2 4 = some 150 := rfl
theorem zr145_5 (rr : Nat) : (Z0 rr 145).2.2 5 = some 151 := rfl
theorem zr145_12 (rr : Nat) : (Z0 rr 145).2.2 12 = some 152 := rfl
theorem zr145_14 (rr : Nat) : (Z0 rr 145).2.2 14 = some 153 := rfl
theorem zr145_24 (rr : Nat) : (Z0 rr 145).2.2 24 = some 154 := rfl
theorem zr145_25 (rr : Nat) : (Z0 rr 145).2.2 25 = some 155 := rfl
theorem zk146 (rr : Nat) : (Z0 rr 146).1 = 20 := rfl
theorem zn146 (rr : Nat) : (Z0 rr 146).2.1 = 405 := rfl
theorem zk147 (rr : Nat) : (Z0 rr 147).1 = 20 := rfl
theorem zn147 (rr : Nat) : (Z0 rr 147).2.1 = 405 := rfl
theorem zk148 (rr : Nat) : (Z0 rr 148).1 = 20 := rfl
theorem zn148 (rr : Nat) : (Z0 rr 148).2.1 = 405 := rfl
theorem zk149 (rr : Nat) : (Z0 rr 149).1 = 20 := rfl
theorem zn149 (rr : Nat) : (Z0 rr 149).2.1 = 405 := rfl
theorem zk150 (rr : Nat) : (Z0 rr 150).1 = 20 := rfl
theorem zn150 (rr : Nat) : (Z0 rr 150).2.1 = 405 := rfl
theorem zk151 (rr : Nat) : (Z0 rr 151).1 = 20 := rfl
theorem zn151 (rr : Nat) : (Z0 rr 151).2.1 = 3240 := rfl
theorem zk152 (rr : Nat) : (Z0 rr 152).1 = 20 := rfl
theorem zn152 (rr : Nat) : (Z0 rr 152).2.1 = 400 := rfl
theorem zk153 (rr : Nat) : (Z0 rr 153).1 = 20 := rfl
theorem zn153 (rr : Nat) : (Z0 rr 153).2.1 = 500 := rfl
theorem zk154 (rr : Nat) : (Z0 rr 154).1 = 20 := rfl
theorem zn154 (rr : Nat) : (Z0 rr 154).2.1 = 60 := rfl
theorem zk155 (rr : Nat) : (Z0 rr 155).1 = 25 := rfl
theorem zn155 (rr : Nat) : (Z0 rr 155).2.1 = 9 := rfl
theorem zk156 (rr : Nat) : (Z0 rr 156).1 = 22 := rfl
theorem zn156 (rr : Nat) : (Z0 rr 156).2.1 = 1 := rfl
theorem zk157 (rr : Nat) : (Z0 rr 157).1 = 23 := rfl
theorem zn157 (rr : Nat) : (Z0 rr 157).2.1 = 0 := rfl
theorem st_lt0 {b : Nat} (h : b ∈ stL) : b < 145 := (show ∀ b ∈ stL, b < 145 by decide +kernel) b h
theorem st_k0 {b rr : Nat} (h : b ∈ stL) : (Z0 rr (b)).1 = 5 := (show ∀ b ∈ stL, (zl.getD (b) (99, 0, [])).1 = 5 by decide +kernel) b h
theorem st_r0_0 {b : Nat} (h : b ∈ stL) (rr : Nat) : (Z0 rr (b)).2.2 0 = some (b + 1) := by
  have h1 := (show ∀ b ∈ stL, (zl.getD (b) (99, 0, [])).2.2.getD 0 none = some (b + 1) by decide +kernel) b h
  have h2 := st_lt0 h
  show (if b = 145 ∧ 0 = 6 then some rr else _) = _
  rw [if_neg (by omega)]
  exact h1
theorem st_r0_1 {b : Nat} (h : b ∈ stL) (rr : Nat) : (Z0 rr (b)).2.2 1 = some (b + 2) := by
  have h1 := (show ∀ b ∈ stL, (zl.getD (b) (99, 0, [])).2.2.getD 1 none = some (b + 2) by decide +kernel) b h
  have h2 := st_lt0 h
  show (if b = 145 ∧ 1 = 6 then some rr else _) = _
  rw [if_neg (by omega)]
  exact h1
theorem st_r0_3 {b : Nat} (h : b ∈ stL) (rr : Nat) : (Z0 rr (b)).2.2 3 = some (b + 3) := by
  have h1 := (show ∀ b ∈ stL, (zl.getD (b) (99, 0, [])).2.2.getD 3 none = some (b + 3) by decide +kernel) b h
  have h2 := st_lt0 h
  show (if b = 145 ∧ 3 = 6 then some rr else _) = _
  rw [if_neg (by omega)]
  exact h1
theorem st_r0_4 {b : Nat} (h : b ∈ stL) (rr : Nat) : (Z0 rr (b)).2.2 4 = some (b + 5) := by
  have h1 := (show ∀ b ∈ stL, (zl.getD (b) (99, 0, [])).2.2.getD 4 none = some (b + 5) by decide +kernel) b h
  have h2 := st_lt0 h
  show (if b = 145 ∧ 4 = 6 then some rr else _) = _
  rw [if_neg (by omega)]
  exact h1
theorem st_r0_5 {b : Nat} (h : b ∈ stL) (rr : Nat) : (Z0 rr (b)).2.2 5 = some (b + 9) := by
  have h1 := (show ∀ b ∈ stL, (zl.getD (b) (99, 0, [])).2.2.getD 5 none = some (b + 9) by decide +kernel) b h
  have h2 := st_lt0 h
  show (if b = 145 ∧ 5 = 6 then some rr else _) = _
  rw [if_neg (by omega)]
  exact h1
theorem st_lt1 {b : Nat} (h : b ∈ stL) : b + 1 < 145 := (show ∀ b ∈ stL, b + 1 < 145 by decide +kernel) b h
theorem st_k1 {b rr : Nat} (h : b ∈ stL) : (Z0 rr (b + 1)).1 = 1 := (show ∀ b ∈ stL, (zl.getD (b + 1) (99, 0, [])).1 = 1 by decide +kernel) b h
theorem st_in1 {b : Nat} (h : b ∈ stL) : b + 1 ∈ kiL := (show ∀ b ∈ stL, b + 1 ∈ kiL by decide +kernel) b h
theorem st_lt2 {b : Nat} (h : b ∈ stL) : b + 2 < 145 := (show ∀ b ∈ stL, b + 2 < 145 by decide +kernel) b h
theorem st_k2 {b rr : Nat} (h : b ∈ stL) : (Z0 rr (b + 2)).1 = 20 := (show ∀ b ∈ stL, (zl.getD (b + 2) (99, 0, [])).1 = 20 by decide +kernel) b h
theorem st_lt3 {b : Nat} (h : b ∈ stL) : b + 3 < 145 := (show ∀ b ∈ stL, b + 3 < 145 by decide +kernel) b h
theorem st_k3 {b rr : Nat} (h : b ∈ stL) : (Z0 rr (b + 3)).1 = 8 := (show ∀ b ∈ stL, (zl.getD (b + 3) (99, 0, [])).1 = 8 by decide +kernel) b h
theorem st_r3_0 {b : Nat} (h : b ∈ stL) (rr : Nat) : (Z0 rr (b + 3)).2.2 0 = some (b + 4) := by
  have h1 := (show ∀ b ∈ stL, (zl.getD (b + 3) (99, 0, [])).2.2.getD 0 none = some (b + 4) by decide +kernel) b h
  have h2 := st_lt3 h
  show (if b + 3 = 145 ∧ 0 = 6 then some rr else _) = _
  rw [if_neg (by omega)]
  exact h1
theorem st_in3 {b : Nat} (h : b ∈ stL) : b + 3 ∈ wbL := (show ∀ b ∈ stL, b + 3 ∈ wbL by decide +kernel) b h
theorem st_lt4 {b : Nat} (h : b ∈ stL) : b + 4 < 145 := (show ∀ b ∈ stL, b + 4 < 145 by decide +kernel) b h
theorem st_k4 {b rr : Nat} (h : b ∈ stL) : (Z0 rr (b + 4)).1 = 20 := (show ∀ b ∈ stL, (zl.getD (b + 4) (99, 0, [])).1 = 20 by decide +kernel) b h
theorem st_lt5 {b : Nat} (h : b ∈ stL) : b + 5 < 145 := (show ∀ b ∈ stL, b + 5 < 145 by decide +kernel) b h
theorem st_k5 {b rr : Nat} (h : b ∈ stL) : (Z0 rr (b + 5)).1 = 3 := (show ∀ b ∈ stL, (zl.getD (b + 5) (99, 0, [])).1 = 3 by decide +kernel) b h
theorem st_r5_1 {b : Nat} (h : b ∈ stL) (rr : Nat) : (Z0 rr (b + 5)).2.2 1 = some (b + 6) := by
  have h1 := (show ∀ b ∈ stL, (zl.getD (b + 5) (99, 0, [])).2.2.getD 1 none = some (b + 6) by decide +kernel) b h
  have h2 := st_lt5 h
  show (if b + 5 = 145 ∧ 1 = 6 then some rr else _) = _
  rw [if_neg (by omega)]
  exact h1
theorem st_r5_2 {b : Nat} (h : b ∈ stL) (rr : Nat) : (Z0 rr (b + 5)).2.2 2 = some (b + 7) := by
  have h1 := (show ∀ b ∈ stL, (zl.getD (b + 5) (99, 0, [])).2.2.getD 2 none = some (b + 7) by decide +kernel) b h
  have h2 := st_lt5 h
  show (if b + 5 = 145 ∧ 2 = 6 then some rr else _) = _
  rw [if_neg (by omega)]
  exact h1
theorem st_r5_3 {b : Nat} (h : b ∈ stL) (rr : Nat) : (Z0 rr (b + 5)).2.2 3 = some (b + 8) := by
  have h1 := (show ∀ b ∈ stL, (zl.getD (b + 5) (99, 0, [])).2.2.getD 3 none = some (b + 8) by decide +kernel) b h
  have h2 := st_lt5 h
  show (if b + 5 = 145 ∧ 3 = 6 then some rr else _) = _
  rw [if_neg (by omega)]
  exact h1
theorem st_in5 {b : Nat} (h : b ∈ stL) : b + 5 ∈ saL := (show ∀ b ∈ stL, b + 5 ∈ saL by decide +kernel) b h
theorem st_lt6 {b : Nat} (h : b ∈ stL) : b + 6 < 145 := (show ∀ b ∈ stL, b + 6 < 145 by decide +kernel) b h
theorem st_k6 {b rr : Nat} (h : b ∈ stL) : (Z0 rr (b + 6)).1 = 20 := (show ∀ b ∈ stL, (zl.getD (b + 6) (99, 0, [])).1 = 20 by decide +kernel) b h
theorem st_lt7 {b : Nat} (h : b ∈ stL) : b + 7 < 145 := (show ∀ b ∈ stL, b + 7 < 145 by decide +kernel) b h
theorem st_k7 {b rr : Nat} (h : b ∈ stL) : (Z0 rr (b + 7)).1 = 20 := (show ∀ b ∈ stL, (zl.getD (b + 7) (99, 0, [])).1 = 20 by decide +kernel) b h
theorem st_lt8 {b : Nat} (h : b ∈ stL) : b + 8 < 145 := (show ∀ b ∈ stL, b + 8 < 145 by decide +kernel) b h
theorem st_k8 {b rr : Nat} (h : b ∈ stL) : (Z0 rr (b + 8)).1 = 20 := (show ∀ b ∈ stL, (zl.getD (b + 8) (99, 0, [])).1 = 20 by decide +kernel) b h
theorem st_lt9 {b : Nat} (h : b ∈ stL) : b + 9 < 145 := (show ∀ b ∈ stL, b + 9 < 145 by decide +kernel) b h
theorem st_k9 {b rr : Nat} (h : b ∈ stL) : (Z0 rr (b + 9)).1 = 3 := (show ∀ b ∈ stL, (zl.getD (b + 9) (99, 0, [])).1 = 3 by decide +kernel) b h
theorem st_r9_1 {b : Nat} (h : b ∈ stL) (rr : Nat) : (Z0 rr (b + 9)).2.2 1 = some (b + 10) := by
  have h1 := (show ∀ b ∈ stL, (zl.getD (b + 9) (99, 0, [])).2.2.getD 1 none = some (b + 10) by decide +kernel) b h
  have h2 := st_lt9 h
  show (if b + 9 = 145 ∧ 1 = 6 then some rr else _) = _
  rw [if_neg (by omega)]
  exact h1
theorem st_r9_2 {b : Nat} (h : b ∈ stL) (rr : Nat) : (Z0 rr (b + 9)).2.2 2 = some (b + 11) := by
  have h1 := (show ∀ b ∈ stL, (zl.getD (b + 9) (99, 0, [])).2.2.getD 2 none = some (b + 11) by decide +kernel) b h
  have h2 := st_lt9 h
  show (if b + 9 = 145 ∧ 2 = 6 then some rr else _) = _
  rw [if_neg (by omega)]
  exact h1
theorem st_r9_3 {b : Nat} (h : b ∈ stL) (rr : Nat) : (Z0 rr (b + 9)).2.2 3 = some (b + 12) := by
  have h1 := (show ∀ b ∈ stL, (zl.getD (b + 9) (99, 0, [])).2.2.getD 3 none = some (b + 12) by decide +kernel) b h
  have h2 := st_lt9 h
  show (if b + 9 = 145 ∧ 3 = 6 then some rr else _) = _
  rw [if_neg (by omega)]
  exact h1
theorem st_in9 {b : Nat} (h : b ∈ stL) : b + 9 ∈ saL := (show ∀ b ∈ stL, b + 9 ∈ saL by decide +kernel) b h
theorem st_lt10 {b : Nat} (h : b ∈ stL) : b + 10 < 145 := (show ∀ b ∈ stL, b + 10 < 145 by decide +kernel) b h
theorem st_k10 {b rr : Nat} (h : b ∈ stL) : (Z0 rr (b + 10)).1 = 20 := (show ∀ b ∈ stL, (zl.getD (b + 10) (99, 0, [])).1 = 20 by decide +kernel) b h
theorem st_lt11 {b : Nat} (h : b ∈ stL) : b + 11 < 145 := (show ∀ b ∈ stL, b + 11 < 145 by decide +kernel) b h
theorem st_k11 {b rr : Nat} (h : b ∈ stL) : (Z0 rr (b + 11)).1 = 20 := (show ∀ b ∈ stL, (zl.getD (b + 11) (99, 0, [])).1 = 20 by decide +kernel) b h
theorem st_lt12 {b : Nat} (h : b ∈ stL) : b + 12 < 145 := (show ∀ b ∈ stL, b + 12 < 145 by decide +kernel) b h
theorem st_k12 {b rr : Nat} (h : b ∈ stL) : (Z0 rr (b + 12)).1 = 20 := (show ∀ b ∈ stL, (zl.getD (b + 12) (99, 0, [])).1 = 20 by decide +kernel) b h
theorem ki_lt0 {b : Nat} (h : b ∈ kiL) : b < 145 := (show ∀ b ∈ kiL, b < 145 by decide +kernel) b h
theorem ki_k0 {b rr : Nat} (h : b ∈ kiL) : (Z0 rr (b)).1 = 1 := (show ∀ b ∈ kiL, (zl.getD (b) (99, 0, [])).1 = 1 by decide +kernel) b h
theorem wb_lt0 {b : Nat} (h : b ∈ wbL) : b < 145 := (show ∀ b ∈ wbL, b < 145 by decide +kernel) b h
theorem wb_k0 {b rr : Nat} (h : b ∈ wbL) : (Z0 rr (b)).1 = 8 := (show ∀ b ∈ wbL, (zl.getD (b) (99, 0, [])).1 = 8 by decide +kernel) b h
theorem wb_r0_0 {b : Nat} (h : b ∈ wbL) (rr : Nat) : (Z0 rr (b)).2.2 0 = some (b + 1) := by
  have h1 := (show ∀ b ∈ wbL, (zl.getD (b) (99, 0, [])).2.2.getD 0 none = some (b + 1) by decide +kernel) b h
  have h2 := wb_lt0 h
  show (if b = 145 ∧ 0 = 6 then some rr else _) = _
  rw [if_neg (by omega)]
  exact h1
theorem wb_lt1 {b : Nat} (h : b ∈ wbL) : b + 1 < 145 := (show ∀ b ∈ wbL, b + 1 < 145 by decide +kernel) b h
theorem wb_k1 {b rr : Nat} (h : b ∈ wbL) : (Z0 rr (b + 1)).1 = 20 := (show ∀ b ∈ wbL, (zl.getD (b + 1) (99, 0, [])).1 = 20 by decide +kernel) b h
theorem sa_lt0 {b : Nat} (h : b ∈ saL) : b < 145 := (show ∀ b ∈ saL, b < 145 by decide +kernel) b h
theorem sa_k0 {b rr : Nat} (h : b ∈ saL) : (Z0 rr (b)).1 = 3 := (show ∀ b ∈ saL, (zl.getD (b) (99, 0, [])).1 = 3 by decide +kernel) b h
theorem sa_r0_1 {b : Nat} (h : b ∈ saL) (rr : Nat) : (Z0 rr (b)).2.2 1 = some (b + 1) := by
  have h1 := (show ∀ b ∈ saL, (zl.getD (b) (99, 0, [])).2.2.getD 1 none = some (b + 1) by decide +kernel) b h
  have h2 := sa_lt0 h
  show (if b = 145 ∧ 1 = 6 then some rr else _) = _
  rw [if_neg (by omega)]
  exact h1
theorem sa_r0_2 {b : Nat} (h : b ∈ saL) (rr : Nat) : (Z0 rr (b)).2.2 2 = some (b + 2) := by
  have h1 := (show ∀ b ∈ saL, (zl.getD (b) (99, 0, [])).2.2.getD 2 none = some (b + 2) by decide +kernel) b h
  have h2 := sa_lt0 h
  show (if b = 145 ∧ 2 = 6 then some rr else _) = _
  rw [if_neg (by omega)]
  exact h1
theorem sa_r0_3 {b : Nat} (h : b ∈ saL) (rr : Nat) : (Z0 rr (b)).2.2 3 = some (b + 3) := by
  have h1 := (show ∀ b ∈ saL, (zl.getD (b) (99, 0, [])).2.2.getD 3 none = some (b + 3) by decide +kernel) b h
  have h2 := sa_lt0 h
  show (if b = 145 ∧ 3 = 6 then some rr else _) = _
  rw [if_neg (by omega)]
  exact h1
theorem sa_lt1 {b : Nat} (h : b ∈ saL) : b + 1 < 145 := (show ∀ b ∈ saL, b + 1 < 145 by decide +kernel) b h
theorem sa_k1 {b rr : Nat} (h : b ∈ saL) : (Z0 rr (b + 1)).1 = 20 := (show ∀ b ∈ saL, (zl.getD (b + 1) (99, 0, [])).1 = 20 by decide +kernel) b h
theorem sa_lt2 {b : Nat} (h : b ∈ saL) : b + 2 < 145 := (show ∀ b ∈ saL, b + 2 < 145 by decide +kernel) b h
theorem sa_k2 {b rr : Nat} (h : b ∈ saL) : (Z0 rr (b + 2)).1 = 20 := (show ∀ b ∈ saL, (zl.getD (b + 2) (99, 0, [])).1 = 20 by decide +kernel) b h
theorem sa_lt3 {b : Nat} (h : b ∈ saL) : b + 3 < 145 := (show ∀ b ∈ saL, b + 3 < 145 by decide +kernel) b h
theorem sa_k3 {b rr : Nat} (h : b ∈ saL) : (Z0 rr (b + 3)).1 = 20 := (show ∀ b ∈ saL, (zl.getD (b + 3) (99, 0, [])).1 = 20 by decide +kernel) b h
theorem b2i_fit (b : Bool) : fits .boolean (.int (b2i b)) = true := by cases b <;> rfl
end
section
theorem d_G_isOutside_0 : decode b_G_isOutside 0 = .ok (.iload_n 0, 1) := by decide +kernel
theorem d_G_isOutside_1 : decode b_G_isOutside 1 = .ok (.iload_n 1, 1) := by decide +kernel
theorem d_G_isOutside_2 : decode b_G_isOutside 2 = .ok (.if_icmp .lt 8, 3) := by decide +kernel
theorem d_G_isOutside_5 : decode b_G_isOutside 5 = .ok (.iload_n 0, 1) := by decide +kernel
theorem d_G_isOutside_6 : decode b_G_isOutside 6 = .ok (.iload_n 2, 1) := by decide +kernel
theorem d_G_isOutside_7 : decode b_G_isOutside 7 = .ok (.if_icmp .le 7, 3) := by decide +kernel
theorem d_G_isOutside_10 : decode b_G_isOutside 10 = .ok (.iconst 1, 1) := by decide +kernel
theorem d_G_isOutside_11 : decode b_G_isOutside 11 = .ok (.goto 4, 3) := by decide +kernel
theorem d_G_isOutside_14 : decode b_G_isOutside 14 = .ok (.iconst 0, 1) := by decide +kernel
theorem d_G_isOutside_15 : decode b_G_isOutside 15 = .ok (.ireturn, 1) := by decide +kernel
def f_G_isOutside (a1 : Int32) (a2 : Int32) (a3 : Int32) (M : Mem) : Option (Bool × Mem) :=
  if a1 < a2 then (some (true, M)) else (if a3 < a1 then (some (true, M)) else (some (false, M)))
set_option maxHeartbeats 4000000 in
set_option maxRecDepth 100000 in
theorem c_G_isOutside (l : Launch) {w : Wc} {rr : Nat} (hw : WK w rr) (a1 : Int32) (a2 : Int32) (a3 : Int32) (M : Mem) : Ct QZ l y_G_isOutside b_G_isOutside 3 (some .boolean) (rmL 0) w [.int a1, .int a2, .int a3] M (f_G_isOutside a1 a2 a3 M) := by
  refine Ct.go (by decide) (L := [(0, .int a1), (1, .int a2), (2, .int a3)]) rfl (Nat.le_of_ble_eq_true rfl) (fun p0 e s m args below meth c g hret => ?_)
  unfold f_G_isOutside
  refine G_iload_n g (pc := 0) 0 d_G_isOutside_0 rfl rfl ?_
  refine G_iload_n g (pc := 1) 1 d_G_isOutside_1 rfl rfl ?_
  refine G_icmp_lt g (pc := 2) 10 d_G_isOutside_2 (by decide) ?_ ?_
  · refine G_iconst g (pc := 10) (1 : Int32) d_G_isOutside_10 rfl ?_
    refine G_goto g (pc := 11) 15 d_G_isOutside_11 (by decide) ?_
    exact G_zreturn g (pc := 15) true rfl hret (Nat.le_of_ble_eq_true rfl) (Nat.le_of_ble_eq_true rfl) d_G_isOutside_15
  · refine G_iload_n g (pc := 5) 0 d_G_isOutside_5 rfl rfl ?_
    refine G_iload_n g (pc := 6) 2 d_G_isOutside_6 rfl rfl ?_
    refine G_icmp_le g (pc := 7) 14 d_G_isOutside_7 (by decide) ?_ ?_
    · refine G_iconst g (pc := 10) (1 : Int32) d_G_isOutside_10 rfl ?_
      refine G_goto g (pc := 11) 15 d_G_isOutside_11 (by decide) ?_
      exact G_zreturn g (pc := 15) true rfl hret (Nat.le_of_ble_eq_true rfl) (Nat.le_of_ble_eq_true rfl) d_G_isOutside_15
    · refine G_iconst g (pc := 14) (0 : Int32) d_G_isOutside_14 rfl ?_
      exact G_zreturn g (pc := 15) false rfl hret (Nat.le_of_ble_eq_true rfl) (Nat.le_of_ble_eq_true rfl) d_G_isOutside_15

theorem d_G_valueAt_0 : decode b_G_valueAt 0 = .ok (.iload_n 1, 1) := by decide +kernel
theorem d_G_valueAt_1 : decode b_G_valueAt 1 = .ok (.ifCond .lt 15, 3) := by decide +kernel
theorem d_G_valueAt_4 : decode b_G_valueAt 4 = .ok (.iload_n 1, 1) := by decide +kernel
theorem d_G_valueAt_5 : decode b_G_valueAt 5 = .ok (.aload_n 0, 1) := by decide +kernel
theorem d_G_valueAt_6 : decode b_G_valueAt 6 = .ok (.arraylength, 1) := by decide +kernel
theorem d_G_valueAt_7 : decode b_G_valueAt 7 = .ok (.if_icmp .ge 9, 3) := by decide +kernel
theorem d_G_valueAt_10 : decode b_G_valueAt 10 = .ok (.aload_n 0, 1) := by decide +kernel
theorem d_G_valueAt_11 : decode b_G_valueAt 11 = .ok (.iload_n 1, 1) := by decide +kernel
theorem d_G_valueAt_12 : decode b_G_valueAt 12 = .ok (.iaload, 1) := by decide +kernel
theorem d_G_valueAt_13 : decode b_G_valueAt 13 = .ok (.goto 4, 3) := by decide +kernel
theorem d_G_valueAt_16 : decode b_G_valueAt 16 = .ok (.iconst 0, 1) := by decide +kernel
theorem d_G_valueAt_17 : decode b_G_valueAt 17 = .ok (.ireturn, 1) := by decide +kernel
def f_G_valueAt (a1 : Nat) (a2 : Int32) (M : Mem) : Option (Int32 × Mem) :=
  if a2 < 0 then (some ((0 : Int32), M)) else (if a2 < (nI (zn a1)) then (grd (inB a2 (zn a1)) (some (M a1 a2.toNatClampNeg, M))) else (some ((0 : Int32), M)))
set_option maxHeartbeats 4000000 in
set_option maxRecDepth 100000 in
theorem c_G_valueAt (l : Launch) {w : Wc} {rr : Nat} (hw : WK w rr) (a1 : Nat) (hma1 : a1 ∈ wL w) (hka1 : (wZ w a1).1 = 20) (a2 : Int32) (M : Mem) : Ct QI l y_G_valueAt b_G_valueAt 2 (some .int) (rmL 0) w [.ref (wad w a1), .int a2] M (f_G_valueAt a1 a2 M) := by
  refine Ct.go (by decide) (L := [(0, .ref (wad w a1)), (1, .int a2)]) rfl (Nat.le_of_ble_eq_true rfl) (fun p0 e s m args below meth c g hret => ?_)
  unfold f_G_valueAt
  refine G_iload_n g (pc := 0) 1 d_G_valueAt_0 rfl rfl ?_
  refine G_if_lt g (pc := 1) 16 d_G_valueAt_1 (by decide) ?_ ?_
  · refine G_iconst g (pc := 16) (0 : Int32) d_G_valueAt_16 rfl ?_
    exact G_ireturn g (pc := 17) hret (Nat.le_of_ble_eq_true rfl) (Nat.le_of_ble_eq_true rfl) d_G_valueAt_17
  · refine G_iload_n g (pc := 4) 1 d_G_valueAt_4 rfl rfl ?_
    refine G_aload_n g (pc := 5) 0 d_G_valueAt_5 rfl rfl ?_
    refine G_alen g (pc := 6) (nI (zn a1)) hma1 hka1 (by rw [(hw.n rfl)]; rfl) d_G_valueAt_6 ?_
    refine G_icmp_ge g (pc := 7) 16 d_G_valueAt_7 (by decide) ?_ ?_
    · refine G_aload_n g (pc := 10) 0 d_G_valueAt_10 rfl rfl ?_
      refine G_iload_n g (pc := 11) 1 d_G_valueAt_11 rfl rfl ?_
      refine G_iald g (pc := 12) (nn := (zn a1)) hma1 hka1 (hw.n rfl) d_G_valueAt_12 ?_
      refine G_goto g (pc := 13) 17 d_G_valueAt_13 (by decide) ?_
      exact G_ireturn g (pc := 17) hret (Nat.le_of_ble_eq_true rfl) (Nat.le_of_ble_eq_true rfl) d_G_valueAt_17
    · refine G_iconst g (pc := 16) (0 : Int32) d_G_valueAt_16 rfl ?_
      exact G_ireturn g (pc := 17) hret (Nat.le_of_ble_eq_true rfl) (Nat.le_of_ble_eq_true rfl) d_G_valueAt_17

theorem d_G_putAt_0 : decode b_G_putAt 0 = .ok (.iload_n 1, 1) := by decide +kernel
theorem d_G_putAt_1 : decode b_G_putAt 1 = .ok (.ifCond .lt 13, 3) := by decide +kernel
theorem d_G_putAt_4 : decode b_G_putAt 4 = .ok (.iload_n 1, 1) := by decide +kernel
theorem d_G_putAt_5 : decode b_G_putAt 5 = .ok (.aload_n 0, 1) := by decide +kernel
theorem d_G_putAt_6 : decode b_G_putAt 6 = .ok (.arraylength, 1) := by decide +kernel
theorem d_G_putAt_7 : decode b_G_putAt 7 = .ok (.if_icmp .ge 7, 3) := by decide +kernel
theorem d_G_putAt_10 : decode b_G_putAt 10 = .ok (.aload_n 0, 1) := by decide +kernel
theorem d_G_putAt_11 : decode b_G_putAt 11 = .ok (.iload_n 1, 1) := by decide +kernel
theorem d_G_putAt_12 : decode b_G_putAt 12 = .ok (.iload_n 2, 1) := by decide +kernel
theorem d_G_putAt_13 : decode b_G_putAt 13 = .ok (.iastore, 1) := by decide +kernel
theorem d_G_putAt_14 : decode b_G_putAt 14 = .ok (.return_, 1) := by decide +kernel
def f_G_putAt (a1 : Nat) (a2 : Int32) (a3 : Int32) (M : Mem) : Option (Mem) :=
  if a2 < 0 then (some M) else (if a2 < (nI (zn a1)) then (grd (inB a2 (zn a1)) (nm (put M a1 a2.toNatClampNeg a3) fun (M1 : Mem) => some M1)) else (some M))
set_option maxHeartbeats 4000000 in
set_option maxRecDepth 100000 in
theorem c_G_putAt (l : Launch) {w : Wc} {rr : Nat} (hw : WK w rr) (a1 : Nat) (hma1 : a1 ∈ wL w) (hka1 : (wZ w a1).1 = 20) (a2 : Int32) (a3 : Int32) (M : Mem) : Ct QV l y_G_putAt b_G_putAt 3 none (rmL 0) w [.ref (wad w a1), .int a2, .int a3] M (f_G_putAt a1 a2 a3 M) := by
  refine Ct.go (by decide) (L := [(0, .ref (wad w a1)), (1, .int a2), (2, .int a3)]) rfl (Nat.le_of_ble_eq_true rfl) (fun p0 e s m args below meth c g hret => ?_)
  unfold f_G_putAt
  refine G_iload_n g (pc := 0) 1 d_G_putAt_0 rfl rfl ?_
  refine G_if_lt g (pc := 1) 14 d_G_putAt_1 (by decide) ?_ ?_
  · exact G_return g (pc := 14) hret (Nat.le_of_ble_eq_true rfl) (Nat.le_of_ble_eq_true rfl) d_G_putAt_14
  · refine G_iload_n g (pc := 4) 1 d_G_putAt_4 rfl rfl ?_
    refine G_aload_n g (pc := 5) 0 d_G_putAt_5 rfl rfl ?_
    refine G_alen g (pc := 6) (nI (zn a1)) hma1 hka1 (by rw [(hw.n rfl)]; rfl) d_G_putAt_6 ?_
    refine G_icmp_ge g (pc := 7) 14 d_G_putAt_7 (by decide) ?_ ?_
    · refine G_aload_n g (pc := 10) 0 d_G_putAt_10 rfl rfl ?_
      refine G_iload_n g (pc := 11) 1 d_G_putAt_11 rfl rfl ?_
      refine G_iload_n g (pc := 12) 2 d_G_putAt_12 rfl rfl ?_
      refine G_iast g (pc := 13) (nn := (zn a1)) hma1 hka1 (hw.n rfl) d_G_putAt_13 ?_
      refine G_nmM (fun M1 => ?_)
      exact G_return g (pc := 14) hret (Nat.le_of_ble_eq_true rfl) (Nat.le_of_ble_eq_true rfl) d_G_putAt_14
    · exact G_return g (pc := 14) hret (Nat.le_of_ble_eq_true rfl) (Nat.le_of_ble_eq_true rfl) d_G_putAt_14

theorem d_G_copyRow_0 : decode b_G_copyRow 0 = .ok (.aload_n 0, 1) := by decide +kernel
theorem d_G_copyRow_1 : decode b_G_copyRow 1 = .ok (.iconst 0, 1) := by decide +kernel
theorem d_G_copyRow_2 : decode b_G_copyRow 2 = .ok (.aload_n 1, 1) := by decide +kernel
theorem d_G_copyRow_3 : decode b_G_copyRow 3 = .ok (.iconst 0, 1) := by decide +kernel
theorem d_G_copyRow_4 : decode b_G_copyRow 4 = .ok (.aload_n 0, 1) := by decide +kernel
theorem d_G_copyRow_5 : decode b_G_copyRow 5 = .ok (.arraylength, 1) := by decide +kernel
theorem d_G_copyRow_6 : decode b_G_copyRow 6 = .ok (.aload_n 1, 1) := by decide +kernel
theorem d_G_copyRow_7 : decode b_G_copyRow 7 = .ok (.arraylength, 1) := by decide +kernel
theorem d_G_copyRow_8 : decode b_G_copyRow 8 = .ok (.invokestatic 245, 3) := by decide +kernel
theorem d_G_copyRow_11 : decode b_G_copyRow 11 = .ok (.invokestatic 315, 3) := by decide +kernel
theorem d_G_copyRow_14 : decode b_G_copyRow 14 = .ok (.return_, 1) := by decide +kernel
theorem ma_G_245 : Cond.methodLink "KiteLogger" 245 Lib.Math.min.name ∈ TT ∧ Cond.static Lib.Math.min.name ∈ TT ∧ Cond.initialized "java/lang/Math" ∈ TT ∧ Cond.code Lib.Math.min.name Lib.Math.min.code 2 (some .int) ∈ TT := ⟨TT_in (i := 176) (by decide +kernel) (by decide +kernel), TT_in (i := 177) (by decide +kernel) (by decide +kernel), TT_in (i := 91) (by decide +kernel) (by decide +kernel), TT_in (i := 178) (by decide +kernel) (by decide +kernel)⟩
theorem ma_G_315 : Cond.methodLink "KiteLogger" 315 arraycopyName ∈ TT ∧ Cond.native arraycopyName ∈ TT ∧ Cond.static arraycopyName ∈ TT ∧ Cond.initialized "java/lang/System" ∈ TT := ⟨TT_in (i := 179) (by decide +kernel) (by decide +kernel), TT_in (i := 181) (by decide +kernel) (by decide +kernel), TT_in (i := 180) (by decide +kernel) (by decide +kernel), TT_in (i := 92) (by decide +kernel) (by decide +kernel)⟩
def f_G_copyRow (a1 : Nat) (a2 : Nat) (M : Mem) : Option (Mem) :=
  grd (cpB (0 : Int32) (0 : Int32) (imin (nI (zn a1)) (nI (zn a2))) (zn a1) (zn a2)) (nm (setR M a2 (va_cpy (M a1) (M a2) (0 : Int32).toNatClampNeg (0 : Int32).toNatClampNeg (imin (nI (zn a1)) (nI (zn a2))).toNatClampNeg)) fun (M1 : Mem) => some M1)
set_option maxHeartbeats 4000000 in
set_option maxRecDepth 100000 in
theorem c_G_copyRow (l : Launch) {w : Wc} {rr : Nat} (hw : WK w rr) (a1 : Nat) (hma1 : a1 ∈ wL w) (hka1 : (wZ w a1).1 = 20) (a2 : Nat) (hma2 : a2 ∈ wL w) (hka2 : (wZ w a2).1 = 20) (M : Mem) : Ct QV l y_G_copyRow b_G_copyRow 2 none (rmL 1) w [.ref (wad w a1), .ref (wad w a2)] M (f_G_copyRow a1 a2 M) := by
  refine Ct.go (by decide) (L := [(0, .ref (wad w a1)), (1, .ref (wad w a2))]) rfl (Nat.le_of_ble_eq_true rfl) (fun p0 e s m args below meth c g hret => ?_)
  unfold f_G_copyRow
  refine G_aload_n g (pc := 0) 0 d_G_copyRow_0 rfl rfl ?_
  refine G_iconst g (pc := 1) (0 : Int32) d_G_copyRow_1 rfl ?_
  refine G_aload_n g (pc := 2) 1 d_G_copyRow_2 rfl rfl ?_
  refine G_iconst g (pc := 3) (0 : Int32) d_G_copyRow_3 rfl ?_
  refine G_aload_n g (pc := 4) 0 d_G_copyRow_4 rfl rfl ?_
  refine G_alen g (pc := 5) (nI (zn a1)) hma1 hka1 (by rw [(hw.n rfl)]; rfl) d_G_copyRow_5 ?_
  refine G_aload_n g (pc := 6) 1 d_G_copyRow_6 rfl rfl ?_
  refine G_alen g (pc := 7) (nI (zn a2)) hma2 hka2 (by rw [(hw.n rfl)]; rfl) d_G_copyRow_7 ?_
  refine G_mmin g (pc := 8) ma_G_245 ⟨(Nat.le_of_ble_eq_true rfl), (Nat.le_of_ble_eq_true rfl), (Nat.le_of_ble_eq_true rfl), (Nat.le_of_ble_eq_true rfl)⟩ d_G_copyRow_8 ?_
  refine G_copy g (pc := 11) (n0 := (zn a1)) (n1 := (zn a2)) ma_G_315 ⟨(Nat.le_of_ble_eq_true rfl), (Nat.le_of_ble_eq_true rfl)⟩ hma1 hka1 (hw.n rfl) hma2 hka2 (hw.n rfl) d_G_copyRow_11 ?_
  refine G_nmM (fun M1 => ?_)
  exact G_return g (pc := 14) hret (Nat.le_of_ble_eq_true rfl) (Nat.le_of_ble_eq_true rfl) d_G_copyRow_14

theorem d_G_meanOf_0 : decode b_G_meanOf 0 = .ok (.iload_n 1, 1) := by decide +kernel
theorem d_G_meanOf_1 : decode b_G_meanOf 1 = .ok (.iconst 1, 1) := by decide +kernel
theorem d_G_meanOf_2 : decode b_G_meanOf 2 = .ok (.if_icmp .ge 7, 3) := by decide +kernel
theorem d_G_meanOf_5 : decode b_G_meanOf 5 = .ok (.dconst 0, 1) := by decide +kernel
theorem d_G_meanOf_6 : decode b_G_meanOf 6 = .ok (.goto 8, 3) := by decide +kernel
theorem d_G_meanOf_9 : decode b_G_meanOf 9 = .ok (.iload_n 0, 1) := by decide +kernel
theorem d_G_meanOf_10 : decode b_G_meanOf 10 = .ok (.i2d, 1) := by decide +kernel
theorem d_G_meanOf_11 : decode b_G_meanOf 11 = .ok (.iload_n 1, 1) := by decide +kernel
theorem d_G_meanOf_12 : decode b_G_meanOf 12 = .ok (.i2d, 1) := by decide +kernel
theorem d_G_meanOf_13 : decode b_G_meanOf 13 = .ok (.ddiv, 1) := by decide +kernel
theorem d_G_meanOf_14 : decode b_G_meanOf 14 = .ok (.dreturn, 1) := by decide +kernel
def f_G_meanOf (a1 : Int32) (a2 : Int32) (M : Mem) : Option (UInt64 × Mem) :=
  if a2 < (1 : Int32) then (some (0, M)) else (grd (nn64 (FP.ddiv (FP.i2d a1) (FP.i2d a2))) (some (FP.ddiv (FP.i2d a1) (FP.i2d a2), M)))
set_option maxHeartbeats 4000000 in
set_option maxRecDepth 100000 in
theorem c_G_meanOf (l : Launch) {w : Wc} {rr : Nat} (hw : WK w rr) (a1 : Int32) (a2 : Int32) (M : Mem) : Ct QD l y_G_meanOf b_G_meanOf 2 (some .double) (rmL 0) w [.int a1, .int a2] M (f_G_meanOf a1 a2 M) := by
  refine Ct.go (by decide) (L := [(0, .int a1), (1, .int a2)]) rfl (Nat.le_of_ble_eq_true rfl) (fun p0 e s m args below meth c g hret => ?_)
  unfold f_G_meanOf
  refine G_iload_n g (pc := 0) 1 d_G_meanOf_0 rfl rfl ?_
  refine G_iconst g (pc := 1) (1 : Int32) d_G_meanOf_1 rfl ?_
  refine G_icmp_ge g (pc := 2) 9 d_G_meanOf_2 (by decide) ?_ ?_
  · refine G_dconst0 g (pc := 5) d_G_meanOf_5 ?_
    refine G_goto g (pc := 6) 14 d_G_meanOf_6 (by decide) ?_
    exact G_dreturn g (pc := 14) hret (Nat.le_of_ble_eq_true rfl) (Nat.le_of_ble_eq_true rfl) d_G_meanOf_14
  · refine G_iload_n g (pc := 9) 0 d_G_meanOf_9 rfl rfl ?_
    refine G_i2d g (pc := 10) d_G_meanOf_10 ?_
    refine G_iload_n g (pc := 11) 1 d_G_meanOf_11 rfl rfl ?_
    refine G_i2d g (pc := 12) d_G_meanOf_12 ?_
    refine G_ddiv g (pc := 13) d_G_meanOf_13 ?_
    exact G_dreturn g (pc := 14) hret (Nat.le_of_ble_eq_true rfl) (Nat.le_of_ble_eq_true rfl) d_G_meanOf_14

theorem d_K_setUp_0 : decode b_K_setUp 0 = .ok (.aload_n 0, 1) := by decide +kernel
theorem d_K_setUp_1 : decode b_K_setUp 1 = .ok (.iconst 0, 1) := by decide +kernel
theorem d_K_setUp_2 : decode b_K_setUp 2 = .ok (.putfield 9, 3) := by decide +kernel
theorem d_K_setUp_5 : decode b_K_setUp 5 = .ok (.aload_n 0, 1) := by decide +kernel
theorem d_K_setUp_6 : decode b_K_setUp 6 = .ok (.iconst 0, 1) := by decide +kernel
theorem d_K_setUp_7 : decode b_K_setUp 7 = .ok (.putfield 15, 3) := by decide +kernel
theorem d_K_setUp_10 : decode b_K_setUp 10 = .ok (.aload_n 0, 1) := by decide +kernel
theorem d_K_setUp_11 : decode b_K_setUp 11 = .ok (.iconst 0, 1) := by decide +kernel
theorem d_K_setUp_12 : decode b_K_setUp 12 = .ok (.putfield 18, 3) := by decide +kernel
theorem d_K_setUp_15 : decode b_K_setUp 15 = .ok (.aload_n 0, 1) := by decide +kernel
theorem d_K_setUp_16 : decode b_K_setUp 16 = .ok (.iload_n 1, 1) := by decide +kernel
theorem d_K_setUp_17 : decode b_K_setUp 17 = .ok (.putfield 21, 3) := by decide +kernel
theorem d_K_setUp_20 : decode b_K_setUp 20 = .ok (.aload_n 0, 1) := by decide +kernel
theorem d_K_setUp_21 : decode b_K_setUp 21 = .ok (.iload_n 2, 1) := by decide +kernel
theorem d_K_setUp_22 : decode b_K_setUp 22 = .ok (.putfield 24, 3) := by decide +kernel
theorem d_K_setUp_25 : decode b_K_setUp 25 = .ok (.aload_n 0, 1) := by decide +kernel
theorem d_K_setUp_26 : decode b_K_setUp 26 = .ok (.iload_n 3, 1) := by decide +kernel
theorem d_K_setUp_27 : decode b_K_setUp 27 = .ok (.putfield 27, 3) := by decide +kernel
theorem d_K_setUp_30 : decode b_K_setUp 30 = .ok (.aload_n 0, 1) := by decide +kernel
theorem d_K_setUp_31 : decode b_K_setUp 31 = .ok (.iconst 0, 1) := by decide +kernel
theorem d_K_setUp_32 : decode b_K_setUp 32 = .ok (.putfield 30, 3) := by decide +kernel
theorem d_K_setUp_35 : decode b_K_setUp 35 = .ok (.aload_n 0, 1) := by decide +kernel
theorem d_K_setUp_36 : decode b_K_setUp 36 = .ok (.iconst 0, 1) := by decide +kernel
theorem d_K_setUp_37 : decode b_K_setUp 37 = .ok (.putfield 33, 3) := by decide +kernel
theorem d_K_setUp_40 : decode b_K_setUp 40 = .ok (.aload_n 0, 1) := by decide +kernel
theorem d_K_setUp_41 : decode b_K_setUp 41 = .ok (.iconst 0, 1) := by decide +kernel
theorem d_K_setUp_42 : decode b_K_setUp 42 = .ok (.putfield 36, 3) := by decide +kernel
theorem d_K_setUp_45 : decode b_K_setUp 45 = .ok (.aload_n 0, 1) := by decide +kernel
theorem d_K_setUp_46 : decode b_K_setUp 46 = .ok (.iconst 0, 1) := by decide +kernel
theorem d_K_setUp_47 : decode b_K_setUp 47 = .ok (.putfield 39, 3) := by decide +kernel
theorem d_K_setUp_50 : decode b_K_setUp 50 = .ok (.aload_n 0, 1) := by decide +kernel
theorem d_K_setUp_51 : decode b_K_setUp 51 = .ok (.iconst 0, 1) := by decide +kernel
theorem d_K_setUp_52 : decode b_K_setUp 52 = .ok (.putfield 42, 3) := by decide +kernel
theorem d_K_setUp_55 : decode b_K_setUp 55 = .ok (.aload_n 0, 1) := by decide +kernel
theorem d_K_setUp_56 : decode b_K_setUp 56 = .ok (.iconst 0, 1) := by decide +kernel
theorem d_K_setUp_57 : decode b_K_setUp 57 = .ok (.putfield 45, 3) := by decide +kernel
theorem d_K_setUp_60 : decode b_K_setUp 60 = .ok (.aload_n 0, 1) := by decide +kernel
theorem d_K_setUp_61 : decode b_K_setUp 61 = .ok (.iconst 0, 1) := by decide +kernel
theorem d_K_setUp_62 : decode b_K_setUp 62 = .ok (.putfield 48, 3) := by decide +kernel
theorem d_K_setUp_65 : decode b_K_setUp 65 = .ok (.return_, 1) := by decide +kernel
def f_K_setUp (p : Nat) (a1 : Int32) (a2 : Int32) (a3 : Int32) (M : Mem) : Option (Mem) :=
  nm (put M p 0 (0 : Int32)) fun (M1 : Mem) => nm (put M1 p 1 (0 : Int32)) fun (M2 : Mem) => nm (put M2 p 2 (0 : Int32)) fun (M3 : Mem) => nm (put M3 p 3 a1) fun (M4 : Mem) => nm (put M4 p 4 a2) fun (M5 : Mem) => nm (put M5 p 5 a3) fun (M6 : Mem) => nm (put M6 p 6 (0 : Int32)) fun (M7 : Mem) => nm (put M7 p 7 (0 : Int32)) fun (M8 : Mem) => nm (put M8 p 8 (0 : Int32)) fun (M9 : Mem) => nm (put M9 p 9 (0 : Int32)) fun (M10 : Mem) => nm (put M10 p 10 (0 : Int32)) fun (M11 : Mem) => nm (put M11 p 11 (0 : Int32)) fun (M12 : Mem) => nm (put M12 p 12 (0 : Int32)) fun (M13 : Mem) => some M13
set_option maxHeartbeats 4000000 in
set_option maxRecDepth 100000 in
theorem c_K_setUp (l : Launch) {w : Wc} {rr : Nat} (hw : WK w rr) (p : Nat) (hp : p ∈ kiL) (a1 : Int32) (a2 : Int32) (a3 : Int32) (M : Mem) : Ct QV l y_K_setUp b_K_setUp 4 none (rmL 0) w [.ref (wad w p), .int a1, .int a2, .int a3] M (f_K_setUp p a1 a2 a3 M) := by
  refine Ct.go (by decide) (L := [(0, .ref (wad w p)), (1, .int a1), (2, .int a2), (3, .int a3)]) rfl (Nat.le_of_ble_eq_true rfl) (fun p0 e s m args below meth c g hret => ?_)
  unfold f_K_setUp
  refine G_aload_n g (pc := 0) 0 d_K_setUp_0 rfl rfl ?_
  refine G_iconst g (pc := 1) (0 : Int32) d_K_setUp_1 rfl ?_
  refine G_put g (pc := 2) fa_K_9 fw_1_0 rfl rfl (hw.m _ (ki_lt0 hp)) (hw.k (ki_k0 hp)) d_K_setUp_2 ?_
  refine G_nmM (fun M1 => ?_)
  refine G_aload_n g (pc := 5) 0 d_K_setUp_5 rfl rfl ?_
  refine G_iconst g (pc := 6) (0 : Int32) d_K_setUp_6 rfl ?_
  refine G_put g (pc := 7) fa_K_15 fw_1_1 rfl rfl (hw.m _ (ki_lt0 hp)) (hw.k (ki_k0 hp)) d_K_setUp_7 ?_
  refine G_nmM (fun M2 => ?_)
  refine G_aload_n g (pc := 10) 0 d_K_setUp_10 rfl rfl ?_
  refine G_iconst g (pc := 11) (0 : Int32) d_K_setUp_11 rfl ?_
  refine G_put g (pc := 12) fa_K_18 fw_1_2 rfl rfl (hw.m _ (ki_lt0 hp)) (hw.k (ki_k0 hp)) d_K_setUp_12 ?_
  refine G_nmM (fun M3 => ?_)
  refine G_aload_n g (pc := 15) 0 d_K_setUp_15 rfl rfl ?_
  refine G_iload_n g (pc := 16) 1 d_K_setUp_16 rfl rfl ?_
  refine G_put g (pc := 17) fa_K_21 fw_1_3 rfl rfl (hw.m _ (ki_lt0 hp)) (hw.k (ki_k0 hp)) d_K_setUp_17 ?_
  refine G_nmM (fun M4 => ?_)
  refine G_aload_n g (pc := 20) 0 d_K_setUp_20 rfl rfl ?_
  refine G_iload_n g (pc := 21) 2 d_K_setUp_21 rfl rfl ?_
  refine G_put g (pc := 22) fa_K_24 fw_1_4 rfl rfl (hw.m _ (ki_lt0 hp)) (hw.k (ki_k0 hp)) d_K_setUp_22 ?_
  refine G_nmM (fun M5 => ?_)
  refine G_aload_n g (pc := 25) 0 d_K_setUp_25 rfl rfl ?_
  refine G_iload_n g (pc := 26) 3 d_K_setUp_26 rfl rfl ?_
  refine G_put g (pc := 27) fa_K_27 fw_1_5 rfl rfl (hw.m _ (ki_lt0 hp)) (hw.k (ki_k0 hp)) d_K_setUp_27 ?_
  refine G_nmM (fun M6 => ?_)
  refine G_aload_n g (pc := 30) 0 d_K_setUp_30 rfl rfl ?_
  refine G_iconst g (pc := 31) (0 : Int32) d_K_setUp_31 rfl ?_
  refine G_put g (pc := 32) fa_K_30 fw_1_6 rfl rfl (hw.m _ (ki_lt0 hp)) (hw.k (ki_k0 hp)) d_K_setUp_32 ?_
  refine G_nmM (fun M7 => ?_)
  refine G_aload_n g (pc := 35) 0 d_K_setUp_35 rfl rfl ?_
  refine G_iconst g (pc := 36) (0 : Int32) d_K_setUp_36 rfl ?_
  refine G_put g (pc := 37) fa_K_33 fw_1_7 rfl rfl (hw.m _ (ki_lt0 hp)) (hw.k (ki_k0 hp)) d_K_setUp_37 ?_
  refine G_nmM (fun M8 => ?_)
  refine G_aload_n g (pc := 40) 0 d_K_setUp_40 rfl rfl ?_
  refine G_iconst g (pc := 41) (0 : Int32) d_K_setUp_41 rfl ?_
  refine G_put g (pc := 42) fa_K_36 fw_1_8 rfl rfl (hw.m _ (ki_lt0 hp)) (hw.k (ki_k0 hp)) d_K_setUp_42 ?_
  refine G_nmM (fun M9 => ?_)
  refine G_aload_n g (pc := 45) 0 d_K_setUp_45 rfl rfl ?_
  refine G_iconst g (pc := 46) (0 : Int32) d_K_setUp_46 rfl ?_
  refine G_put g (pc := 47) fa_K_39 fw_1_9 rfl rfl (hw.m _ (ki_lt0 hp)) (hw.k (ki_k0 hp)) d_K_setUp_47 ?_
  refine G_nmM (fun M10 => ?_)
  refine G_aload_n g (pc := 50) 0 d_K_setUp_50 rfl rfl ?_
  refine G_iconst g (pc := 51) (0 : Int32) d_K_setUp_51 rfl ?_
  refine G_put g (pc := 52) fa_K_42 fw_1_10 rfl rfl (hw.m _ (ki_lt0 hp)) (hw.k (ki_k0 hp)) d_K_setUp_52 ?_
  refine G_nmM (fun M11 => ?_)
  refine G_aload_n g (pc := 55) 0 d_K_setUp_55 rfl rfl ?_
  refine G_iconst g (pc := 56) (0 : Int32) d_K_setUp_56 rfl ?_
  refine G_put g (pc := 57) fa_K_45 fw_1_11 rfl rfl (hw.m _ (ki_lt0 hp)) (hw.k (ki_k0 hp)) d_K_setUp_57 ?_
  refine G_nmM (fun M12 => ?_)
  refine G_aload_n g (pc := 60) 0 d_K_setUp_60 rfl rfl ?_
  refine G_iconst g (pc := 61) (0 : Int32) d_K_setUp_61 rfl ?_
  refine G_put g (pc := 62) fa_K_48 fw_1_12 rfl rfl (hw.m _ (ki_lt0 hp)) (hw.k (ki_k0 hp)) d_K_setUp_62 ?_
  refine G_nmM (fun M13 => ?_)
  exact G_return g (pc := 65) hret (Nat.le_of_ble_eq_true rfl) (Nat.le_of_ble_eq_true rfl) d_K_setUp_65

theorem d_K_copyFrom_0 : decode b_K_copyFrom 0 = .ok (.aload_n 0, 1) := by decide +kernel
theorem d_K_copyFrom_1 : decode b_K_copyFrom 1 = .ok (.aload_n 1, 1) := by decide +kernel
theorem d_K_copyFrom_2 : decode b_K_copyFrom 2 = .ok (.getfield 9, 3) := by decide +kernel
theorem d_K_copyFrom_5 : decode b_K_copyFrom 5 = .ok (.putfield 9, 3) := by decide +kernel
theorem d_K_copyFrom_8 : decode b_K_copyFrom 8 = .ok (.aload_n 0, 1) := by decide +kernel
theorem d_K_copyFrom_9 : decode b_K_copyFrom 9 = .ok (.aload_n 1, 1) := by decide +kernel
theorem d_K_copyFrom_10 : decode b_K_copyFrom 10 = .ok (.getfield 15, 3) := by decide +kernel
theorem d_K_copyFrom_13 : decode b_K_copyFrom 13 = .ok (.putfield 15, 3) := by decide +kernel
theorem d_K_copyFrom_16 : decode b_K_copyFrom 16 = .ok (.aload_n 0, 1) := by decide +kernel
theorem d_K_copyFrom_17 : decode b_K_copyFrom 17 = .ok (.aload_n 1, 1) := by decide +kernel
theorem d_K_copyFrom_18 : decode b_K_copyFrom 18 = .ok (.getfield 18, 3) := by decide +kernel
theorem d_K_copyFrom_21 : decode b_K_copyFrom 21 = .ok (.putfield 18, 3) := by decide +kernel
theorem d_K_copyFrom_24 : decode b_K_copyFrom 24 = .ok (.aload_n 0, 1) := by decide +kernel
theorem d_K_copyFrom_25 : decode b_K_copyFrom 25 = .ok (.aload_n 1, 1) := by decide +kernel
theorem d_K_copyFrom_26 : decode b_K_copyFrom 26 = .ok (.getfield 21, 3) := by decide +kernel
theorem d_K_copyFrom_29 : decode b_K_copyFrom 29 = .ok (.putfield 21, 3) := by decide +kernel
theorem d_K_copyFrom_32 : decode b_K_copyFrom 32 = .ok (.aload_n 0, 1) := by decide +kernel
theorem d_K_copyFrom_33 : decode b_K_copyFrom 33 = .ok (.aload_n 1, 1) := by decide +kernel
theorem d_K_copyFrom_34 : decode b_K_copyFrom 34 = .ok (.getfield 24, 3) := by decide +kernel
theorem d_K_copyFrom_37 : decode b_K_copyFrom 37 = .ok (.putfield 24, 3) := by decide +kernel
theorem d_K_copyFrom_40 : decode b_K_copyFrom 40 = .ok (.aload_n 0, 1) := by decide +kernel
theorem d_K_copyFrom_41 : decode b_K_copyFrom 41 = .ok (.aload_n 1, 1) := by decide +kernel
theorem d_K_copyFrom_42 : decode b_K_copyFrom 42 = .ok (.getfield 27, 3) := by decide +kernel
theorem d_K_copyFrom_45 : decode b_K_copyFrom 45 = .ok (.putfield 27, 3) := by decide +kernel
theorem d_K_copyFrom_48 : decode b_K_copyFrom 48 = .ok (.aload_n 0, 1) := by decide +kernel
theorem d_K_copyFrom_49 : decode b_K_copyFrom 49 = .ok (.aload_n 1, 1) := by decide +kernel
theorem d_K_copyFrom_50 : decode b_K_copyFrom 50 = .ok (.getfield 30, 3) := by decide +kernel
theorem d_K_copyFrom_53 : decode b_K_copyFrom 53 = .ok (.putfield 30, 3) := by decide +kernel
theorem d_K_copyFrom_56 : decode b_K_copyFrom 56 = .ok (.aload_n 0, 1) := by decide +kernel
theorem d_K_copyFrom_57 : decode b_K_copyFrom 57 = .ok (.aload_n 1, 1) := by decide +kernel
theorem d_K_copyFrom_58 : decode b_K_copyFrom 58 = .ok (.getfield 33, 3) := by decide +kernel
theorem d_K_copyFrom_61 : decode b_K_copyFrom 61 = .ok (.putfield 33, 3) := by decide +kernel
theorem d_K_copyFrom_64 : decode b_K_copyFrom 64 = .ok (.aload_n 0, 1) := by decide +kernel
theorem d_K_copyFrom_65 : decode b_K_copyFrom 65 = .ok (.aload_n 1, 1) := by decide +kernel
theorem d_K_copyFrom_66 : decode b_K_copyFrom 66 = .ok (.getfield 36, 3) := by decide +kernel
theorem d_K_copyFrom_69 : decode b_K_copyFrom 69 = .ok (.putfield 36, 3) := by decide +kernel
theorem d_K_copyFrom_72 : decode b_K_copyFrom 72 = .ok (.aload_n 0, 1) := by decide +kernel
theorem d_K_copyFrom_73 : decode b_K_copyFrom 73 = .ok (.aload_n 1, 1) := by decide +kernel
theorem d_K_copyFrom_74 : decode b_K_copyFrom 74 = .ok (.getfield 39, 3) := by decide +kernel
theorem d_K_copyFrom_77 : decode b_K_copyFrom 77 = .ok (.putfield 39, 3) := by decide +kernel
theorem d_K_copyFrom_80 : decode b_K_copyFrom 80 = .ok (.aload_n 0, 1) := by decide +kernel
theorem d_K_copyFrom_81 : decode b_K_copyFrom 81 = .ok (.aload_n 1, 1) := by decide +kernel
theorem d_K_copyFrom_82 : decode b_K_copyFrom 82 = .ok (.getfield 42, 3) := by decide +kernel
theorem d_K_copyFrom_85 : decode b_K_copyFrom 85 = .ok (.putfield 42, 3) := by decide +kernel
theorem d_K_copyFrom_88 : decode b_K_copyFrom 88 = .ok (.aload_n 0, 1) := by decide +kernel
theorem d_K_copyFrom_89 : decode b_K_copyFrom 89 = .ok (.aload_n 1, 1) := by decide +kernel
theorem d_K_copyFrom_90 : decode b_K_copyFrom 90 = .ok (.getfield 45, 3) := by decide +kernel
theorem d_K_copyFrom_93 : decode b_K_copyFrom 93 = .ok (.putfield 45, 3) := by decide +kernel
theorem d_K_copyFrom_96 : decode b_K_copyFrom 96 = .ok (.aload_n 0, 1) := by decide +kernel
theorem d_K_copyFrom_97 : decode b_K_copyFrom 97 = .ok (.aload_n 1, 1) := by decide +kernel
theorem d_K_copyFrom_98 : decode b_K_copyFrom 98 = .ok (.getfield 48, 3) := by decide +kernel
theorem d_K_copyFrom_101 : decode b_K_copyFrom 101 = .ok (.putfield 48, 3) := by decide +kernel
theorem d_K_copyFrom_104 : decode b_K_copyFrom 104 = .ok (.return_, 1) := by decide +kernel
def f_K_copyFrom (p : Nat) (a1 : Nat) (M : Mem) : Option (Mem) :=
  nm (put M p 0 (M a1 0)) fun (M1 : Mem) => nm (put M1 p 1 (M1 a1 1)) fun (M2 : Mem) => nm (put M2 p 2 (M2 a1 2)) fun (M3 : Mem) => nm (put M3 p 3 (M3 a1 3)) fun (M4 : Mem) => nm (put M4 p 4 (M4 a1 4)) fun (M5 : Mem) => nm (put M5 p 5 (M5 a1 5)) fun (M6 : Mem) => nm (put M6 p 6 (M6 a1 6)) fun (M7 : Mem) => nm (put M7 p 7 (M7 a1 7)) fun (M8 : Mem) => nm (put M8 p 8 (M8 a1 8)) fun (M9 : Mem) => nm (put M9 p 9 (M9 a1 9)) fun (M10 : Mem) => nm (put M10 p 10 (M10 a1 10)) fun (M11 : Mem) => nm (put M11 p 11 (M11 a1 11)) fun (M12 : Mem) => nm (put M12 p 12 (M12 a1 12)) fun (M13 : Mem) => some M13
set_option maxHeartbeats 4000000 in
set_option maxRecDepth 100000 in
theorem c_K_copyFrom (l : Launch) {w : Wc} {rr : Nat} (hw : WK w rr) (p : Nat) (hp : p ∈ kiL) (a1 : Nat) (ha1 : a1 ∈ kiL) (M : Mem) : Ct QV l y_K_copyFrom b_K_copyFrom 2 none (rmL 0) w [.ref (wad w p), .ref (wad w a1)] M (f_K_copyFrom p a1 M) := by
  refine Ct.go (by decide) (L := [(0, .ref (wad w p)), (1, .ref (wad w a1))]) rfl (Nat.le_of_ble_eq_true rfl) (fun p0 e s m args below meth c g hret => ?_)
  unfold f_K_copyFrom
  refine G_aload_n g (pc := 0) 0 d_K_copyFrom_0 rfl rfl ?_
  refine G_aload_n g (pc := 1) 1 d_K_copyFrom_1 rfl rfl ?_
  refine G_get g (pc := 2) fa_K_9 (hw.m _ (ki_lt0 ha1)) (hw.k (ki_k0 ha1)) d_K_copyFrom_2 ?_
  refine G_put g (pc := 5) fa_K_9 fw_1_0 rfl rfl (hw.m _ (ki_lt0 hp)) (hw.k (ki_k0 hp)) d_K_copyFrom_5 ?_
  refine G_nmM (fun M1 => ?_)
  refine G_aload_n g (pc := 8) 0 d_K_copyFrom_8 rfl rfl ?_
  refine G_aload_n g (pc := 9) 1 d_K_copyFrom_9 rfl rfl ?_
  refine G_get g (pc := 10) fa_K_15 (hw.m _ (ki_lt0 ha1)) (hw.k (ki_k0 ha1)) d_K_copyFrom_10 ?_
  refine G_put g (pc := 13) fa_K_15 fw_1_1 rfl rfl (hw.m _ (ki_lt0 hp)) (hw.k (ki_k0 hp)) d_K_copyFrom_13 ?_
  refine G_nmM (fun M2 => ?_)
  refine G_aload_n g (pc := 16) 0 d_K_copyFrom_16 rfl rfl ?_
  refine G_aload_n g (pc := 17) 1 d_K_copyFrom_17 rfl rfl ?_
  refine G_get g (pc := 18) fa_K_18 (hw.m _ (ki_lt0 ha1)) (hw.k (ki_k0 ha1)) d_K_copyFrom_18 ?_
  refine G_put g (pc := 21) fa_K_18 fw_1_2 rfl rfl (hw.m _ (ki_lt0 hp)) (hw.k (ki_k0 hp)) d_K_copyFrom_21 ?_
  refine G_nmM (fun M3 => ?_)
  refine G_aload_n g (pc := 24) 0 d_K_copyFrom_24 rfl rfl ?_
  refine G_aload_n g (pc := 25) 1 d_K_copyFrom_25 rfl rfl ?_
  refine G_get g (pc := 26) fa_K_21 (hw.m _ (ki_lt0 ha1)) (hw.k (ki_k0 ha1)) d_K_copyFrom_26 ?_
  refine G_put g (pc := 29) fa_K_21 fw_1_3 rfl rfl (hw.m _ (ki_lt0 hp)) (hw.k (ki_k0 hp)) d_K_copyFrom_29 ?_
  refine G_nmM (fun M4 => ?_)
  refine G_aload_n g (pc := 32) 0 d_K_copyFrom_32 rfl rfl ?_
  refine G_aload_n g (pc := 33) 1 d_K_copyFrom_33 rfl rfl ?_
  refine G_get g (pc := 34) fa_K_24 (hw.m _ (ki_lt0 ha1)) (hw.k (ki_k0 ha1)) d_K_copyFrom_34 ?_
  refine G_put g (pc := 37) fa_K_24 fw_1_4 rfl rfl (hw.m _ (ki_lt0 hp)) (hw.k (ki_k0 hp)) d_K_copyFrom_37 ?_
  refine G_nmM (fun M5 => ?_)
  refine G_aload_n g (pc := 40) 0 d_K_copyFrom_40 rfl rfl ?_
  refine G_aload_n g (pc := 41) 1 d_K_copyFrom_41 rfl rfl ?_
  refine G_get g (pc := 42) fa_K_27 (hw.m _ (ki_lt0 ha1)) (hw.k (ki_k0 ha1)) d_K_copyFrom_42 ?_
  refine G_put g (pc := 45) fa_K_27 fw_1_5 rfl rfl (hw.m _ (ki_lt0 hp)) (hw.k (ki_k0 hp)) d_K_copyFrom_45 ?_
  refine G_nmM (fun M6 => ?_)
  refine G_aload_n g (pc := 48) 0 d_K_copyFrom_48 rfl rfl ?_
  refine G_aload_n g (pc := 49) 1 d_K_copyFrom_49 rfl rfl ?_
  refine G_get g (pc := 50) fa_K_30 (hw.m _ (ki_lt0 ha1)) (hw.k (ki_k0 ha1)) d_K_copyFrom_50 ?_
  refine G_put g (pc := 53) fa_K_30 fw_1_6 rfl rfl (hw.m _ (ki_lt0 hp)) (hw.k (ki_k0 hp)) d_K_copyFrom_53 ?_
  refine G_nmM (fun M7 => ?_)
  refine G_aload_n g (pc := 56) 0 d_K_copyFrom_56 rfl rfl ?_
  refine G_aload_n g (pc := 57) 1 d_K_copyFrom_57 rfl rfl ?_
  refine G_get g (pc := 58) fa_K_33 (hw.m _ (ki_lt0 ha1)) (hw.k (ki_k0 ha1)) d_K_copyFrom_58 ?_
  refine G_put g (pc := 61) fa_K_33 fw_1_7 rfl rfl (hw.m _ (ki_lt0 hp)) (hw.k (ki_k0 hp)) d_K_copyFrom_61 ?_
  refine G_nmM (fun M8 => ?_)
  refine G_aload_n g (pc := 64) 0 d_K_copyFrom_64 rfl rfl ?_
  refine G_aload_n g (pc := 65) 1 d_K_copyFrom_65 rfl rfl ?_
  refine G_get g (pc := 66) fa_K_36 (hw.m _ (ki_lt0 ha1)) (hw.k (ki_k0 ha1)) d_K_copyFrom_66 ?_
  refine G_put g (pc := 69) fa_K_36 fw_1_8 rfl rfl (hw.m _ (ki_lt0 hp)) (hw.k (ki_k0 hp)) d_K_copyFrom_69 ?_
  refine G_nmM (fun M9 => ?_)
  refine G_aload_n g (pc := 72) 0 d_K_copyFrom_72 rfl rfl ?_
  refine G_aload_n g (pc := 73) 1 d_K_copyFrom_73 rfl rfl ?_
  refine G_get g (pc := 74) fa_K_39 (hw.m _ (ki_lt0 ha1)) (hw.k (ki_k0 ha1)) d_K_copyFrom_74 ?_
  refine G_put g (pc := 77) fa_K_39 fw_1_9 rfl rfl (hw.m _ (ki_lt0 hp)) (hw.k (ki_k0 hp)) d_K_copyFrom_77 ?_
  refine G_nmM (fun M10 => ?_)
  refine G_aload_n g (pc := 80) 0 d_K_copyFrom_80 rfl rfl ?_
  refine G_aload_n g (pc := 81) 1 d_K_copyFrom_81 rfl rfl ?_
  refine G_get g (pc := 82) fa_K_42 (hw.m _ (ki_lt0 ha1)) (hw.k (ki_k0 ha1)) d_K_copyFrom_82 ?_
  refine G_put g (pc := 85) fa_K_42 fw_1_10 rfl rfl (hw.m _ (ki_lt0 hp)) (hw.k (ki_k0 hp)) d_K_copyFrom_85 ?_
  refine G_nmM (fun M11 => ?_)
  refine G_aload_n g (pc := 88) 0 d_K_copyFrom_88 rfl rfl ?_
  refine G_aload_n g (pc := 89) 1 d_K_copyFrom_89 rfl rfl ?_
  refine G_get g (pc := 90) fa_K_45 (hw.m _ (ki_lt0 ha1)) (hw.k (ki_k0 ha1)) d_K_copyFrom_90 ?_
  refine G_put g (pc := 93) fa_K_45 fw_1_11 rfl rfl (hw.m _ (ki_lt0 hp)) (hw.k (ki_k0 hp)) d_K_copyFrom_93 ?_
  refine G_nmM (fun M12 => ?_)
  refine G_aload_n g (pc := 96) 0 d_K_copyFrom_96 rfl rfl ?_
  refine G_aload_n g (pc := 97) 1 d_K_copyFrom_97 rfl rfl ?_
  refine G_get g (pc := 98) fa_K_48 (hw.m _ (ki_lt0 ha1)) (hw.k (ki_k0 ha1)) d_K_copyFrom_98 ?_
  refine G_put g (pc := 101) fa_K_48 fw_1_12 rfl rfl (hw.m _ (ki_lt0 hp)) (hw.k (ki_k0 hp)) d_K_copyFrom_101 ?_
  refine G_nmM (fun M13 => ?_)
  exact G_return g (pc := 104) hret (Nat.le_of_ble_eq_true rfl) (Nat.le_of_ble_eq_true rfl) d_K_copyFrom_104

theorem d_K_windOver_0 : decode b_K_windOver 0 = .ok (.iload_n 1, 1) := by decide +kernel
theorem d_K_windOver_1 : decode b_K_windOver 1 = .ok (.aload_n 0, 1) := by decide +kernel
theorem d_K_windOver_2 : decode b_K_windOver 2 = .ok (.getfield 15, 3) := by decide +kernel
theorem d_K_windOver_5 : decode b_K_windOver 5 = .ok (.bipush 100, 2) := by decide +kernel
theorem d_K_windOver_7 : decode b_K_windOver 7 = .ok (.idiv, 1) := by decide +kernel
theorem d_K_windOver_8 : decode b_K_windOver 8 = .ok (.iadd, 1) := by decide +kernel
theorem d_K_windOver_9 : decode b_K_windOver 9 = .ok (.ireturn, 1) := by decide +kernel
def f_K_windOver (p : Nat) (a1 : Int32) (M : Mem) : Option (Int32 × Mem) :=
  some (a1 + ((M p 1) / (100 : Int32)), M)
set_option maxHeartbeats 4000000 in
set_option maxRecDepth 100000 in
theorem c_K_windOver (l : Launch) {w : Wc} {rr : Nat} (hw : WK w rr) (p : Nat) (hp : p ∈ kiL) (a1 : Int32) (M : Mem) : Ct QI l y_K_windOver b_K_windOver 2 (some .int) (rmL 0) w [.ref (wad w p), .int a1] M (f_K_windOver p a1 M) := by
  refine Ct.go (by decide) (L := [(0, .ref (wad w p)), (1, .int a1)]) rfl (Nat.le_of_ble_eq_true rfl) (fun p0 e s m args below meth c g hret => ?_)
  unfold f_K_windOver
  refine G_iload_n g (pc := 0) 1 d_K_windOver_0 rfl rfl ?_
  refine G_aload_n g (pc := 1) 0 d_K_windOver_1 rfl rfl ?_
  refine G_get g (pc := 2) fa_K_15 (hw.m _ (ki_lt0 hp)) (hw.k (ki_k0 hp)) d_K_windOver_2 ?_
  refine G_bipush g (pc := 5) (100 : Int32) d_K_windOver_5 rfl ?_
  refine G_idivK g (pc := 7) (by decide) d_K_windOver_7 ?_
  refine G_iadd g (pc := 8) d_K_windOver_8 ?_
  exact G_ireturn g (pc := 9) hret (Nat.le_of_ble_eq_true rfl) (Nat.le_of_ble_eq_true rfl) d_K_windOver_9

theorem d_K_loadUnder_0 : decode b_K_loadUnder 0 = .ok (.aload_n 0, 1) := by decide +kernel
theorem d_K_loadUnder_1 : decode b_K_loadUnder 1 = .ok (.getfield 21, 3) := by decide +kernel
theorem d_K_loadUnder_4 : decode b_K_loadUnder 4 = .ok (.iload_n 1, 1) := by decide +kernel
theorem d_K_loadUnder_5 : decode b_K_loadUnder 5 = .ok (.imul, 1) := by decide +kernel
theorem d_K_loadUnder_6 : decode b_K_loadUnder 6 = .ok (.iload_n 1, 1) := by decide +kernel
theorem d_K_loadUnder_7 : decode b_K_loadUnder 7 = .ok (.imul, 1) := by decide +kernel
theorem d_K_loadUnder_8 : decode b_K_loadUnder 8 = .ok (.bipush 8, 2) := by decide +kernel
theorem d_K_loadUnder_10 : decode b_K_loadUnder 10 = .ok (.idiv, 1) := by decide +kernel
theorem d_K_loadUnder_11 : decode b_K_loadUnder 11 = .ok (.ireturn, 1) := by decide +kernel
def f_K_loadUnder (p : Nat) (a1 : Int32) (M : Mem) : Option (Int32 × Mem) :=
  some ((((M p 3) * a1) * a1) / (8 : Int32), M)
set_option maxHeartbeats 4000000 in
set_option maxRecDepth 100000 in
theorem c_K_loadUnder (l : Launch) {w : Wc} {rr : Nat} (hw : WK w rr) (p : Nat) (hp : p ∈ kiL) (a1 : Int32) (M : Mem) : Ct QI l y_K_loadUnder b_K_loadUnder 2 (some .int) (rmL 0) w [.ref (wad w p), .int a1] M (f_K_loadUnder p a1 M) := by
  refine Ct.go (by decide) (L := [(0, .ref (wad w p)), (1, .int a1)]) rfl (Nat.le_of_ble_eq_true rfl) (fun p0 e s m args below meth c g hret => ?_)
  unfold f_K_loadUnder
  refine G_aload_n g (pc := 0) 0 d_K_loadUnder_0 rfl rfl ?_
  refine G_get g (pc := 1) fa_K_21 (hw.m _ (ki_lt0 hp)) (hw.k (ki_k0 hp)) d_K_loadUnder_1 ?_
  refine G_iload_n g (pc := 4) 1 d_K_loadUnder_4 rfl rfl ?_
  refine G_imul g (pc := 5) d_K_loadUnder_5 ?_
  refine G_iload_n g (pc := 6) 1 d_K_loadUnder_6 rfl rfl ?_
  refine G_imul g (pc := 7) d_K_loadUnder_7 ?_
  refine G_bipush g (pc := 8) (8 : Int32) d_K_loadUnder_8 rfl ?_
  refine G_idivK g (pc := 10) (by decide) d_K_loadUnder_10 ?_
  exact G_ireturn g (pc := 11) hret (Nat.le_of_ble_eq_true rfl) (Nat.le_of_ble_eq_true rfl) d_K_loadUnder_11

theorem d_K_landOnGround_0 : decode b_K_landOnGround 0 = .ok (.aload_n 0, 1) := by decide +kernel
theorem d_K_landOnGround_1 : decode b_K_landOnGround 1 = .ok (.getfield 9, 3) := by decide +kernel
theorem d_K_landOnGround_4 : decode b_K_landOnGround 4 = .ok (.iconst 1, 1) := by decide +kernel
theorem d_K_landOnGround_5 : decode b_K_landOnGround 5 = .ok (.if_icmp .ne 20, 3) := by decide +kernel
theorem d_K_landOnGround_8 : decode b_K_landOnGround 8 = .ok (.aload_n 0, 1) := by decide +kernel
theorem d_K_landOnGround_9 : decode b_K_landOnGround 9 = .ok (.getfield 15, 3) := by decide +kernel
theorem d_K_landOnGround_12 : decode b_K_landOnGround 12 = .ok (.ifCond .ne 13, 3) := by decide +kernel
theorem d_K_landOnGround_15 : decode b_K_landOnGround 15 = .ok (.aload_n 0, 1) := by decide +kernel
theorem d_K_landOnGround_16 : decode b_K_landOnGround 16 = .ok (.iconst 0, 1) := by decide +kernel
theorem d_K_landOnGround_17 : decode b_K_landOnGround 17 = .ok (.putfield 9, 3) := by decide +kernel
theorem d_K_landOnGround_20 : decode b_K_landOnGround 20 = .ok (.aload_n 0, 1) := by decide +kernel
theorem d_K_landOnGround_21 : decode b_K_landOnGround 21 = .ok (.iconst 0, 1) := by decide +kernel
theorem d_K_landOnGround_22 : decode b_K_landOnGround 22 = .ok (.putfield 39, 3) := by decide +kernel
theorem d_K_landOnGround_25 : decode b_K_landOnGround 25 = .ok (.return_, 1) := by decide +kernel
def f_K_landOnGround (p : Nat) (M : Mem) : Option (Mem) :=
  if (M p 0) = (1 : Int32) then (if (M p 1) = 0 then (nm (put M p 0 (0 : Int32)) fun (M1 : Mem) => nm (put M1 p 9 (0 : Int32)) fun (M2 : Mem) => some M2) else (some M)) else (some M)
set_option maxHeartbeats 4000000 in
set_option maxRecDepth 100000 in
theorem c_K_landOnGround (l : Launch) {w : Wc} {rr : Nat} (hw : WK w rr) (p : Nat) (hp : p ∈ kiL) (M : Mem) : Ct QV l y_K_landOnGround b_K_landOnGround 1 none (rmL 0) w [.ref (wad w p)] M (f_K_landOnGround p M) := by
  refine Ct.go (by decide) (L := [(0, .ref (wad w p))]) rfl (Nat.le_of_ble_eq_true rfl) (fun p0 e s m args below meth c g hret => ?_)
  unfold f_K_landOnGround
  refine G_aload_n g (pc := 0) 0 d_K_landOnGround_0 rfl rfl ?_
  refine G_get g (pc := 1) fa_K_9 (hw.m _ (ki_lt0 hp)) (hw.k (ki_k0 hp)) d_K_landOnGround_1 ?_
  refine G_iconst g (pc := 4) (1 : Int32) d_K_landOnGround_4 rfl ?_
  refine G_icmp_ne g (pc := 5) 25 d_K_landOnGround_5 (by decide) ?_ ?_
  · refine G_aload_n g (pc := 8) 0 d_K_landOnGround_8 rfl rfl ?_
    refine G_get g (pc := 9) fa_K_15 (hw.m _ (ki_lt0 hp)) (hw.k (ki_k0 hp)) d_K_landOnGround_9 ?_
    refine G_if_ne g (pc := 12) 25 d_K_landOnGround_12 (by decide) ?_ ?_
    · refine G_aload_n g (pc := 15) 0 d_K_landOnGround_15 rfl rfl ?_
      refine G_iconst g (pc := 16) (0 : Int32) d_K_landOnGround_16 rfl ?_
      refine G_put g (pc := 17) fa_K_9 fw_1_0 rfl rfl (hw.m _ (ki_lt0 hp)) (hw.k (ki_k0 hp)) d_K_landOnGround_17 ?_
      refine G_nmM (fun M1 => ?_)
      refine G_aload_n g (pc := 20) 0 d_K_landOnGround_20 rfl rfl ?_
      refine G_iconst g (pc := 21) (0 : Int32) d_K_landOnGround_21 rfl ?_
      refine G_put g (pc := 22) fa_K_39 fw_1_9 rfl rfl (hw.m _ (ki_lt0 hp)) (hw.k (ki_k0 hp)) d_K_landOnGround_22 ?_
      refine G_nmM (fun M2 => ?_)
      exact G_return g (pc := 25) hret (Nat.le_of_ble_eq_true rfl) (Nat.le_of_ble_eq_true rfl) d_K_landOnGround_25
    · exact G_return g (pc := 25) hret (Nat.le_of_ble_eq_true rfl) (Nat.le_of_ble_eq_true rfl) d_K_landOnGround_25
  · exact G_return g (pc := 25) hret (Nat.le_of_ble_eq_true rfl) (Nat.le_of_ble_eq_true rfl) d_K_landOnGround_25

theorem d_K_fall_0 : decode b_K_fall 0 = .ok (.aload_n 0, 1) := by decide +kernel
theorem d_K_fall_1 : decode b_K_fall 1 = .ok (.iconst 2, 1) := by decide +kernel
theorem d_K_fall_2 : decode b_K_fall 2 = .ok (.putfield 9, 3) := by decide +kernel
theorem d_K_fall_5 : decode b_K_fall 5 = .ok (.aload_n 0, 1) := by decide +kernel
theorem d_K_fall_6 : decode b_K_fall 6 = .ok (.iload_n 1, 1) := by decide +kernel
theorem d_K_fall_7 : decode b_K_fall 7 = .ok (.aload_n 0, 1) := by decide +kernel
theorem d_K_fall_8 : decode b_K_fall 8 = .ok (.getfield 15, 3) := by decide +kernel
theorem d_K_fall_11 : decode b_K_fall 11 = .ok (.imul, 1) := by decide +kernel
theorem d_K_fall_12 : decode b_K_fall 12 = .ok (.bipush 10, 2) := by decide +kernel
theorem d_K_fall_14 : decode b_K_fall 14 = .ok (.idiv, 1) := by decide +kernel
theorem d_K_fall_15 : decode b_K_fall 15 = .ok (.putfield 33, 3) := by decide +kernel
theorem d_K_fall_18 : decode b_K_fall 18 = .ok (.aload_n 0, 1) := by decide +kernel
theorem d_K_fall_19 : decode b_K_fall 19 = .ok (.iconst 0, 1) := by decide +kernel
theorem d_K_fall_20 : decode b_K_fall 20 = .ok (.putfield 15, 3) := by decide +kernel
theorem d_K_fall_23 : decode b_K_fall 23 = .ok (.aload_n 0, 1) := by decide +kernel
theorem d_K_fall_24 : decode b_K_fall 24 = .ok (.iconst 0, 1) := by decide +kernel
theorem d_K_fall_25 : decode b_K_fall 25 = .ok (.putfield 18, 3) := by decide +kernel
theorem d_K_fall_28 : decode b_K_fall 28 = .ok (.aload_n 0, 1) := by decide +kernel
theorem d_K_fall_29 : decode b_K_fall 29 = .ok (.iconst 0, 1) := by decide +kernel
theorem d_K_fall_30 : decode b_K_fall 30 = .ok (.putfield 39, 3) := by decide +kernel
theorem d_K_fall_33 : decode b_K_fall 33 = .ok (.aload_n 0, 1) := by decide +kernel
theorem d_K_fall_34 : decode b_K_fall 34 = .ok (.bipush 120, 2) := by decide +kernel
theorem d_K_fall_36 : decode b_K_fall 36 = .ok (.putfield 36, 3) := by decide +kernel
theorem d_K_fall_39 : decode b_K_fall 39 = .ok (.aload_n 0, 1) := by decide +kernel
theorem d_K_fall_40 : decode b_K_fall 40 = .ok (.dup, 1) := by decide +kernel
theorem d_K_fall_41 : decode b_K_fall 41 = .ok (.getfield 45, 3) := by decide +kernel
theorem d_K_fall_44 : decode b_K_fall 44 = .ok (.iconst 1, 1) := by decide +kernel
theorem d_K_fall_45 : decode b_K_fall 45 = .ok (.iadd, 1) := by decide +kernel
theorem d_K_fall_46 : decode b_K_fall 46 = .ok (.putfield 45, 3) := by decide +kernel
theorem d_K_fall_49 : decode b_K_fall 49 = .ok (.return_, 1) := by decide +kernel
def f_K_fall (p : Nat) (a1 : Int32) (M : Mem) : Option (Mem) :=
  nm (put M p 0 (2 : Int32)) fun (M1 : Mem) => nm (put M1 p 7 ((a1 * (M1 p 1)) / (10 : Int32))) fun (M2 : Mem) => nm (put M2 p 1 (0 : Int32)) fun (M3 : Mem) => nm (put M3 p 2 (0 : Int32)) fun (M4 : Mem) => nm (put M4 p 9 (0 : Int32)) fun (M5 : Mem) => nm (put M5 p 8 (120 : Int32)) fun (M6 : Mem) => nm (put M6 p 11 ((M6 p 11) + (1 : Int32))) fun (M7 : Mem) => some M7
set_option maxHeartbeats 4000000 in
set_option maxRecDepth 100000 in
theorem c_K_fall (l : Launch) {w : Wc} {rr : Nat} (hw : WK w rr) (p : Nat) (hp : p ∈ kiL) (a1 : Int32) (M : Mem) : Ct QV l y_K_fall b_K_fall 2 none (rmL 0) w [.ref (wad w p), .int a1] M (f_K_fall p a1 M) := by
  refine Ct.go (by decide) (L := [(0, .ref (wad w p)), (1, .int a1)]) rfl (Nat.le_of_ble_eq_true rfl) (fun p0 e s m args below meth c g hret => ?_)
  unfold f_K_fall
  refine G_aload_n g (pc := 0) 0 d_K_fall_0 rfl rfl ?_
  refine G_iconst g (pc := 1) (2 : Int32) d_K_fall_1 rfl ?_
  refine G_put g (pc := 2) fa_K_9 fw_1_0 rfl rfl (hw.m _ (ki_lt0 hp)) (hw.k (ki_k0 hp)) d_K_fall_2 ?_
  refine G_nmM (fun M1 => ?_)
  refine G_aload_n g (pc := 5) 0 d_K_fall_5 rfl rfl ?_
  refine G_iload_n g (pc := 6) 1 d_K_fall_6 rfl rfl ?_
  refine G_aload_n g (pc := 7) 0 d_K_fall_7 rfl rfl ?_
  refine G_get g (pc := 8) fa_K_15 (hw.m _ (ki_lt0 hp)) (hw.k (ki_k0 hp)) d_K_fall_8 ?_
  refine G_imul g (pc := 11) d_K_fall_11 ?_
  refine G_bipush g (pc := 12) (10 : Int32) d_K_fall_12 rfl ?_
  refine G_idivK g (pc := 14) (by decide) d_K_fall_14 ?_
  refine G_put g (pc := 15) fa_K_33 fw_1_7 rfl rfl (hw.m _ (ki_lt0 hp)) (hw.k (ki_k0 hp)) d_K_fall_15 ?_
  refine G_nmM (fun M2 => ?_)
  refine G_aload_n g (pc := 18) 0 d_K_fall_18 rfl rfl ?_
  refine G_iconst g (pc := 19) (0 : Int32) d_K_fall_19 rfl ?_
  refine G_put g (pc := 20) fa_K_15 fw_1_1 rfl rfl (hw.m _ (ki_lt0 hp)) (hw.k (ki_k0 hp)) d_K_fall_20 ?_
  refine G_nmM (fun M3 => ?_)
  refine G_aload_n g (pc := 23) 0 d_K_fall_23 rfl rfl ?_
  refine G_iconst g (pc := 24) (0 : Int32) d_K_fall_24 rfl ?_
  refine G_put g (pc := 25) fa_K_18 fw_1_2 rfl rfl (hw.m _ (ki_lt0 hp)) (hw.k (ki_k0 hp)) d_K_fall_25 ?_
  refine G_nmM (fun M4 => ?_)
  refine G_aload_n g (pc := 28) 0 d_K_fall_28 rfl rfl ?_
  refine G_iconst g (pc := 29) (0 : Int32) d_K_fall_29 rfl ?_
  refine G_put g (pc := 30) fa_K_39 fw_1_9 rfl rfl (hw.m _ (ki_lt0 hp)) (hw.k (ki_k0 hp)) d_K_fall_30 ?_
  refine G_nmM (fun M5 => ?_)
  refine G_aload_n g (pc := 33) 0 d_K_fall_33 rfl rfl ?_
  refine G_bipush g (pc := 34) (120 : Int32) d_K_fall_34 rfl ?_
  refine G_put g (pc := 36) fa_K_36 fw_1_8 rfl rfl (hw.m _ (ki_lt0 hp)) (hw.k (ki_k0 hp)) d_K_fall_36 ?_
  refine G_nmM (fun M6 => ?_)
  refine G_aload_n g (pc := 39) 0 d_K_fall_39 rfl rfl ?_
  refine G_dup g (pc := 40) d_K_fall_40 rfl ?_
  refine G_get g (pc := 41) fa_K_45 (hw.m _ (ki_lt0 hp)) (hw.k (ki_k0 hp)) d_K_fall_41 ?_
  refine G_iconst g (pc := 44) (1 : Int32) d_K_fall_44 rfl ?_
  refine G_iadd g (pc := 45) d_K_fall_45 ?_
  refine G_put g (pc := 46) fa_K_45 fw_1_11 rfl rfl (hw.m _ (ki_lt0 hp)) (hw.k (ki_k0 hp)) d_K_fall_46 ?_
  refine G_nmM (fun M7 => ?_)
  exact G_return g (pc := 49) hret (Nat.le_of_ble_eq_true rfl) (Nat.le_of_ble_eq_true rfl) d_K_fall_49

theorem d_K_fly_0 : decode b_K_fly 0 = .ok (.aload_n 0, 1) := by decide +kernel
theorem d_K_fly_1 : decode b_K_fly 1 = .ok (.dup, 1) := by decide +kernel
theorem d_K_fly_2 : decode b_K_fly 2 = .ok (.getfield 39, 3) := by decide +kernel
theorem d_K_fly_5 : decode b_K_fly 5 = .ok (.iconst 1, 1) := by decide +kernel
theorem d_K_fly_6 : decode b_K_fly 6 = .ok (.iadd, 1) := by decide +kernel
theorem d_K_fly_7 : decode b_K_fly 7 = .ok (.putfield 39, 3) := by decide +kernel
theorem d_K_fly_10 : decode b_K_fly 10 = .ok (.aload_n 0, 1) := by decide +kernel
theorem d_K_fly_11 : decode b_K_fly 11 = .ok (.iload_n 1, 1) := by decide +kernel
theorem d_K_fly_12 : decode b_K_fly 12 = .ok (.invokevirtual 59, 3) := by decide +kernel
theorem d_K_fly_15 : decode b_K_fly 15 = .ok (.aload_n 0, 1) := by decide +kernel
theorem d_K_fly_16 : decode b_K_fly 16 = .ok (.getfield 24, 3) := by decide +kernel
theorem d_K_fly_19 : decode b_K_fly 19 = .ok (.isub, 1) := by decide +kernel
theorem d_K_fly_20 : decode b_K_fly 20 = .ok (.istore_n 2, 1) := by decide +kernel
theorem d_K_fly_21 : decode b_K_fly 21 = .ok (.iload_n 2, 1) := by decide +kernel
theorem d_K_fly_22 : decode b_K_fly 22 = .ok (.ifCond .le 13, 3) := by decide +kernel
theorem d_K_fly_25 : decode b_K_fly 25 = .ok (.aload_n 0, 1) := by decide +kernel
theorem d_K_fly_26 : decode b_K_fly 26 = .ok (.dup, 1) := by decide +kernel
theorem d_K_fly_27 : decode b_K_fly 27 = .ok (.getfield 30, 3) := by decide +kernel
theorem d_K_fly_30 : decode b_K_fly 30 = .ok (.iload_n 2, 1) := by decide +kernel
theorem d_K_fly_31 : decode b_K_fly 31 = .ok (.iadd, 1) := by decide +kernel
theorem d_K_fly_32 : decode b_K_fly 32 = .ok (.putfield 30, 3) := by decide +kernel
theorem d_K_fly_35 : decode b_K_fly 35 = .ok (.aload_n 0, 1) := by decide +kernel
theorem d_K_fly_36 : decode b_K_fly 36 = .ok (.getfield 30, 3) := by decide +kernel
theorem d_K_fly_39 : decode b_K_fly 39 = .ok (.aload_n 0, 1) := by decide +kernel
theorem d_K_fly_40 : decode b_K_fly 40 = .ok (.getfield 27, 3) := by decide +kernel
theorem d_K_fly_43 : decode b_K_fly 43 = .ok (.if_icmp .lt 9, 3) := by decide +kernel
theorem d_K_fly_46 : decode b_K_fly 46 = .ok (.aload_n 0, 1) := by decide +kernel
theorem d_K_fly_47 : decode b_K_fly 47 = .ok (.iload_n 1, 1) := by decide +kernel
theorem d_K_fly_48 : decode b_K_fly 48 = .ok (.invokevirtual 62, 3) := by decide +kernel
theorem d_K_fly_51 : decode b_K_fly 51 = .ok (.return_, 1) := by decide +kernel
theorem d_K_fly_52 : decode b_K_fly 52 = .ok (.iload_n 1, 1) := by decide +kernel
theorem d_K_fly_53 : decode b_K_fly 53 = .ok (.iconst 5, 1) := by decide +kernel
theorem d_K_fly_54 : decode b_K_fly 54 = .ok (.if_icmp .lt 23, 3) := by decide +kernel
theorem d_K_fly_57 : decode b_K_fly 57 = .ok (.aload_n 0, 1) := by decide +kernel
theorem d_K_fly_58 : decode b_K_fly 58 = .ok (.aload_n 0, 1) := by decide +kernel
theorem d_K_fly_59 : decode b_K_fly 59 = .ok (.getfield 15, 3) := by decide +kernel
theorem d_K_fly_62 : decode b_K_fly 62 = .ok (.iload_n 1, 1) := by decide +kernel
theorem d_K_fly_63 : decode b_K_fly 63 = .ok (.iadd, 1) := by decide +kernel
theorem d_K_fly_64 : decode b_K_fly 64 = .ok (.aload_n 0, 1) := by decide +kernel
theorem d_K_fly_65 : decode b_K_fly 65 = .ok (.getfield 18, 3) := by decide +kernel
theorem d_K_fly_68 : decode b_K_fly 68 = .ok (.invokestatic 65, 3) := by decide +kernel
theorem d_K_fly_71 : decode b_K_fly 71 = .ok (.putfield 15, 3) := by decide +kernel
theorem d_K_fly_74 : decode b_K_fly 74 = .ok (.goto 20, 3) := by decide +kernel
theorem d_K_fly_77 : decode b_K_fly 77 = .ok (.aload_n 0, 1) := by decide +kernel
theorem d_K_fly_78 : decode b_K_fly 78 = .ok (.aload_n 0, 1) := by decide +kernel
theorem d_K_fly_79 : decode b_K_fly 79 = .ok (.getfield 15, 3) := by decide +kernel
theorem d_K_fly_82 : decode b_K_fly 82 = .ok (.bipush 6, 2) := by decide +kernel
theorem d_K_fly_84 : decode b_K_fly 84 = .ok (.iload_n 1, 1) := by decide +kernel
theorem d_K_fly_85 : decode b_K_fly 85 = .ok (.isub, 1) := by decide +kernel
theorem d_K_fly_86 : decode b_K_fly 86 = .ok (.isub, 1) := by decide +kernel
theorem d_K_fly_87 : decode b_K_fly 87 = .ok (.iconst 0, 1) := by decide +kernel
theorem d_K_fly_88 : decode b_K_fly 88 = .ok (.invokestatic 71, 3) := by decide +kernel
theorem d_K_fly_91 : decode b_K_fly 91 = .ok (.putfield 15, 3) := by decide +kernel
theorem d_K_fly_94 : decode b_K_fly 94 = .ok (.aload_n 0, 1) := by decide +kernel
theorem d_K_fly_95 : decode b_K_fly 95 = .ok (.invokevirtual 74, 3) := by decide +kernel
theorem d_K_fly_98 : decode b_K_fly 98 = .ok (.return_, 1) := by decide +kernel
theorem cc_K_59 : CV "KiteLogger$Kite" 59 y_K_loadUnder b_K_loadUnder 2 (some .int) 1 := ⟨TT_in (i := 705) (by decide +kernel) (by decide +kernel), TT_in (i := 706) (by decide +kernel) (by decide +kernel), TT_in (i := 707) (by decide +kernel) (by decide +kernel), TT_in (i := 95) (by decide +kernel) (by decide +kernel), TT_in (i := 708) (by decide +kernel) (by decide +kernel), ⟨by decide +kernel, by decide +kernel, by decide +kernel⟩⟩
theorem ma_K_71 : Cond.methodLink "KiteLogger$Kite" 71 Lib.Math.max.name ∈ TT ∧ Cond.static Lib.Math.max.name ∈ TT ∧ Cond.initialized "java/lang/Math" ∈ TT ∧ Cond.code Lib.Math.max.name Lib.Math.max.code 2 (some .int) ∈ TT := ⟨TT_in (i := 714) (by decide +kernel) (by decide +kernel), TT_in (i := 327) (by decide +kernel) (by decide +kernel), TT_in (i := 91) (by decide +kernel) (by decide +kernel), TT_in (i := 328) (by decide +kernel) (by decide +kernel)⟩
theorem cc_K_74 : CV "KiteLogger$Kite" 74 y_K_landOnGround b_K_landOnGround 1 none 0 := ⟨TT_in (i := 715) (by decide +kernel) (by decide +kernel), TT_in (i := 717) (by decide +kernel) (by decide +kernel), TT_in (i := 3) (by decide +kernel) (by decide +kernel), TT_in (i := 95) (by decide +kernel) (by decide +kernel), TT_in (i := 718) (by decide +kernel) (by decide +kernel), ⟨by decide +kernel, by decide +kernel, by decide +kernel⟩⟩
theorem ma_K_65 : Cond.methodLink "KiteLogger$Kite" 65 Lib.Math.min.name ∈ TT ∧ Cond.static Lib.Math.min.name ∈ TT ∧ Cond.initialized "java/lang/Math" ∈ TT ∧ Cond.code Lib.Math.min.name Lib.Math.min.code 2 (some .int) ∈ TT := ⟨TT_in (i := 713) (by decide +kernel) (by decide +kernel), TT_in (i := 177) (by decide +kernel) (by decide +kernel), TT_in (i := 91) (by decide +kernel) (by decide +kernel), TT_in (i := 178) (by decide +kernel) (by decide +kernel)⟩
theorem cc_K_62 : CV "KiteLogger$Kite" 62 y_K_fall b_K_fall 2 none 1 := ⟨TT_in (i := 709) (by decide +kernel) (by decide +kernel), TT_in (i := 711) (by decide +kernel) (by decide +kernel), TT_in (i := 2) (by decide +kernel) (by decide +kernel), TT_in (i := 95) (by decide +kernel) (by decide +kernel), TT_in (i := 712) (by decide +kernel) (by decide +kernel), ⟨by decide +kernel, by decide +kernel, by decide +kernel⟩⟩
def f_K_fly (p : Nat) (a1 : Int32) (M : Mem) : Option (Mem) :=
  nm (put M p 9 ((M p 9) + (1 : Int32))) fun (M1 : Mem) => bnd (f_K_loadUnder p a1 M1) fun (x2 : Int32) (M3 : Mem) => nm (x2 - (M3 p 4)) fun (x4 : Int32) => if 0 < x4 then (nm (put M3 p 6 ((M3 p 6) + x4)) fun (M5 : Mem) => if (M5 p 6) < (M5 p 5) then (if a1 < (5 : Int32) then (nm (put M5 p 1 (imax ((M5 p 1) - ((6 : Int32) - a1)) (0 : Int32))) fun (M6 : Mem) => bndM (f_K_landOnGround p M6) fun (M8 : Mem) => some M8) else (nm (put M5 p 1 (imin ((M5 p 1) + a1) (M5 p 2))) fun (M9 : Mem) => bndM (f_K_landOnGround p M9) fun (M11 : Mem) => some M11)) else (bndM (f_K_fall p a1 M5) fun (M13 : Mem) => some M13)) else (if (M3 p 6) < (M3 p 5) then (if a1 < (5 : Int32) then (nm (put M3 p 1 (imax ((M3 p 1) - ((6 : Int32) - a1)) (0 : Int32))) fun (M14 : Mem) => bndM (f_K_landOnGround p M14) fun (M16 : Mem) => some M16) else (nm (put M3 p 1 (imin ((M3 p 1) + a1) (M3 p 2))) fun (M17 : Mem) => bndM (f_K_landOnGround p M17) fun (M19 : Mem) => some M19)) else (bndM (f_K_fall p a1 M3) fun (M21 : Mem) => some M21))
set_option maxHeartbeats 4000000 in
set_option maxRecDepth 100000 in
theorem c_K_fly (l : Launch) {w : Wc} {rr : Nat} (hw : WK w rr) (p : Nat) (hp : p ∈ kiL) (a1 : Int32) (M : Mem) : Ct QV l y_K_fly b_K_fly 3 none (rmL 1) w [.ref (wad w p), .int a1] M (f_K_fly p a1 M) := by
  refine Ct.go (by decide) (L := [(0, .ref (wad w p)), (1, .int a1)]) rfl (Nat.le_of_ble_eq_true rfl) (fun p0 e s m args below meth c g hret => ?_)
  unfold f_K_fly
  refine G_aload_n g (pc := 0) 0 d_K_fly_0 rfl rfl ?_
  refine G_dup g (pc := 1) d_K_fly_1 rfl ?_
  refine G_get g (pc := 2) fa_K_39 (hw.m _ (ki_lt0 hp)) (hw.k (ki_k0 hp)) d_K_fly_2 ?_
  refine G_iconst g (pc := 5) (1 : Int32) d_K_fly_5 rfl ?_
  refine G_iadd g (pc := 6) d_K_fly_6 ?_
  refine G_put g (pc := 7) fa_K_39 fw_1_9 rfl rfl (hw.m _ (ki_lt0 hp)) (hw.k (ki_k0 hp)) d_K_fly_7 ?_
  refine G_nmM (fun M1 => ?_)
  refine G_aload_n g (pc := 10) 0 d_K_fly_10 rfl rfl ?_
  refine G_iload_n g (pc := 11) 1 d_K_fly_11 rfl rfl ?_
  refine G_cVI g (pc := 12) (As := [.int a1]) (st := []) cc_K_59 (c_K_loadUnder l hw p hp a1 M1) (hw.m _ (ki_lt0 hp)) (hw.k (ki_k0 hp)) rfl (by decide) rfl ⟨(Nat.le_of_ble_eq_true rfl), (Nat.le_of_ble_eq_true rfl)⟩ ⟨(Nat.le_of_ble_eq_true rfl), (Nat.le_of_ble_eq_true rfl)⟩ (Nat.le_of_ble_eq_true rfl) d_K_fly_12 (fun x2 M3 => ?_)
  refine G_aload_n g (pc := 15) 0 d_K_fly_15 rfl rfl ?_
  refine G_get g (pc := 16) fa_K_24 (hw.m _ (ki_lt0 hp)) (hw.k (ki_k0 hp)) d_K_fly_16 ?_
  refine G_isub g (pc := 19) d_K_fly_19 ?_
  refine G_nmI (fun x4 => ?_)
  refine G_istore_n g (pc := 20) _ d_K_fly_20 rfl (Nat.le_of_ble_eq_true rfl) rfl ?_
  refine G_iload_n g (pc := 21) 0 d_K_fly_21 rfl rfl ?_
  refine G_if_le g (pc := 22) 35 d_K_fly_22 (by decide) ?_ ?_
  · refine G_aload_n g (pc := 25) 1 d_K_fly_25 rfl rfl ?_
    refine G_dup g (pc := 26) d_K_fly_26 rfl ?_
    refine G_get g (pc := 27) fa_K_30 (hw.m _ (ki_lt0 hp)) (hw.k (ki_k0 hp)) d_K_fly_27 ?_
    refine G_iload_n g (pc := 30) 0 d_K_fly_30 rfl rfl ?_
    refine G_iadd g (pc := 31) d_K_fly_31 ?_
    refine G_put g (pc := 32) fa_K_30 fw_1_6 rfl rfl (hw.m _ (ki_lt0 hp)) (hw.k (ki_k0 hp)) d_K_fly_32 ?_
    refine G_nmM (fun M5 => ?_)
    refine G_aload_n g (pc := 35) 1 d_K_fly_35 rfl rfl ?_
    refine G_get g (pc := 36) fa_K_30 (hw.m _ (ki_lt0 hp)) (hw.k (ki_k0 hp)) d_K_fly_36 ?_
    refine G_aload_n g (pc := 39) 1 d_K_fly_39 rfl rfl ?_
    refine G_get g (pc := 40) fa_K_27 (hw.m _ (ki_lt0 hp)) (hw.k (ki_k0 hp)) d_K_fly_40 ?_
    refine G_icmp_lt g (pc := 43) 52 d_K_fly_43 (by decide) ?_ ?_
    · refine G_iload_n g (pc := 52) 2 d_K_fly_52 rfl rfl ?_
      refine G_iconst g (pc := 53) (5 : Int32) d_K_fly_53 rfl ?_
      refine G_icmp_lt g (pc := 54) 77 d_K_fly_54 (by decide) ?_ ?_
      · refine G_aload_n g (pc := 77) 1 d_K_fly_77 rfl rfl ?_
        refine G_aload_n g (pc := 78) 1 d_K_fly_78 rfl rfl ?_
        refine G_get g (pc := 79) fa_K_15 (hw.m _ (ki_lt0 hp)) (hw.k (ki_k0 hp)) d_K_fly_79 ?_
        refine G_bipush g (pc := 82) (6 : Int32) d_K_fly_82 rfl ?_
        refine G_iload_n g (pc := 84) 2 d_K_fly_84 rfl rfl ?_
        refine G_isub g (pc := 85) d_K_fly_85 ?_
        refine G_isub g (pc := 86) d_K_fly_86 ?_
        refine G_iconst g (pc := 87) (0 : Int32) d_K_fly_87 rfl ?_
        refine G_mmax g (pc := 88) ma_K_71 ⟨(Nat.le_of_ble_eq_true rfl), (Nat.le_of_ble_eq_true rfl), (Nat.le_of_ble_eq_true rfl), (Nat.le_of_ble_eq_true rfl)⟩ d_K_fly_88 ?_
        refine G_put g (pc := 91) fa_K_15 fw_1_1 rfl rfl (hw.m _ (ki_lt0 hp)) (hw.k (ki_k0 hp)) d_K_fly_91 ?_
        refine G_nmM (fun M6 => ?_)
        refine G_aload_n g (pc := 94) 1 d_K_fly_94 rfl rfl ?_
        refine G_cVV g (pc := 95) (As := []) (st := []) cc_K_74 (c_K_landOnGround l hw p hp M6) (hw.m _ (ki_lt0 hp)) (hw.k (ki_k0 hp)) rfl (by decide) rfl ⟨(Nat.le_of_ble_eq_true rfl), (Nat.le_of_ble_eq_true rfl)⟩ ⟨(Nat.le_of_ble_eq_true rfl), (Nat.le_of_ble_eq_true rfl)⟩ (Nat.le_of_ble_eq_true rfl) d_K_fly_95 (fun M8 => ?_)
        exact G_return g (pc := 98) hret (Nat.le_of_ble_eq_true rfl) (Nat.le_of_ble_eq_true rfl) d_K_fly_98
      · refine G_aload_n g (pc := 57) 1 d_K_fly_57 rfl rfl ?_
        refine G_aload_n g (pc := 58) 1 d_K_fly_58 rfl rfl ?_
        refine G_get g (pc := 59) fa_K_15 (hw.m _ (ki_lt0 hp)) (hw.k (ki_k0 hp)) d_K_fly_59 ?_
        refine G_iload_n g (pc := 62) 2 d_K_fly_62 rfl rfl ?_
        refine G_iadd g (pc := 63) d_K_fly_63 ?_
        refine G_aload_n g (pc := 64) 1 d_K_fly_64 rfl rfl ?_
        refine G_get g (pc := 65) fa_K_18 (hw.m _ (ki_lt0 hp)) (hw.k (ki_k0 hp)) d_K_fly_65 ?_
        refine G_mmin g (pc := 68) ma_K_65 ⟨(Nat.le_of_ble_eq_true rfl), (Nat.le_of_ble_eq_true rfl), (Nat.le_of_ble_eq_true rfl), (Nat.le_of_ble_eq_true rfl)⟩ d_K_fly_68 ?_
        refine G_put g (pc := 71) fa_K_15 fw_1_1 rfl rfl (hw.m _ (ki_lt0 hp)) (hw.k (ki_k0 hp)) d_K_fly_71 ?_
        refine G_nmM (fun M9 => ?_)
        refine G_goto g (pc := 74) 94 d_K_fly_74 (by decide) ?_
        refine G_aload_n g (pc := 94) 1 d_K_fly_94 rfl rfl ?_
        refine G_cVV g (pc := 95) (As := []) (st := []) cc_K_74 (c_K_landOnGround l hw p hp M9) (hw.m _ (ki_lt0 hp)) (hw.k (ki_k0 hp)) rfl (by decide) rfl ⟨(Nat.le_of_ble_eq_true rfl), (Nat.le_of_ble_eq_true rfl)⟩ ⟨(Nat.le_of_ble_eq_true rfl), (Nat.le_of_ble_eq_true rfl)⟩ (Nat.le_of_ble_eq_true rfl) d_K_fly_95 (fun M11 => ?_)
        exact G_return g (pc := 98) hret (Nat.le_of_ble_eq_true rfl) (Nat.le_of_ble_eq_true rfl) d_K_fly_98
    · refine G_aload_n g (pc := 46) 1 d_K_fly_46 rfl rfl ?_
      refine G_iload_n g (pc := 47) 2 d_K_fly_47 rfl rfl ?_
      refine G_cVV g (pc := 48) (As := [.int a1]) (st := []) cc_K_62 (c_K_fall l hw p hp a1 M5) (hw.m _ (ki_lt0 hp)) (hw.k (ki_k0 hp)) rfl (by decide) rfl ⟨(Nat.le_of_ble_eq_true rfl), (Nat.le_of_ble_eq_true rfl)⟩ ⟨(Nat.le_of_ble_eq_true rfl), (Nat.le_of_ble_eq_true rfl)⟩ (Nat.le_of_ble_eq_true rfl) d_K_fly_48 (fun M13 => ?_)
      exact G_return g (pc := 51) hret (Nat.le_of_ble_eq_true rfl) (Nat.le_of_ble_eq_true rfl) d_K_fly_51
  · refine G_aload_n g (pc := 35) 1 d_K_fly_35 rfl rfl ?_
    refine G_get g (pc := 36) fa_K_30 (hw.m _ (ki_lt0 hp)) (hw.k (ki_k0 hp)) d_K_fly_36 ?_
    refine G_aload_n g (pc := 39) 1 d_K_fly_39 rfl rfl ?_
    refine G_get g (pc := 40) fa_K_27 (hw.m _ (ki_lt0 hp)) (hw.k (ki_k0 hp)) d_K_fly_40 ?_
    refine G_icmp_lt g (pc := 43) 52 d_K_fly_43 (by decide) ?_ ?_
    · refine G_iload_n g (pc := 52) 2 d_K_fly_52 rfl rfl ?_
      refine G_iconst g (pc := 53) (5 : Int32) d_K_fly_53 rfl ?_
      refine G_icmp_lt g (pc := 54) 77 d_K_fly_54 (by decide) ?_ ?_
      · refine G_aload_n g (pc := 77) 1 d_K_fly_77 rfl rfl ?_
        refine G_aload_n g (pc := 78) 1 d_K_fly_78 rfl rfl ?_
        refine G_get g (pc := 79) fa_K_15 (hw.m _ (ki_lt0 hp)) (hw.k (ki_k0 hp)) d_K_fly_79 ?_
        refine G_bipush g (pc := 82) (6 : Int32) d_K_fly_82 rfl ?_
        refine G_iload_n g (pc := 84) 2 d_K_fly_84 rfl rfl ?_
        refine G_isub g (pc := 85) d_K_fly_85 ?_
        refine G_isub g (pc := 86) d_K_fly_86 ?_
        refine G_iconst g (pc := 87) (0 : Int32) d_K_fly_87 rfl ?_
        refine G_mmax g (pc := 88) ma_K_71 ⟨(Nat.le_of_ble_eq_true rfl), (Nat.le_of_ble_eq_true rfl), (Nat.le_of_ble_eq_true rfl), (Nat.le_of_ble_eq_true rfl)⟩ d_K_fly_88 ?_
        refine G_put g (pc := 91) fa_K_15 fw_1_1 rfl rfl (hw.m _ (ki_lt0 hp)) (hw.k (ki_k0 hp)) d_K_fly_91 ?_
        refine G_nmM (fun M14 => ?_)
        refine G_aload_n g (pc := 94) 1 d_K_fly_94 rfl rfl ?_
        refine G_cVV g (pc := 95) (As := []) (st := []) cc_K_74 (c_K_landOnGround l hw p hp M14) (hw.m _ (ki_lt0 hp)) (hw.k (ki_k0 hp)) rfl (by decide) rfl ⟨(Nat.le_of_ble_eq_true rfl), (Nat.le_of_ble_eq_true rfl)⟩ ⟨(Nat.le_of_ble_eq_true rfl), (Nat.le_of_ble_eq_true rfl)⟩ (Nat.le_of_ble_eq_true rfl) d_K_fly_95 (fun M16 => ?_)
        exact G_return g (pc := 98) hret (Nat.le_of_ble_eq_true rfl) (Nat.le_of_ble_eq_true rfl) d_K_fly_98
      · refine G_aload_n g (pc := 57) 1 d_K_fly_57 rfl rfl ?_
        refine G_aload_n g (pc := 58) 1 d_K_fly_58 rfl rfl ?_
        refine G_get g (pc := 59) fa_K_15 (hw.m _ (ki_lt0 hp)) (hw.k (ki_k0 hp)) d_K_fly_59 ?_
        refine G_iload_n g (pc := 62) 2 d_K_fly_62 rfl rfl ?_
        refine G_iadd g (pc := 63) d_K_fly_63 ?_
        refine G_aload_n g (pc := 64) 1 d_K_fly_64 rfl rfl ?_
        refine G_get g (pc := 65) fa_K_18 (hw.m _ (ki_lt0 hp)) (hw.k (ki_k0 hp)) d_K_fly_65 ?_
        refine G_mmin g (pc := 68) ma_K_65 ⟨(Nat.le_of_ble_eq_true rfl), (Nat.le_of_ble_eq_true rfl), (Nat.le_of_ble_eq_true rfl), (Nat.le_of_ble_eq_true rfl)⟩ d_K_fly_68 ?_
        refine G_put g (pc := 71) fa_K_15 fw_1_1 rfl rfl (hw.m _ (ki_lt0 hp)) (hw.k (ki_k0 hp)) d_K_fly_71 ?_
        refine G_nmM (fun M17 => ?_)
        refine G_goto g (pc := 74) 94 d_K_fly_74 (by decide) ?_
        refine G_aload_n g (pc := 94) 1 d_K_fly_94 rfl rfl ?_
        refine G_cVV g (pc := 95) (As := []) (st := []) cc_K_74 (c_K_landOnGround l hw p hp M17) (hw.m _ (ki_lt0 hp)) (hw.k (ki_k0 hp)) rfl (by decide) rfl ⟨(Nat.le_of_ble_eq_true rfl), (Nat.le_of_ble_eq_true rfl)⟩ ⟨(Nat.le_of_ble_eq_true rfl), (Nat.le_of_ble_eq_true rfl)⟩ (Nat.le_of_ble_eq_true rfl) d_K_fly_95 (fun M19 => ?_)
        exact G_return g (pc := 98) hret (Nat.le_of_ble_eq_true rfl) (Nat.le_of_ble_eq_true rfl) d_K_fly_98
    · refine G_aload_n g (pc := 46) 1 d_K_fly_46 rfl rfl ?_
      refine G_iload_n g (pc := 47) 2 d_K_fly_47 rfl rfl ?_
      refine G_cVV g (pc := 48) (As := [.int a1]) (st := []) cc_K_62 (c_K_fall l hw p hp a1 M3) (hw.m _ (ki_lt0 hp)) (hw.k (ki_k0 hp)) rfl (by decide) rfl ⟨(Nat.le_of_ble_eq_true rfl), (Nat.le_of_ble_eq_true rfl)⟩ ⟨(Nat.le_of_ble_eq_true rfl), (Nat.le_of_ble_eq_true rfl)⟩ (Nat.le_of_ble_eq_true rfl) d_K_fly_48 (fun M21 => ?_)
      exact G_return g (pc := 51) hret (Nat.le_of_ble_eq_true rfl) (Nat.le_of_ble_eq_true rfl) d_K_fly_51

theorem d_K_passTick_0 : decode b_K_passTick 0 = .ok (.aload_n 0, 1) := by decide +kernel
theorem d_K_passTick_1 : decode b_K_passTick 1 = .ok (.getfield 9, 3) := by decide +kernel
theorem d_K_passTick_4 : decode b_K_passTick 4 = .ok (.iconst 1, 1) := by decide +kernel
theorem d_K_passTick_5 : decode b_K_passTick 5 = .ok (.if_icmp .ne 15, 3) := by decide +kernel
theorem d_K_passTick_8 : decode b_K_passTick 8 = .ok (.aload_n 0, 1) := by decide +kernel
theorem d_K_passTick_9 : decode b_K_passTick 9 = .ok (.aload_n 0, 1) := by decide +kernel
theorem d_K_passTick_10 : decode b_K_passTick 10 = .ok (.iload_n 1, 1) := by decide +kernel
theorem d_K_passTick_11 : decode b_K_passTick 11 = .ok (.invokevirtual 51, 3) := by decide +kernel
theorem d_K_passTick_14 : decode b_K_passTick 14 = .ok (.invokevirtual 55, 3) := by decide +kernel
theorem d_K_passTick_17 : decode b_K_passTick 17 = .ok (.goto 28, 3) := by decide +kernel
theorem d_K_passTick_20 : decode b_K_passTick 20 = .ok (.aload_n 0, 1) := by decide +kernel
theorem d_K_passTick_21 : decode b_K_passTick 21 = .ok (.getfield 9, 3) := by decide +kernel
theorem d_K_passTick_24 : decode b_K_passTick 24 = .ok (.iconst 2, 1) := by decide +kernel
theorem d_K_passTick_25 : decode b_K_passTick 25 = .ok (.if_icmp .ne 20, 3) := by decide +kernel
theorem d_K_passTick_28 : decode b_K_passTick 28 = .ok (.aload_n 0, 1) := by decide +kernel
theorem d_K_passTick_29 : decode b_K_passTick 29 = .ok (.getfield 36, 3) := by decide +kernel
theorem d_K_passTick_32 : decode b_K_passTick 32 = .ok (.ifCond .le 13, 3) := by decide +kernel
theorem d_K_passTick_35 : decode b_K_passTick 35 = .ok (.aload_n 0, 1) := by decide +kernel
theorem d_K_passTick_36 : decode b_K_passTick 36 = .ok (.dup, 1) := by decide +kernel
theorem d_K_passTick_37 : decode b_K_passTick 37 = .ok (.getfield 36, 3) := by decide +kernel
theorem d_K_passTick_40 : decode b_K_passTick 40 = .ok (.iconst 1, 1) := by decide +kernel
theorem d_K_passTick_41 : decode b_K_passTick 41 = .ok (.isub, 1) := by decide +kernel
theorem d_K_passTick_42 : decode b_K_passTick 42 = .ok (.putfield 36, 3) := by decide +kernel
theorem d_K_passTick_45 : decode b_K_passTick 45 = .ok (.return_, 1) := by decide +kernel
theorem cc_K_51 : CV "KiteLogger$Kite" 51 y_K_windOver b_K_windOver 2 (some .int) 1 := ⟨TT_in (i := 697) (by decide +kernel) (by decide +kernel), TT_in (i := 698) (by decide +kernel) (by decide +kernel), TT_in (i := 699) (by decide +kernel) (by decide +kernel), TT_in (i := 95) (by decide +kernel) (by decide +kernel), TT_in (i := 700) (by decide +kernel) (by decide +kernel), ⟨by decide +kernel, by decide +kernel, by decide +kernel⟩⟩
theorem cc_K_55 : CV "KiteLogger$Kite" 55 y_K_fly b_K_fly 3 none 1 := ⟨TT_in (i := 701) (by decide +kernel) (by decide +kernel), TT_in (i := 703) (by decide +kernel) (by decide +kernel), TT_in (i := 1) (by decide +kernel) (by decide +kernel), TT_in (i := 95) (by decide +kernel) (by decide +kernel), TT_in (i := 704) (by decide +kernel) (by decide +kernel), ⟨by decide +kernel, by decide +kernel, by decide +kernel⟩⟩
def f_K_passTick (p : Nat) (a1 : Int32) (M : Mem) : Option (Mem) :=
  if (M p 0) = (1 : Int32) then (bnd (f_K_windOver p a1 M) fun (x1 : Int32) (M2 : Mem) => bndM (f_K_fly p x1 M2) fun (M4 : Mem) => some M4) else (if (M p 0) = (2 : Int32) then (if 0 < (M p 8) then (nm (put M p 8 ((M p 8) - (1 : Int32))) fun (M5 : Mem) => some M5) else (some M)) else (some M))
set_option maxHeartbeats 4000000 in
set_option maxRecDepth 100000 in
theorem c_K_passTick (l : Launch) {w : Wc} {rr : Nat} (hw : WK w rr) (p : Nat) (hp : p ∈ kiL) (a1 : Int32) (M : Mem) : Ct QV l y_K_passTick b_K_passTick 2 none (rmL 2) w [.ref (wad w p), .int a1] M (f_K_passTick p a1 M) := by
  refine Ct.go (by decide) (L := [(0, .ref (wad w p)), (1, .int a1)]) rfl (Nat.le_of_ble_eq_true rfl) (fun p0 e s m args below meth c g hret => ?_)
  unfold f_K_passTick
  refine G_aload_n g (pc := 0) 0 d_K_passTick_0 rfl rfl ?_
  refine G_get g (pc := 1) fa_K_9 (hw.m _ (ki_lt0 hp)) (hw.k (ki_k0 hp)) d_K_passTick_1 ?_
  refine G_iconst g (pc := 4) (1 : Int32) d_K_passTick_4 rfl ?_
  refine G_icmp_ne g (pc := 5) 20 d_K_passTick_5 (by decide) ?_ ?_
  · refine G_aload_n g (pc := 8) 0 d_K_passTick_8 rfl rfl ?_
    refine G_aload_n g (pc := 9) 0 d_K_passTick_9 rfl rfl ?_
    refine G_iload_n g (pc := 10) 1 d_K_passTick_10 rfl rfl ?_
    refine G_cVI g (pc := 11) (As := [.int a1]) (st := [.ref (wad w p)]) cc_K_51 (c_K_windOver l hw p hp a1 M) (hw.m _ (ki_lt0 hp)) (hw.k (ki_k0 hp)) rfl (by decide) rfl ⟨(Nat.le_of_ble_eq_true rfl), (Nat.le_of_ble_eq_true rfl)⟩ ⟨(Nat.le_of_ble_eq_true rfl), (Nat.le_of_ble_eq_true rfl)⟩ (Nat.le_of_ble_eq_true rfl) d_K_passTick_11 (fun x1 M2 => ?_)
    refine G_cVV g (pc := 14) (As := [.int x1]) (st := []) cc_K_55 (c_K_fly l hw p hp x1 M2) (hw.m _ (ki_lt0 hp)) (hw.k (ki_k0 hp)) rfl (by decide) rfl ⟨(Nat.le_of_ble_eq_true rfl), (Nat.le_of_ble_eq_true rfl)⟩ ⟨(Nat.le_of_ble_eq_true rfl), (Nat.le_of_ble_eq_true rfl)⟩ (Nat.le_of_ble_eq_true rfl) d_K_passTick_14 (fun M4 => ?_)
    refine G_goto g (pc := 17) 45 d_K_passTick_17 (by decide) ?_
    exact G_return g (pc := 45) hret (Nat.le_of_ble_eq_true rfl) (Nat.le_of_ble_eq_true rfl) d_K_passTick_45
  · refine G_aload_n g (pc := 20) 0 d_K_passTick_20 rfl rfl ?_
    refine G_get g (pc := 21) fa_K_9 (hw.m _ (ki_lt0 hp)) (hw.k (ki_k0 hp)) d_K_passTick_21 ?_
    refine G_iconst g (pc := 24) (2 : Int32) d_K_passTick_24 rfl ?_
    refine G_icmp_ne g (pc := 25) 45 d_K_passTick_25 (by decide) ?_ ?_
    · refine G_aload_n g (pc := 28) 0 d_K_passTick_28 rfl rfl ?_
      refine G_get g (pc := 29) fa_K_36 (hw.m _ (ki_lt0 hp)) (hw.k (ki_k0 hp)) d_K_passTick_29 ?_
      refine G_if_le g (pc := 32) 45 d_K_passTick_32 (by decide) ?_ ?_
      · refine G_aload_n g (pc := 35) 0 d_K_passTick_35 rfl rfl ?_
        refine G_dup g (pc := 36) d_K_passTick_36 rfl ?_
        refine G_get g (pc := 37) fa_K_36 (hw.m _ (ki_lt0 hp)) (hw.k (ki_k0 hp)) d_K_passTick_37 ?_
        refine G_iconst g (pc := 40) (1 : Int32) d_K_passTick_40 rfl ?_
        refine G_isub g (pc := 41) d_K_passTick_41 ?_
        refine G_put g (pc := 42) fa_K_36 fw_1_8 rfl rfl (hw.m _ (ki_lt0 hp)) (hw.k (ki_k0 hp)) d_K_passTick_42 ?_
        refine G_nmM (fun M5 => ?_)
        exact G_return g (pc := 45) hret (Nat.le_of_ble_eq_true rfl) (Nat.le_of_ble_eq_true rfl) d_K_passTick_45
      · exact G_return g (pc := 45) hret (Nat.le_of_ble_eq_true rfl) (Nat.le_of_ble_eq_true rfl) d_K_passTick_45
    · exact G_return g (pc := 45) hret (Nat.le_of_ble_eq_true rfl) (Nat.le_of_ble_eq_true rfl) d_K_passTick_45

theorem d_K_rise_0 : decode b_K_rise 0 = .ok (.aload_n 0, 1) := by decide +kernel
theorem d_K_rise_1 : decode b_K_rise 1 = .ok (.iconst 1, 1) := by decide +kernel
theorem d_K_rise_2 : decode b_K_rise 2 = .ok (.putfield 9, 3) := by decide +kernel
theorem d_K_rise_5 : decode b_K_rise 5 = .ok (.aload_n 0, 1) := by decide +kernel
theorem d_K_rise_6 : decode b_K_rise 6 = .ok (.bipush 10, 2) := by decide +kernel
theorem d_K_rise_8 : decode b_K_rise 8 = .ok (.putfield 15, 3) := by decide +kernel
theorem d_K_rise_11 : decode b_K_rise 11 = .ok (.aload_n 0, 1) := by decide +kernel
theorem d_K_rise_12 : decode b_K_rise 12 = .ok (.iconst 0, 1) := by decide +kernel
theorem d_K_rise_13 : decode b_K_rise 13 = .ok (.putfield 39, 3) := by decide +kernel
theorem d_K_rise_16 : decode b_K_rise 16 = .ok (.aload_n 0, 1) := by decide +kernel
theorem d_K_rise_17 : decode b_K_rise 17 = .ok (.dup, 1) := by decide +kernel
theorem d_K_rise_18 : decode b_K_rise 18 = .ok (.getfield 42, 3) := by decide +kernel
theorem d_K_rise_21 : decode b_K_rise 21 = .ok (.iconst 1, 1) := by decide +kernel
theorem d_K_rise_22 : decode b_K_rise 22 = .ok (.iadd, 1) := by decide +kernel
theorem d_K_rise_23 : decode b_K_rise 23 = .ok (.putfield 42, 3) := by decide +kernel
theorem d_K_rise_26 : decode b_K_rise 26 = .ok (.aload_n 0, 1) := by decide +kernel
theorem d_K_rise_27 : decode b_K_rise 27 = .ok (.getfield 42, 3) := by decide +kernel
theorem d_K_rise_30 : decode b_K_rise 30 = .ok (.ireturn, 1) := by decide +kernel
def f_K_rise (p : Nat) (M : Mem) : Option (Int32 × Mem) :=
  nm (put M p 0 (1 : Int32)) fun (M1 : Mem) => nm (put M1 p 1 (10 : Int32)) fun (M2 : Mem) => nm (put M2 p 9 (0 : Int32)) fun (M3 : Mem) => nm (put M3 p 10 ((M3 p 10) + (1 : Int32))) fun (M4 : Mem) => some (M4 p 10, M4)
set_option maxHeartbeats 4000000 in
set_option maxRecDepth 100000 in
theorem c_K_rise (l : Launch) {w : Wc} {rr : Nat} (hw : WK w rr) (p : Nat) (hp : p ∈ kiL) (M : Mem) : Ct QI l y_K_rise b_K_rise 1 (some .int) (rmL 0) w [.ref (wad w p)] M (f_K_rise p M) := by
  refine Ct.go (by decide) (L := [(0, .ref (wad w p))]) rfl (Nat.le_of_ble_eq_true rfl) (fun p0 e s m args below meth c g hret => ?_)
  unfold f_K_rise
  refine G_aload_n g (pc := 0) 0 d_K_rise_0 rfl rfl ?_
  refine G_iconst g (pc := 1) (1 : Int32) d_K_rise_1 rfl ?_
  refine G_put g (pc := 2) fa_K_9 fw_1_0 rfl rfl (hw.m _ (ki_lt0 hp)) (hw.k (ki_k0 hp)) d_K_rise_2 ?_
  refine G_nmM (fun M1 => ?_)
  refine G_aload_n g (pc := 5) 0 d_K_rise_5 rfl rfl ?_
  refine G_bipush g (pc := 6) (10 : Int32) d_K_rise_6 rfl ?_
  refine G_put g (pc := 8) fa_K_15 fw_1_1 rfl rfl (hw.m _ (ki_lt0 hp)) (hw.k (ki_k0 hp)) d_K_rise_8 ?_
  refine G_nmM (fun M2 => ?_)
  refine G_aload_n g (pc := 11) 0 d_K_rise_11 rfl rfl ?_
  refine G_iconst g (pc := 12) (0 : Int32) d_K_rise_12 rfl ?_
  refine G_put g (pc := 13) fa_K_39 fw_1_9 rfl rfl (hw.m _ (ki_lt0 hp)) (hw.k (ki_k0 hp)) d_K_rise_13 ?_
  refine G_nmM (fun M3 => ?_)
  refine G_aload_n g (pc := 16) 0 d_K_rise_16 rfl rfl ?_
  refine G_dup g (pc := 17) d_K_rise_17 rfl ?_
  refine G_get g (pc := 18) fa_K_42 (hw.m _ (ki_lt0 hp)) (hw.k (ki_k0 hp)) d_K_rise_18 ?_
  refine G_iconst g (pc := 21) (1 : Int32) d_K_rise_21 rfl ?_
  refine G_iadd g (pc := 22) d_K_rise_22 ?_
  refine G_put g (pc := 23) fa_K_42 fw_1_10 rfl rfl (hw.m _ (ki_lt0 hp)) (hw.k (ki_k0 hp)) d_K_rise_23 ?_
  refine G_nmM (fun M4 => ?_)
  refine G_aload_n g (pc := 26) 0 d_K_rise_26 rfl rfl ?_
  refine G_get g (pc := 27) fa_K_42 (hw.m _ (ki_lt0 hp)) (hw.k (ki_k0 hp)) d_K_rise_27 ?_
  exact G_ireturn g (pc := 30) hret (Nat.le_of_ble_eq_true rfl) (Nat.le_of_ble_eq_true rfl) d_K_rise_30

theorem d_K_lengthen_0 : decode b_K_lengthen 0 = .ok (.aload_n 0, 1) := by decide +kernel
theorem d_K_lengthen_1 : decode b_K_lengthen 1 = .ok (.dup, 1) := by decide +kernel
theorem d_K_lengthen_2 : decode b_K_lengthen 2 = .ok (.getfield 18, 3) := by decide +kernel
theorem d_K_lengthen_5 : decode b_K_lengthen 5 = .ok (.iload_n 1, 1) := by decide +kernel
theorem d_K_lengthen_6 : decode b_K_lengthen 6 = .ok (.iadd, 1) := by decide +kernel
theorem d_K_lengthen_7 : decode b_K_lengthen 7 = .ok (.putfield 18, 3) := by decide +kernel
theorem d_K_lengthen_10 : decode b_K_lengthen 10 = .ok (.aload_n 0, 1) := by decide +kernel
theorem d_K_lengthen_11 : decode b_K_lengthen 11 = .ok (.getfield 18, 3) := by decide +kernel
theorem d_K_lengthen_14 : decode b_K_lengthen 14 = .ok (.ireturn, 1) := by decide +kernel
def f_K_lengthen (p : Nat) (a1 : Int32) (M : Mem) : Option (Int32 × Mem) :=
  nm (put M p 2 ((M p 2) + a1)) fun (M1 : Mem) => some (M1 p 2, M1)
set_option maxHeartbeats 4000000 in
set_option maxRecDepth 100000 in
theorem c_K_lengthen (l : Launch) {w : Wc} {rr : Nat} (hw : WK w rr) (p : Nat) (hp : p ∈ kiL) (a1 : Int32) (M : Mem) : Ct QI l y_K_lengthen b_K_lengthen 2 (some .int) (rmL 0) w [.ref (wad w p), .int a1] M (f_K_lengthen p a1 M) := by
  refine Ct.go (by decide) (L := [(0, .ref (wad w p)), (1, .int a1)]) rfl (Nat.le_of_ble_eq_true rfl) (fun p0 e s m args below meth c g hret => ?_)
  unfold f_K_lengthen
  refine G_aload_n g (pc := 0) 0 d_K_lengthen_0 rfl rfl ?_
  refine G_dup g (pc := 1) d_K_lengthen_1 rfl ?_
  refine G_get g (pc := 2) fa_K_18 (hw.m _ (ki_lt0 hp)) (hw.k (ki_k0 hp)) d_K_lengthen_2 ?_
  refine G_iload_n g (pc := 5) 1 d_K_lengthen_5 rfl rfl ?_
  refine G_iadd g (pc := 6) d_K_lengthen_6 ?_
  refine G_put g (pc := 7) fa_K_18 fw_1_2 rfl rfl (hw.m _ (ki_lt0 hp)) (hw.k (ki_k0 hp)) d_K_lengthen_7 ?_
  refine G_nmM (fun M1 => ?_)
  refine G_aload_n g (pc := 10) 0 d_K_lengthen_10 rfl rfl ?_
  refine G_get g (pc := 11) fa_K_18 (hw.m _ (ki_lt0 hp)) (hw.k (ki_k0 hp)) d_K_lengthen_11 ?_
  exact G_ireturn g (pc := 14) hret (Nat.le_of_ble_eq_true rfl) (Nat.le_of_ble_eq_true rfl) d_K_lengthen_14

theorem d_K_shorten_0 : decode b_K_shorten 0 = .ok (.aload_n 0, 1) := by decide +kernel
theorem d_K_shorten_1 : decode b_K_shorten 1 = .ok (.aload_n 0, 1) := by decide +kernel
theorem d_K_shorten_2 : decode b_K_shorten 2 = .ok (.getfield 18, 3) := by decide +kernel
theorem d_K_shorten_5 : decode b_K_shorten 5 = .ok (.iload_n 1, 1) := by decide +kernel
theorem d_K_shorten_6 : decode b_K_shorten 6 = .ok (.isub, 1) := by decide +kernel
theorem d_K_shorten_7 : decode b_K_shorten 7 = .ok (.iconst 0, 1) := by decide +kernel
theorem d_K_shorten_8 : decode b_K_shorten 8 = .ok (.invokestatic 71, 3) := by decide +kernel
theorem d_K_shorten_11 : decode b_K_shorten 11 = .ok (.putfield 18, 3) := by decide +kernel
theorem d_K_shorten_14 : decode b_K_shorten 14 = .ok (.aload_n 0, 1) := by decide +kernel
theorem d_K_shorten_15 : decode b_K_shorten 15 = .ok (.aload_n 0, 1) := by decide +kernel
theorem d_K_shorten_16 : decode b_K_shorten 16 = .ok (.getfield 15, 3) := by decide +kernel
theorem d_K_shorten_19 : decode b_K_shorten 19 = .ok (.aload_n 0, 1) := by decide +kernel
theorem d_K_shorten_20 : decode b_K_shorten 20 = .ok (.getfield 18, 3) := by decide +kernel
theorem d_K_shorten_23 : decode b_K_shorten 23 = .ok (.invokestatic 65, 3) := by decide +kernel
theorem d_K_shorten_26 : decode b_K_shorten 26 = .ok (.putfield 15, 3) := by decide +kernel
theorem d_K_shorten_29 : decode b_K_shorten 29 = .ok (.aload_n 0, 1) := by decide +kernel
theorem d_K_shorten_30 : decode b_K_shorten 30 = .ok (.invokevirtual 74, 3) := by decide +kernel
theorem d_K_shorten_33 : decode b_K_shorten 33 = .ok (.aload_n 0, 1) := by decide +kernel
theorem d_K_shorten_34 : decode b_K_shorten 34 = .ok (.getfield 18, 3) := by decide +kernel
theorem d_K_shorten_37 : decode b_K_shorten 37 = .ok (.ireturn, 1) := by decide +kernel
def f_K_shorten (p : Nat) (a1 : Int32) (M : Mem) : Option (Int32 × Mem) :=
  nm (put M p 2 (imax ((M p 2) - a1) (0 : Int32))) fun (M1 : Mem) => nm (put M1 p 1 (imin (M1 p 1) (M1 p 2))) fun (M2 : Mem) => bndM (f_K_landOnGround p M2) fun (M4 : Mem) => some (M4 p 2, M4)
set_option maxHeartbeats 4000000 in
set_option maxRecDepth 100000 in
theorem c_K_shorten (l : Launch) {w : Wc} {rr : Nat} (hw : WK w rr) (p : Nat) (hp : p ∈ kiL) (a1 : Int32) (M : Mem) : Ct QI l y_K_shorten b_K_shorten 2 (some .int) (rmL 1) w [.ref (wad w p), .int a1] M (f_K_shorten p a1 M) := by
  refine Ct.go (by decide) (L := [(0, .ref (wad w p)), (1, .int a1)]) rfl (Nat.le_of_ble_eq_true rfl) (fun p0 e s m args below meth c g hret => ?_)
  unfold f_K_shorten
  refine G_aload_n g (pc := 0) 0 d_K_shorten_0 rfl rfl ?_
  refine G_aload_n g (pc := 1) 0 d_K_shorten_1 rfl rfl ?_
  refine G_get g (pc := 2) fa_K_18 (hw.m _ (ki_lt0 hp)) (hw.k (ki_k0 hp)) d_K_shorten_2 ?_
  refine G_iload_n g (pc := 5) 1 d_K_shorten_5 rfl rfl ?_
  refine G_isub g (pc := 6) d_K_shorten_6 ?_
  refine G_iconst g (pc := 7) (0 : Int32) d_K_shorten_7 rfl ?_
  refine G_mmax g (pc := 8) ma_K_71 ⟨(Nat.le_of_ble_eq_true rfl), (Nat.le_of_ble_eq_true rfl), (Nat.le_of_ble_eq_true rfl), (Nat.le_of_ble_eq_true rfl)⟩ d_K_shorten_8 ?_
  refine G_put g (pc := 11) fa_K_18 fw_1_2 rfl rfl (hw.m _ (ki_lt0 hp)) (hw.k (ki_k0 hp)) d_K_shorten_11 ?_
  refine G_nmM (fun M1 => ?_)
  refine G_aload_n g (pc := 14) 0 d_K_shorten_14 rfl rfl ?_
  refine G_aload_n g (pc := 15) 0 d_K_shorten_15 rfl rfl ?_
  refine G_get g (pc := 16) fa_K_15 (hw.m _ (ki_lt0 hp)) (hw.k (ki_k0 hp)) d_K_shorten_16 ?_
  refine G_aload_n g (pc := 19) 0 d_K_shorten_19 rfl rfl ?_
  refine G_get g (pc := 20) fa_K_18 (hw.m _ (ki_lt0 hp)) (hw.k (ki_k0 hp)) d_K_shorten_20 ?_
  refine G_mmin g (pc := 23) ma_K_65 ⟨(Nat.le_of_ble_eq_true rfl), (Nat.le_of_ble_eq_true rfl), (Nat.le_of_ble_eq_true rfl), (Nat.le_of_ble_eq_true rfl)⟩ d_K_shorten_23 ?_
  refine G_put g (pc := 26) fa_K_15 fw_1_1 rfl rfl (hw.m _ (ki_lt0 hp)) (hw.k (ki_k0 hp)) d_K_shorten_26 ?_
  refine G_nmM (fun M2 => ?_)
  refine G_aload_n g (pc := 29) 0 d_K_shorten_29 rfl rfl ?_
  refine G_cVV g (pc := 30) (As := []) (st := []) cc_K_74 (c_K_landOnGround l hw p hp M2) (hw.m _ (ki_lt0 hp)) (hw.k (ki_k0 hp)) rfl (by decide) rfl ⟨(Nat.le_of_ble_eq_true rfl), (Nat.le_of_ble_eq_true rfl)⟩ ⟨(Nat.le_of_ble_eq_true rfl), (Nat.le_of_ble_eq_true rfl)⟩ (Nat.le_of_ble_eq_true rfl) d_K_shorten_30 (fun M4 => ?_)
  refine G_aload_n g (pc := 33) 0 d_K_shorten_33 rfl rfl ?_
  refine G_get g (pc := 34) fa_K_18 (hw.m _ (ki_lt0 hp)) (hw.k (ki_k0 hp)) d_K_shorten_34 ?_
  exact G_ireturn g (pc := 37) hret (Nat.le_of_ble_eq_true rfl) (Nat.le_of_ble_eq_true rfl) d_K_shorten_37

theorem d_K_renewBridle_0 : decode b_K_renewBridle 0 = .ok (.aload_n 0, 1) := by decide +kernel
theorem d_K_renewBridle_1 : decode b_K_renewBridle 1 = .ok (.getfield 30, 3) := by decide +kernel
theorem d_K_renewBridle_4 : decode b_K_renewBridle 4 = .ok (.istore_n 3, 1) := by decide +kernel
theorem d_K_renewBridle_5 : decode b_K_renewBridle 5 = .ok (.aload_n 0, 1) := by decide +kernel
theorem d_K_renewBridle_6 : decode b_K_renewBridle 6 = .ok (.iload_n 1, 1) := by decide +kernel
theorem d_K_renewBridle_7 : decode b_K_renewBridle 7 = .ok (.putfield 24, 3) := by decide +kernel
theorem d_K_renewBridle_10 : decode b_K_renewBridle 10 = .ok (.aload_n 0, 1) := by decide +kernel
theorem d_K_renewBridle_11 : decode b_K_renewBridle 11 = .ok (.iload_n 2, 1) := by decide +kernel
theorem d_K_renewBridle_12 : decode b_K_renewBridle 12 = .ok (.putfield 27, 3) := by decide +kernel
theorem d_K_renewBridle_15 : decode b_K_renewBridle 15 = .ok (.aload_n 0, 1) := by decide +kernel
theorem d_K_renewBridle_16 : decode b_K_renewBridle 16 = .ok (.iconst 0, 1) := by decide +kernel
theorem d_K_renewBridle_17 : decode b_K_renewBridle 17 = .ok (.putfield 30, 3) := by decide +kernel
theorem d_K_renewBridle_20 : decode b_K_renewBridle 20 = .ok (.iload_n 3, 1) := by decide +kernel
theorem d_K_renewBridle_21 : decode b_K_renewBridle 21 = .ok (.ireturn, 1) := by decide +kernel
def f_K_renewBridle (p : Nat) (a1 : Int32) (a2 : Int32) (M : Mem) : Option (Int32 × Mem) :=
  nm (M p 6) fun (x1 : Int32) => nm (put M p 4 a1) fun (M2 : Mem) => nm (put M2 p 5 a2) fun (M3 : Mem) => nm (put M3 p 6 (0 : Int32)) fun (M4 : Mem) => some (x1, M4)
set_option maxHeartbeats 4000000 in
set_option maxRecDepth 100000 in
theorem c_K_renewBridle (l : Launch) {w : Wc} {rr : Nat} (hw : WK w rr) (p : Nat) (hp : p ∈ kiL) (a1 : Int32) (a2 : Int32) (M : Mem) : Ct QI l y_K_renewBridle b_K_renewBridle 4 (some .int) (rmL 0) w [.ref (wad w p), .int a1, .int a2] M (f_K_renewBridle p a1 a2 M) := by
  refine Ct.go (by decide) (L := [(0, .ref (wad w p)), (1, .int a1), (2, .int a2)]) rfl (Nat.le_of_ble_eq_true rfl) (fun p0 e s m args below meth c g hret => ?_)
  unfold f_K_renewBridle
  refine G_aload_n g (pc := 0) 0 d_K_renewBridle_0 rfl rfl ?_
  refine G_get g (pc := 1) fa_K_30 (hw.m _ (ki_lt0 hp)) (hw.k (ki_k0 hp)) d_K_renewBridle_1 ?_
  refine G_nmI (fun x1 => ?_)
  refine G_istore_n g (pc := 4) _ d_K_renewBridle_4 rfl (Nat.le_of_ble_eq_true rfl) rfl ?_
  refine G_aload_n g (pc := 5) 1 d_K_renewBridle_5 rfl rfl ?_
  refine G_iload_n g (pc := 6) 2 d_K_renewBridle_6 rfl rfl ?_
  refine G_put g (pc := 7) fa_K_24 fw_1_4 rfl rfl (hw.m _ (ki_lt0 hp)) (hw.k (ki_k0 hp)) d_K_renewBridle_7 ?_
  refine G_nmM (fun M2 => ?_)
  refine G_aload_n g (pc := 10) 1 d_K_renewBridle_10 rfl rfl ?_
  refine G_iload_n g (pc := 11) 3 d_K_renewBridle_11 rfl rfl ?_
  refine G_put g (pc := 12) fa_K_27 fw_1_5 rfl rfl (hw.m _ (ki_lt0 hp)) (hw.k (ki_k0 hp)) d_K_renewBridle_12 ?_
  refine G_nmM (fun M3 => ?_)
  refine G_aload_n g (pc := 15) 1 d_K_renewBridle_15 rfl rfl ?_
  refine G_iconst g (pc := 16) (0 : Int32) d_K_renewBridle_16 rfl ?_
  refine G_put g (pc := 17) fa_K_30 fw_1_6 rfl rfl (hw.m _ (ki_lt0 hp)) (hw.k (ki_k0 hp)) d_K_renewBridle_17 ?_
  refine G_nmM (fun M4 => ?_)
  refine G_iload_n g (pc := 20) 0 d_K_renewBridle_20 rfl rfl ?_
  exact G_ireturn g (pc := 21) hret (Nat.le_of_ble_eq_true rfl) (Nat.le_of_ble_eq_true rfl) d_K_renewBridle_21

theorem d_K_searchAt_0 : decode b_K_searchAt 0 = .ok (.aload_n 0, 1) := by decide +kernel
theorem d_K_searchAt_1 : decode b_K_searchAt 1 = .ok (.dup, 1) := by decide +kernel
theorem d_K_searchAt_2 : decode b_K_searchAt 2 = .ok (.getfield 48, 3) := by decide +kernel
theorem d_K_searchAt_5 : decode b_K_searchAt 5 = .ok (.iconst 1, 1) := by decide +kernel
theorem d_K_searchAt_6 : decode b_K_searchAt 6 = .ok (.iadd, 1) := by decide +kernel
theorem d_K_searchAt_7 : decode b_K_searchAt 7 = .ok (.putfield 48, 3) := by decide +kernel
theorem d_K_searchAt_10 : decode b_K_searchAt 10 = .ok (.iload_n 1, 1) := by decide +kernel
theorem d_K_searchAt_11 : decode b_K_searchAt 11 = .ok (.aload_n 0, 1) := by decide +kernel
theorem d_K_searchAt_12 : decode b_K_searchAt 12 = .ok (.getfield 33, 3) := by decide +kernel
theorem d_K_searchAt_15 : decode b_K_searchAt 15 = .ok (.isub, 1) := by decide +kernel
theorem d_K_searchAt_16 : decode b_K_searchAt 16 = .ok (.invokestatic 77, 3) := by decide +kernel
theorem d_K_searchAt_19 : decode b_K_searchAt 19 = .ok (.istore_n 2, 1) := by decide +kernel
theorem d_K_searchAt_20 : decode b_K_searchAt 20 = .ok (.aload_n 0, 1) := by decide +kernel
theorem d_K_searchAt_21 : decode b_K_searchAt 21 = .ok (.getfield 36, 3) := by decide +kernel
theorem d_K_searchAt_24 : decode b_K_searchAt 24 = .ok (.iconst 1, 1) := by decide +kernel
theorem d_K_searchAt_25 : decode b_K_searchAt 25 = .ok (.if_icmp .ge 7, 3) := by decide +kernel
theorem d_K_searchAt_28 : decode b_K_searchAt 28 = .ok (.iconst 1, 1) := by decide +kernel
theorem d_K_searchAt_29 : decode b_K_searchAt 29 = .ok (.goto 4, 3) := by decide +kernel
theorem d_K_searchAt_32 : decode b_K_searchAt 32 = .ok (.iconst 0, 1) := by decide +kernel
theorem d_K_searchAt_33 : decode b_K_searchAt 33 = .ok (.istore_n 3, 1) := by decide +kernel
theorem d_K_searchAt_34 : decode b_K_searchAt 34 = .ok (.iload_n 2, 1) := by decide +kernel
theorem d_K_searchAt_35 : decode b_K_searchAt 35 = .ok (.iload_n 3, 1) := by decide +kernel
theorem d_K_searchAt_36 : decode b_K_searchAt 36 = .ok (.ifCond .eq 7, 3) := by decide +kernel
theorem d_K_searchAt_39 : decode b_K_searchAt 39 = .ok (.iconst 3, 1) := by decide +kernel
theorem d_K_searchAt_40 : decode b_K_searchAt 40 = .ok (.goto 5, 3) := by decide +kernel
theorem d_K_searchAt_43 : decode b_K_searchAt 43 = .ok (.bipush 20, 2) := by decide +kernel
theorem d_K_searchAt_45 : decode b_K_searchAt 45 = .ok (.if_icmp .gt 15, 3) := by decide +kernel
theorem d_K_searchAt_48 : decode b_K_searchAt 48 = .ok (.aload_n 0, 1) := by decide +kernel
theorem d_K_searchAt_49 : decode b_K_searchAt 49 = .ok (.iconst 0, 1) := by decide +kernel
theorem d_K_searchAt_50 : decode b_K_searchAt 50 = .ok (.putfield 9, 3) := by decide +kernel
theorem d_K_searchAt_53 : decode b_K_searchAt 53 = .ok (.aload_n 0, 1) := by decide +kernel
theorem d_K_searchAt_54 : decode b_K_searchAt 54 = .ok (.iconst 0, 1) := by decide +kernel
theorem d_K_searchAt_55 : decode b_K_searchAt 55 = .ok (.putfield 36, 3) := by decide +kernel
theorem d_K_searchAt_58 : decode b_K_searchAt 58 = .ok (.iconst 0, 1) := by decide +kernel
theorem d_K_searchAt_59 : decode b_K_searchAt 59 = .ok (.ireturn, 1) := by decide +kernel
theorem d_K_searchAt_60 : decode b_K_searchAt 60 = .ok (.iload_n 3, 1) := by decide +kernel
theorem d_K_searchAt_61 : decode b_K_searchAt 61 = .ok (.ifCond .eq 7, 3) := by decide +kernel
theorem d_K_searchAt_64 : decode b_K_searchAt 64 = .ok (.iconst (-1), 1) := by decide +kernel
theorem d_K_searchAt_65 : decode b_K_searchAt 65 = .ok (.goto 7, 3) := by decide +kernel
theorem d_K_searchAt_68 : decode b_K_searchAt 68 = .ok (.iload_n 2, 1) := by decide +kernel
theorem d_K_searchAt_69 : decode b_K_searchAt 69 = .ok (.bipush 20, 2) := by decide +kernel
theorem d_K_searchAt_71 : decode b_K_searchAt 71 = .ok (.idiv, 1) := by decide +kernel
theorem d_K_searchAt_72 : decode b_K_searchAt 72 = .ok (.ireturn, 1) := by decide +kernel
theorem ma_K_77 : Cond.methodLink "KiteLogger$Kite" 77 Lib.Math.abs.name ∈ TT ∧ Cond.static Lib.Math.abs.name ∈ TT ∧ Cond.initialized "java/lang/Math" ∈ TT ∧ Cond.code Lib.Math.abs.name Lib.Math.abs.code 1 (some .int) ∈ TT := ⟨TT_in (i := 1168) (by decide +kernel) (by decide +kernel), TT_in (i := 665) (by decide +kernel) (by decide +kernel), TT_in (i := 91) (by decide +kernel) (by decide +kernel), TT_in (i := 666) (by decide +kernel) (by decide +kernel)⟩
def f_K_searchAt (p : Nat) (a1 : Int32) (M : Mem) : Option (Int32 × Mem) :=
  nm (put M p 12 ((M p 12) + (1 : Int32))) fun (M1 : Mem) => nm (iabs (a1 - (M1 p 7))) fun (x2 : Int32) => if (M1 p 8) < (1 : Int32) then (if x2 ≤ (3 : Int32) then (nm (put M1 p 0 (0 : Int32)) fun (M3 : Mem) => nm (put M3 p 8 (0 : Int32)) fun (M4 : Mem) => some ((0 : Int32), M4)) else (some ((-1 : Int32), M1))) else (if x2 ≤ (20 : Int32) then (nm (put M1 p 0 (0 : Int32)) fun (M5 : Mem) => nm (put M5 p 8 (0 : Int32)) fun (M6 : Mem) => some ((0 : Int32), M6)) else (some (x2 / (20 : Int32), M1)))
set_option maxHeartbeats 4000000 in
set_option maxRecDepth 100000 in
theorem c_K_searchAt (l : Launch) {w : Wc} {rr : Nat} (hw : WK w rr) (p : Nat) (hp : p ∈ kiL) (a1 : Int32) (M : Mem) : Ct QI l y_K_searchAt b_K_searchAt 4 (some .int) (rmL 1) w [.ref (wad w p), .int a1] M (f_K_searchAt p a1 M) := by
  refine Ct.go (by decide) (L := [(0, .ref (wad w p)), (1, .int a1)]) rfl (Nat.le_of_ble_eq_true rfl) (fun p0 e s m args below meth c g hret => ?_)
  unfold f_K_searchAt
  refine G_aload_n g (pc := 0) 0 d_K_searchAt_0 rfl rfl ?_
  refine G_dup g (pc := 1) d_K_searchAt_1 rfl ?_
  refine G_get g (pc := 2) fa_K_48 (hw.m _ (ki_lt0 hp)) (hw.k (ki_k0 hp)) d_K_searchAt_2 ?_
  refine G_iconst g (pc := 5) (1 : Int32) d_K_searchAt_5 rfl ?_
  refine G_iadd g (pc := 6) d_K_searchAt_6 ?_
  refine G_put g (pc := 7) fa_K_48 fw_1_12 rfl rfl (hw.m _ (ki_lt0 hp)) (hw.k (ki_k0 hp)) d_K_searchAt_7 ?_
  refine G_nmM (fun M1 => ?_)
  refine G_iload_n g (pc := 10) 1 d_K_searchAt_10 rfl rfl ?_
  refine G_aload_n g (pc := 11) 0 d_K_searchAt_11 rfl rfl ?_
  refine G_get g (pc := 12) fa_K_33 (hw.m _ (ki_lt0 hp)) (hw.k (ki_k0 hp)) d_K_searchAt_12 ?_
  refine G_isub g (pc := 15) d_K_searchAt_15 ?_
  refine G_mabs g (pc := 16) ma_K_77 ⟨(Nat.le_of_ble_eq_true rfl), (Nat.le_of_ble_eq_true rfl), (Nat.le_of_ble_eq_true rfl), (Nat.le_of_ble_eq_true rfl)⟩ d_K_searchAt_16 ?_
  refine G_nmI (fun x2 => ?_)
  refine G_istore_n g (pc := 19) _ d_K_searchAt_19 rfl (Nat.le_of_ble_eq_true rfl) rfl ?_
  refine G_aload_n g (pc := 20) 1 d_K_searchAt_20 rfl rfl ?_
  refine G_get g (pc := 21) fa_K_36 (hw.m _ (ki_lt0 hp)) (hw.k (ki_k0 hp)) d_K_searchAt_21 ?_
  refine G_iconst g (pc := 24) (1 : Int32) d_K_searchAt_24 rfl ?_
  refine G_icmp_ge g (pc := 25) 32 d_K_searchAt_25 (by decide) ?_ ?_
  · refine G_iconst g (pc := 28) (1 : Int32) d_K_searchAt_28 rfl ?_
    refine G_goto g (pc := 29) 33 d_K_searchAt_29 (by decide) ?_
    refine G_istore_n g (pc := 33) _ d_K_searchAt_33 rfl (Nat.le_of_ble_eq_true rfl) rfl ?_
    refine G_iload_n g (pc := 34) 1 d_K_searchAt_34 rfl rfl ?_
    refine G_iload_n g (pc := 35) 0 d_K_searchAt_35 rfl rfl ?_
    refine G_ifF_eq g (pc := 36) 43 (by decide) d_K_searchAt_36 (by decide) ?_
    refine G_iconst g (pc := 39) (3 : Int32) d_K_searchAt_39 rfl ?_
    refine G_goto g (pc := 40) 45 d_K_searchAt_40 (by decide) ?_
    refine G_icmp_gt g (pc := 45) 60 d_K_searchAt_45 (by decide) ?_ ?_
    · refine G_aload_n g (pc := 48) 2 d_K_searchAt_48 rfl rfl ?_
      refine G_iconst g (pc := 49) (0 : Int32) d_K_searchAt_49 rfl ?_
      refine G_put g (pc := 50) fa_K_9 fw_1_0 rfl rfl (hw.m _ (ki_lt0 hp)) (hw.k (ki_k0 hp)) d_K_searchAt_50 ?_
      refine G_nmM (fun M3 => ?_)
      refine G_aload_n g (pc := 53) 2 d_K_searchAt_53 rfl rfl ?_
      refine G_iconst g (pc := 54) (0 : Int32) d_K_searchAt_54 rfl ?_
      refine G_put g (pc := 55) fa_K_36 fw_1_8 rfl rfl (hw.m _ (ki_lt0 hp)) (hw.k (ki_k0 hp)) d_K_searchAt_55 ?_
      refine G_nmM (fun M4 => ?_)
      refine G_iconst g (pc := 58) (0 : Int32) d_K_searchAt_58 rfl ?_
      exact G_ireturn g (pc := 59) hret (Nat.le_of_ble_eq_true rfl) (Nat.le_of_ble_eq_true rfl) d_K_searchAt_59
    · refine G_iload_n g (pc := 60) 0 d_K_searchAt_60 rfl rfl ?_
      refine G_ifF_eq g (pc := 61) 68 (by decide) d_K_searchAt_61 (by decide) ?_
      refine G_iconst g (pc := 64) (-1 : Int32) d_K_searchAt_64 rfl ?_
      refine G_goto g (pc := 65) 72 d_K_searchAt_65 (by decide) ?_
      exact G_ireturn g (pc := 72) hret (Nat.le_of_ble_eq_true rfl) (Nat.le_of_ble_eq_true rfl) d_K_searchAt_72
  · refine G_iconst g (pc := 32) (0 : Int32) d_K_searchAt_32 rfl ?_
    refine G_istore_n g (pc := 33) _ d_K_searchAt_33 rfl (Nat.le_of_ble_eq_true rfl) rfl ?_
    refine G_iload_n g (pc := 34) 1 d_K_searchAt_34 rfl rfl ?_
    refine G_iload_n g (pc := 35) 0 d_K_searchAt_35 rfl rfl ?_
    refine G_ifT_eq g (pc := 36) 43 (by decide) d_K_searchAt_36 (by decide) ?_
    refine G_bipush g (pc := 43) (20 : Int32) d_K_searchAt_43 rfl ?_
    refine G_icmp_gt g (pc := 45) 60 d_K_searchAt_45 (by decide) ?_ ?_
    · refine G_aload_n g (pc := 48) 2 d_K_searchAt_48 rfl rfl ?_
      refine G_iconst g (pc := 49) (0 : Int32) d_K_searchAt_49 rfl ?_
      refine G_put g (pc := 50) fa_K_9 fw_1_0 rfl rfl (hw.m _ (ki_lt0 hp)) (hw.k (ki_k0 hp)) d_K_searchAt_50 ?_
      refine G_nmM (fun M5 => ?_)
      refine G_aload_n g (pc := 53) 2 d_K_searchAt_53 rfl rfl ?_
      refine G_iconst g (pc := 54) (0 : Int32) d_K_searchAt_54 rfl ?_
      refine G_put g (pc := 55) fa_K_36 fw_1_8 rfl rfl (hw.m _ (ki_lt0 hp)) (hw.k (ki_k0 hp)) d_K_searchAt_55 ?_
      refine G_nmM (fun M6 => ?_)
      refine G_iconst g (pc := 58) (0 : Int32) d_K_searchAt_58 rfl ?_
      exact G_ireturn g (pc := 59) hret (Nat.le_of_ble_eq_true rfl) (Nat.le_of_ble_eq_true rfl) d_K_searchAt_59
    · refine G_iload_n g (pc := 60) 0 d_K_searchAt_60 rfl rfl ?_
      refine G_ifT_eq g (pc := 61) 68 (by decide) d_K_searchAt_61 (by decide) ?_
      refine G_iload_n g (pc := 68) 1 d_K_searchAt_68 rfl rfl ?_
      refine G_bipush g (pc := 69) (20 : Int32) d_K_searchAt_69 rfl ?_
      refine G_idivK g (pc := 71) (by decide) d_K_searchAt_71 ?_
      exact G_ireturn g (pc := 72) hret (Nat.le_of_ble_eq_true rfl) (Nat.le_of_ble_eq_true rfl) d_K_searchAt_72
end
section
theorem d_B_empty_0 : decode b_B_empty 0 = .ok (.aload_n 0, 1) := by decide +kernel
theorem d_B_empty_1 : decode b_B_empty 1 = .ok (.iconst 0, 1) := by decide +kernel
theorem d_B_empty_2 : decode b_B_empty 2 = .ok (.putfield 15, 3) := by decide +kernel
theorem d_B_empty_5 : decode b_B_empty 5 = .ok (.aload_n 0, 1) := by decide +kernel
theorem d_B_empty_6 : decode b_B_empty 6 = .ok (.iconst 0, 1) := by decide +kernel
theorem d_B_empty_7 : decode b_B_empty 7 = .ok (.putfield 19, 3) := by decide +kernel
theorem d_B_empty_10 : decode b_B_empty 10 = .ok (.return_, 1) := by decide +kernel
def f_B_empty (p : Nat) (M : Mem) : Option (Mem) :=
  nm (put M p 1 (0 : Int32)) fun (M1 : Mem) => nm (put M1 p 2 (0 : Int32)) fun (M2 : Mem) => some M2
set_option maxHeartbeats 4000000 in
set_option maxRecDepth 100000 in
theorem c_B_empty (l : Launch) {w : Wc} {rr : Nat} (hw : WK w rr) (p : Nat) (hp : p ∈ wbL) (M : Mem) : Ct QV l y_B_empty b_B_empty 1 none (rmL 0) w [.ref (wad w p)] M (f_B_empty p M) := by
  refine Ct.go (by decide) (L := [(0, .ref (wad w p))]) rfl (Nat.le_of_ble_eq_true rfl) (fun p0 e s m args below meth c g hret => ?_)
  unfold f_B_empty
  refine G_aload_n g (pc := 0) 0 d_B_empty_0 rfl rfl ?_
  refine G_iconst g (pc := 1) (0 : Int32) d_B_empty_1 rfl ?_
  refine G_put g (pc := 2) fa_B_15 fw_8_1 rfl rfl (hw.m _ (wb_lt0 hp)) (hw.k (wb_k0 hp)) d_B_empty_2 ?_
  refine G_nmM (fun M1 => ?_)
  refine G_aload_n g (pc := 5) 0 d_B_empty_5 rfl rfl ?_
  refine G_iconst g (pc := 6) (0 : Int32) d_B_empty_6 rfl ?_
  refine G_put g (pc := 7) fa_B_19 fw_8_2 rfl rfl (hw.m _ (wb_lt0 hp)) (hw.k (wb_k0 hp)) d_B_empty_7 ?_
  refine G_nmM (fun M2 => ?_)
  exact G_return g (pc := 10) hret (Nat.le_of_ble_eq_true rfl) (Nat.le_of_ble_eq_true rfl) d_B_empty_10

theorem d_B_copyFrom_0 : decode b_B_copyFrom 0 = .ok (.aload_n 1, 1) := by decide +kernel
theorem d_B_copyFrom_1 : decode b_B_copyFrom 1 = .ok (.getfield 9, 3) := by decide +kernel
theorem d_B_copyFrom_4 : decode b_B_copyFrom 4 = .ok (.aload_n 0, 1) := by decide +kernel
theorem d_B_copyFrom_5 : decode b_B_copyFrom 5 = .ok (.getfield 9, 3) := by decide +kernel
theorem d_B_copyFrom_8 : decode b_B_copyFrom 8 = .ok (.invokestatic 22, 3) := by decide +kernel
theorem d_B_copyFrom_11 : decode b_B_copyFrom 11 = .ok (.aload_n 0, 1) := by decide +kernel
theorem d_B_copyFrom_12 : decode b_B_copyFrom 12 = .ok (.aload_n 1, 1) := by decide +kernel
theorem d_B_copyFrom_13 : decode b_B_copyFrom 13 = .ok (.getfield 15, 3) := by decide +kernel
theorem d_B_copyFrom_16 : decode b_B_copyFrom 16 = .ok (.putfield 15, 3) := by decide +kernel
theorem d_B_copyFrom_19 : decode b_B_copyFrom 19 = .ok (.aload_n 0, 1) := by decide +kernel
theorem d_B_copyFrom_20 : decode b_B_copyFrom 20 = .ok (.aload_n 1, 1) := by decide +kernel
theorem d_B_copyFrom_21 : decode b_B_copyFrom 21 = .ok (.getfield 19, 3) := by decide +kernel
theorem d_B_copyFrom_24 : decode b_B_copyFrom 24 = .ok (.putfield 19, 3) := by decide +kernel
theorem d_B_copyFrom_27 : decode b_B_copyFrom 27 = .ok (.return_, 1) := by decide +kernel
theorem cc_B_22 : CSN "KiteLogger$WindBuffer" 22 "KiteLogger" y_G_copyRow b_G_copyRow 2 none 2 := ⟨NW_in (i := 768) (by decide +kernel) (by decide +kernel), TT_in (i := 174) (by decide +kernel) (by decide +kernel), TT_in (i := 88) (by decide +kernel) (by decide +kernel), TT_in (i := 175) (by decide +kernel) (by decide +kernel), ⟨by decide +kernel, by decide +kernel, by decide +kernel⟩⟩
def f_B_copyFrom (p : Nat) (a1 : Nat) (M : Mem) : Option (Mem) :=
  bndM (f_G_copyRow (a1 + 1) (p + 1) M) fun (M2 : Mem) => nm (put M2 p 1 (M2 a1 1)) fun (M3 : Mem) => nm (put M3 p 2 (M3 a1 2)) fun (M4 : Mem) => some M4
set_option maxHeartbeats 4000000 in
set_option maxRecDepth 100000 in
theorem c_B_copyFrom (l : Launch) {w : Wc} {rr : Nat} (hw : WK w rr) (p : Nat) (hp : p ∈ wbL) (a1 : Nat) (ha1 : a1 ∈ wbL) (M : Mem) : Ct QV l y_B_copyFrom b_B_copyFrom 2 none (rmL 2) w [.ref (wad w p), .ref (wad w a1)] M (f_B_copyFrom p a1 M) := by
  refine Ct.go (by decide) (L := [(0, .ref (wad w p)), (1, .ref (wad w a1))]) rfl (Nat.le_of_ble_eq_true rfl) (fun p0 e s m args below meth c g hret => ?_)
  unfold f_B_copyFrom
  refine G_aload_n g (pc := 0) 1 d_B_copyFrom_0 rfl rfl ?_
  refine G_getR g (pc := 1) fa_B_9 (hw.m _ (wb_lt0 ha1)) (hw.k (wb_k0 ha1)) (hw.r (wb_r0_0 ha1 rr)) d_B_copyFrom_1 ?_
  refine G_aload_n g (pc := 4) 0 d_B_copyFrom_4 rfl rfl ?_
  refine G_getR g (pc := 5) fa_B_9 (hw.m _ (wb_lt0 hp)) (hw.k (wb_k0 hp)) (hw.r (wb_r0_0 hp rr)) d_B_copyFrom_5 ?_
  refine G_cSNV g (pc := 8) (As := [.ref (wad w (a1 + 1)), .ref (wad w (p + 1))]) (st := []) cc_B_22 (c_G_copyRow l hw (a1 + 1) (hw.m _ (wb_lt1 ha1)) (hw.k (wb_k1 ha1)) (p + 1) (hw.m _ (wb_lt1 hp)) (hw.k (wb_k1 hp)) M) rfl ⟨(Nat.le_of_ble_eq_true rfl), (Nat.le_of_ble_eq_true rfl)⟩ ⟨(Nat.le_of_ble_eq_true rfl), (Nat.le_of_ble_eq_true rfl)⟩ (Nat.le_of_ble_eq_true rfl) d_B_copyFrom_8 (fun M2 => ?_)
  refine G_aload_n g (pc := 11) 0 d_B_copyFrom_11 rfl rfl ?_
  refine G_aload_n g (pc := 12) 1 d_B_copyFrom_12 rfl rfl ?_
  refine G_get g (pc := 13) fa_B_15 (hw.m _ (wb_lt0 ha1)) (hw.k (wb_k0 ha1)) d_B_copyFrom_13 ?_
  refine G_put g (pc := 16) fa_B_15 fw_8_1 rfl rfl (hw.m _ (wb_lt0 hp)) (hw.k (wb_k0 hp)) d_B_copyFrom_16 ?_
  refine G_nmM (fun M3 => ?_)
  refine G_aload_n g (pc := 19) 0 d_B_copyFrom_19 rfl rfl ?_
  refine G_aload_n g (pc := 20) 1 d_B_copyFrom_20 rfl rfl ?_
  refine G_get g (pc := 21) fa_B_19 (hw.m _ (wb_lt0 ha1)) (hw.k (wb_k0 ha1)) d_B_copyFrom_21 ?_
  refine G_put g (pc := 24) fa_B_19 fw_8_2 rfl rfl (hw.m _ (wb_lt0 hp)) (hw.k (wb_k0 hp)) d_B_copyFrom_24 ?_
  refine G_nmM (fun M4 => ?_)
  exact G_return g (pc := 27) hret (Nat.le_of_ble_eq_true rfl) (Nat.le_of_ble_eq_true rfl) d_B_copyFrom_27

theorem d_B_add_0 : decode b_B_add 0 = .ok (.aload_n 0, 1) := by decide +kernel
theorem d_B_add_1 : decode b_B_add 1 = .ok (.getfield 9, 3) := by decide +kernel
theorem d_B_add_4 : decode b_B_add 4 = .ok (.aload_n 0, 1) := by decide +kernel
theorem d_B_add_5 : decode b_B_add 5 = .ok (.getfield 15, 3) := by decide +kernel
theorem d_B_add_8 : decode b_B_add 8 = .ok (.aload_n 0, 1) := by decide +kernel
theorem d_B_add_9 : decode b_B_add 9 = .ok (.getfield 19, 3) := by decide +kernel
theorem d_B_add_12 : decode b_B_add 12 = .ok (.iadd, 1) := by decide +kernel
theorem d_B_add_13 : decode b_B_add 13 = .ok (.bipush 8, 2) := by decide +kernel
theorem d_B_add_15 : decode b_B_add 15 = .ok (.irem, 1) := by decide +kernel
theorem d_B_add_16 : decode b_B_add 16 = .ok (.iload_n 1, 1) := by decide +kernel
theorem d_B_add_17 : decode b_B_add 17 = .ok (.invokestatic 26, 3) := by decide +kernel
theorem d_B_add_20 : decode b_B_add 20 = .ok (.aload_n 0, 1) := by decide +kernel
theorem d_B_add_21 : decode b_B_add 21 = .ok (.getfield 19, 3) := by decide +kernel
theorem d_B_add_24 : decode b_B_add 24 = .ok (.bipush 8, 2) := by decide +kernel
theorem d_B_add_26 : decode b_B_add 26 = .ok (.if_icmp .ge 16, 3) := by decide +kernel
theorem d_B_add_29 : decode b_B_add 29 = .ok (.aload_n 0, 1) := by decide +kernel
theorem d_B_add_30 : decode b_B_add 30 = .ok (.dup, 1) := by decide +kernel
theorem d_B_add_31 : decode b_B_add 31 = .ok (.getfield 19, 3) := by decide +kernel
theorem d_B_add_34 : decode b_B_add 34 = .ok (.iconst 1, 1) := by decide +kernel
theorem d_B_add_35 : decode b_B_add 35 = .ok (.iadd, 1) := by decide +kernel
theorem d_B_add_36 : decode b_B_add 36 = .ok (.putfield 19, 3) := by decide +kernel
theorem d_B_add_39 : decode b_B_add 39 = .ok (.goto 16, 3) := by decide +kernel
theorem d_B_add_42 : decode b_B_add 42 = .ok (.aload_n 0, 1) := by decide +kernel
theorem d_B_add_43 : decode b_B_add 43 = .ok (.aload_n 0, 1) := by decide +kernel
theorem d_B_add_44 : decode b_B_add 44 = .ok (.getfield 15, 3) := by decide +kernel
theorem d_B_add_47 : decode b_B_add 47 = .ok (.iconst 1, 1) := by decide +kernel
theorem d_B_add_48 : decode b_B_add 48 = .ok (.iadd, 1) := by decide +kernel
theorem d_B_add_49 : decode b_B_add 49 = .ok (.bipush 8, 2) := by decide +kernel
theorem d_B_add_51 : decode b_B_add 51 = .ok (.irem, 1) := by decide +kernel
theorem d_B_add_52 : decode b_B_add 52 = .ok (.putfield 15, 3) := by decide +kernel
theorem d_B_add_55 : decode b_B_add 55 = .ok (.return_, 1) := by decide +kernel
theorem cc_B_26 : CSN "KiteLogger$WindBuffer" 26 "KiteLogger" y_G_putAt b_G_putAt 3 none 3 := ⟨NW_in (i := 1195) (by decide +kernel) (by decide +kernel), TT_in (i := 963) (by decide +kernel) (by decide +kernel), TT_in (i := 88) (by decide +kernel) (by decide +kernel), TT_in (i := 964) (by decide +kernel) (by decide +kernel), ⟨by decide +kernel, by decide +kernel, by decide +kernel⟩⟩
def f_B_add (p : Nat) (a1 : Int32) (M : Mem) : Option (Mem) :=
  bndM (f_G_putAt (p + 1) (irm ((M p 1) + (M p 2)) (8 : Int32)) a1 M) fun (M2 : Mem) => if (M2 p 2) < (8 : Int32) then (nm (put M2 p 2 ((M2 p 2) + (1 : Int32))) fun (M3 : Mem) => some M3) else (nm (put M2 p 1 (irm ((M2 p 1) + (1 : Int32)) (8 : Int32))) fun (M4 : Mem) => some M4)
set_option maxHeartbeats 4000000 in
set_option maxRecDepth 100000 in
theorem c_B_add (l : Launch) {w : Wc} {rr : Nat} (hw : WK w rr) (p : Nat) (hp : p ∈ wbL) (a1 : Int32) (M : Mem) : Ct QV l y_B_add b_B_add 2 none (rmL 1) w [.ref (wad w p), .int a1] M (f_B_add p a1 M) := by
  refine Ct.go (by decide) (L := [(0, .ref (wad w p)), (1, .int a1)]) rfl (Nat.le_of_ble_eq_true rfl) (fun p0 e s m args below meth c g hret => ?_)
  unfold f_B_add
  refine G_aload_n g (pc := 0) 0 d_B_add_0 rfl rfl ?_
  refine G_getR g (pc := 1) fa_B_9 (hw.m _ (wb_lt0 hp)) (hw.k (wb_k0 hp)) (hw.r (wb_r0_0 hp rr)) d_B_add_1 ?_
  refine G_aload_n g (pc := 4) 0 d_B_add_4 rfl rfl ?_
  refine G_get g (pc := 5) fa_B_15 (hw.m _ (wb_lt0 hp)) (hw.k (wb_k0 hp)) d_B_add_5 ?_
  refine G_aload_n g (pc := 8) 0 d_B_add_8 rfl rfl ?_
  refine G_get g (pc := 9) fa_B_19 (hw.m _ (wb_lt0 hp)) (hw.k (wb_k0 hp)) d_B_add_9 ?_
  refine G_iadd g (pc := 12) d_B_add_12 ?_
  refine G_bipush g (pc := 13) (8 : Int32) d_B_add_13 rfl ?_
  refine G_iremK g (pc := 15) (by decide) d_B_add_15 ?_
  refine G_iload_n g (pc := 16) 1 d_B_add_16 rfl rfl ?_
  refine G_cSNV g (pc := 17) (As := [.ref (wad w (p + 1)), .int (irm ((M p 1) + (M p 2)) (8 : Int32)), .int a1]) (st := []) cc_B_26 (c_G_putAt l hw (p + 1) (hw.m _ (wb_lt1 hp)) (hw.k (wb_k1 hp)) (irm ((M p 1) + (M p 2)) (8 : Int32)) a1 M) rfl ⟨(Nat.le_of_ble_eq_true rfl), (Nat.le_of_ble_eq_true rfl)⟩ ⟨(Nat.le_of_ble_eq_true rfl), (Nat.le_of_ble_eq_true rfl)⟩ (Nat.le_of_ble_eq_true rfl) d_B_add_17 (fun M2 => ?_)
  refine G_aload_n g (pc := 20) 0 d_B_add_20 rfl rfl ?_
  refine G_get g (pc := 21) fa_B_19 (hw.m _ (wb_lt0 hp)) (hw.k (wb_k0 hp)) d_B_add_21 ?_
  refine G_bipush g (pc := 24) (8 : Int32) d_B_add_24 rfl ?_
  refine G_icmp_ge g (pc := 26) 42 d_B_add_26 (by decide) ?_ ?_
  · refine G_aload_n g (pc := 29) 0 d_B_add_29 rfl rfl ?_
    refine G_dup g (pc := 30) d_B_add_30 rfl ?_
    refine G_get g (pc := 31) fa_B_19 (hw.m _ (wb_lt0 hp)) (hw.k (wb_k0 hp)) d_B_add_31 ?_
    refine G_iconst g (pc := 34) (1 : Int32) d_B_add_34 rfl ?_
    refine G_iadd g (pc := 35) d_B_add_35 ?_
    refine G_put g (pc := 36) fa_B_19 fw_8_2 rfl rfl (hw.m _ (wb_lt0 hp)) (hw.k (wb_k0 hp)) d_B_add_36 ?_
    refine G_nmM (fun M3 => ?_)
    refine G_goto g (pc := 39) 55 d_B_add_39 (by decide) ?_
    exact G_return g (pc := 55) hret (Nat.le_of_ble_eq_true rfl) (Nat.le_of_ble_eq_true rfl) d_B_add_55
  · refine G_aload_n g (pc := 42) 0 d_B_add_42 rfl rfl ?_
    refine G_aload_n g (pc := 43) 0 d_B_add_43 rfl rfl ?_
    refine G_get g (pc := 44) fa_B_15 (hw.m _ (wb_lt0 hp)) (hw.k (wb_k0 hp)) d_B_add_44 ?_
    refine G_iconst g (pc := 47) (1 : Int32) d_B_add_47 rfl ?_
    refine G_iadd g (pc := 48) d_B_add_48 ?_
    refine G_bipush g (pc := 49) (8 : Int32) d_B_add_49 rfl ?_
    refine G_iremK g (pc := 51) (by decide) d_B_add_51 ?_
    refine G_put g (pc := 52) fa_B_15 fw_8_1 rfl rfl (hw.m _ (wb_lt0 hp)) (hw.k (wb_k0 hp)) d_B_add_52 ?_
    refine G_nmM (fun M4 => ?_)
    exact G_return g (pc := 55) hret (Nat.le_of_ble_eq_true rfl) (Nat.le_of_ble_eq_true rfl) d_B_add_55

theorem d_B_has_0 : decode b_B_has 0 = .ok (.iload_n 1, 1) := by decide +kernel
theorem d_B_has_1 : decode b_B_has 1 = .ok (.ifCond .lt 15, 3) := by decide +kernel
theorem d_B_has_4 : decode b_B_has 4 = .ok (.iload_n 1, 1) := by decide +kernel
theorem d_B_has_5 : decode b_B_has 5 = .ok (.aload_n 0, 1) := by decide +kernel
theorem d_B_has_6 : decode b_B_has 6 = .ok (.getfield 19, 3) := by decide +kernel
theorem d_B_has_9 : decode b_B_has 9 = .ok (.if_icmp .ge 7, 3) := by decide +kernel
theorem d_B_has_12 : decode b_B_has 12 = .ok (.iconst 1, 1) := by decide +kernel
theorem d_B_has_13 : decode b_B_has 13 = .ok (.goto 4, 3) := by decide +kernel
theorem d_B_has_16 : decode b_B_has 16 = .ok (.iconst 0, 1) := by decide +kernel
theorem d_B_has_17 : decode b_B_has 17 = .ok (.ireturn, 1) := by decide +kernel
def f_B_has (p : Nat) (a1 : Int32) (M : Mem) : Option (Bool × Mem) :=
  if a1 < 0 then (some (false, M)) else (if a1 < (M p 2) then (some (true, M)) else (some (false, M)))
set_option maxHeartbeats 4000000 in
set_option maxRecDepth 100000 in
theorem c_B_has (l : Launch) {w : Wc} {rr : Nat} (hw : WK w rr) (p : Nat) (hp : p ∈ wbL) (a1 : Int32) (M : Mem) : Ct QZ l y_B_has b_B_has 2 (some .boolean) (rmL 0) w [.ref (wad w p), .int a1] M (f_B_has p a1 M) := by
  refine Ct.go (by decide) (L := [(0, .ref (wad w p)), (1, .int a1)]) rfl (Nat.le_of_ble_eq_true rfl) (fun p0 e s m args below meth c g hret => ?_)
  unfold f_B_has
  refine G_iload_n g (pc := 0) 1 d_B_has_0 rfl rfl ?_
  refine G_if_lt g (pc := 1) 16 d_B_has_1 (by decide) ?_ ?_
  · refine G_iconst g (pc := 16) (0 : Int32) d_B_has_16 rfl ?_
    exact G_zreturn g (pc := 17) false rfl hret (Nat.le_of_ble_eq_true rfl) (Nat.le_of_ble_eq_true rfl) d_B_has_17
  · refine G_iload_n g (pc := 4) 1 d_B_has_4 rfl rfl ?_
    refine G_aload_n g (pc := 5) 0 d_B_has_5 rfl rfl ?_
    refine G_get g (pc := 6) fa_B_19 (hw.m _ (wb_lt0 hp)) (hw.k (wb_k0 hp)) d_B_has_6 ?_
    refine G_icmp_ge g (pc := 9) 16 d_B_has_9 (by decide) ?_ ?_
    · refine G_iconst g (pc := 12) (1 : Int32) d_B_has_12 rfl ?_
      refine G_goto g (pc := 13) 17 d_B_has_13 (by decide) ?_
      exact G_zreturn g (pc := 17) true rfl hret (Nat.le_of_ble_eq_true rfl) (Nat.le_of_ble_eq_true rfl) d_B_has_17
    · refine G_iconst g (pc := 16) (0 : Int32) d_B_has_16 rfl ?_
      exact G_zreturn g (pc := 17) false rfl hret (Nat.le_of_ble_eq_true rfl) (Nat.le_of_ble_eq_true rfl) d_B_has_17

theorem d_B_at_0 : decode b_B_at 0 = .ok (.aload_n 0, 1) := by decide +kernel
theorem d_B_at_1 : decode b_B_at 1 = .ok (.getfield 9, 3) := by decide +kernel
theorem d_B_at_4 : decode b_B_at 4 = .ok (.aload_n 0, 1) := by decide +kernel
theorem d_B_at_5 : decode b_B_at 5 = .ok (.getfield 15, 3) := by decide +kernel
theorem d_B_at_8 : decode b_B_at 8 = .ok (.iload_n 1, 1) := by decide +kernel
theorem d_B_at_9 : decode b_B_at 9 = .ok (.iadd, 1) := by decide +kernel
theorem d_B_at_10 : decode b_B_at 10 = .ok (.bipush 8, 2) := by decide +kernel
theorem d_B_at_12 : decode b_B_at 12 = .ok (.irem, 1) := by decide +kernel
theorem d_B_at_13 : decode b_B_at 13 = .ok (.invokestatic 30, 3) := by decide +kernel
theorem d_B_at_16 : decode b_B_at 16 = .ok (.ireturn, 1) := by decide +kernel
theorem cc_B_30 : CSN "KiteLogger$WindBuffer" 30 "KiteLogger" y_G_valueAt b_G_valueAt 2 (some .int) 2 := ⟨NW_in (i := 520) (by decide +kernel) (by decide +kernel), TT_in (i := 521) (by decide +kernel) (by decide +kernel), TT_in (i := 88) (by decide +kernel) (by decide +kernel), TT_in (i := 522) (by decide +kernel) (by decide +kernel), ⟨by decide +kernel, by decide +kernel, by decide +kernel⟩⟩
def f_B_at (p : Nat) (a1 : Int32) (M : Mem) : Option (Int32 × Mem) :=
  bnd (f_G_valueAt (p + 1) (irm ((M p 1) + a1) (8 : Int32)) M) fun (x1 : Int32) (M2 : Mem) => some (x1, M2)
set_option maxHeartbeats 4000000 in
set_option maxRecDepth 100000 in
theorem c_B_at (l : Launch) {w : Wc} {rr : Nat} (hw : WK w rr) (p : Nat) (hp : p ∈ wbL) (a1 : Int32) (M : Mem) : Ct QI l y_B_at b_B_at 2 (some .int) (rmL 1) w [.ref (wad w p), .int a1] M (f_B_at p a1 M) := by
  refine Ct.go (by decide) (L := [(0, .ref (wad w p)), (1, .int a1)]) rfl (Nat.le_of_ble_eq_true rfl) (fun p0 e s m args below meth c g hret => ?_)
  unfold f_B_at
  refine G_aload_n g (pc := 0) 0 d_B_at_0 rfl rfl ?_
  refine G_getR g (pc := 1) fa_B_9 (hw.m _ (wb_lt0 hp)) (hw.k (wb_k0 hp)) (hw.r (wb_r0_0 hp rr)) d_B_at_1 ?_
  refine G_aload_n g (pc := 4) 0 d_B_at_4 rfl rfl ?_
  refine G_get g (pc := 5) fa_B_15 (hw.m _ (wb_lt0 hp)) (hw.k (wb_k0 hp)) d_B_at_5 ?_
  refine G_iload_n g (pc := 8) 1 d_B_at_8 rfl rfl ?_
  refine G_iadd g (pc := 9) d_B_at_9 ?_
  refine G_bipush g (pc := 10) (8 : Int32) d_B_at_10 rfl ?_
  refine G_iremK g (pc := 12) (by decide) d_B_at_12 ?_
  refine G_cSNI g (pc := 13) (As := [.ref (wad w (p + 1)), .int (irm ((M p 1) + a1) (8 : Int32))]) (st := []) cc_B_30 (c_G_valueAt l hw (p + 1) (hw.m _ (wb_lt1 hp)) (hw.k (wb_k1 hp)) (irm ((M p 1) + a1) (8 : Int32)) M) rfl ⟨(Nat.le_of_ble_eq_true rfl), (Nat.le_of_ble_eq_true rfl)⟩ ⟨(Nat.le_of_ble_eq_true rfl), (Nat.le_of_ble_eq_true rfl)⟩ (Nat.le_of_ble_eq_true rfl) d_B_at_13 (fun x1 M2 => ?_)
  exact G_ireturn g (pc := 16) hret (Nat.le_of_ble_eq_true rfl) (Nat.le_of_ble_eq_true rfl) d_B_at_16

theorem d_B_greatest_0 : decode b_B_greatest 0 = .ok (.iconst 0, 1) := by decide +kernel
theorem d_B_greatest_1 : decode b_B_greatest 1 = .ok (.istore_n 1, 1) := by decide +kernel
theorem d_B_greatest_2 : decode b_B_greatest 2 = .ok (.iconst 0, 1) := by decide +kernel
theorem d_B_greatest_3 : decode b_B_greatest 3 = .ok (.istore_n 2, 1) := by decide +kernel
theorem d_B_greatest_4 : decode b_B_greatest 4 = .ok (.iload_n 2, 1) := by decide +kernel
theorem d_B_greatest_5 : decode b_B_greatest 5 = .ok (.aload_n 0, 1) := by decide +kernel
theorem d_B_greatest_6 : decode b_B_greatest 6 = .ok (.getfield 19, 3) := by decide +kernel
theorem d_B_greatest_9 : decode b_B_greatest 9 = .ok (.if_icmp .ge 19, 3) := by decide +kernel
theorem d_B_greatest_12 : decode b_B_greatest 12 = .ok (.iload_n 1, 1) := by decide +kernel
theorem d_B_greatest_13 : decode b_B_greatest 13 = .ok (.aload_n 0, 1) := by decide +kernel
theorem d_B_greatest_14 : decode b_B_greatest 14 = .ok (.iload_n 2, 1) := by decide +kernel
theorem d_B_greatest_15 : decode b_B_greatest 15 = .ok (.invokevirtual 34, 3) := by decide +kernel
theorem d_B_greatest_18 : decode b_B_greatest 18 = .ok (.invokestatic 38, 3) := by decide +kernel
theorem d_B_greatest_21 : decode b_B_greatest 21 = .ok (.istore_n 1, 1) := by decide +kernel
theorem d_B_greatest_22 : decode b_B_greatest 22 = .ok (.iinc 2 1, 3) := by decide +kernel
theorem d_B_greatest_25 : decode b_B_greatest 25 = .ok (.goto (-21), 3) := by decide +kernel
theorem d_B_greatest_28 : decode b_B_greatest 28 = .ok (.iload_n 1, 1) := by decide +kernel
theorem d_B_greatest_29 : decode b_B_greatest 29 = .ok (.ireturn, 1) := by decide +kernel
theorem cc_B_34 : CV "KiteLogger$WindBuffer" 34 y_B_at b_B_at 2 (some .int) 1 := ⟨TT_in (i := 531) (by decide +kernel) (by decide +kernel), TT_in (i := 517) (by decide +kernel) (by decide +kernel), TT_in (i := 518) (by decide +kernel) (by decide +kernel), TT_in (i := 96) (by decide +kernel) (by decide +kernel), TT_in (i := 519) (by decide +kernel) (by decide +kernel), ⟨by decide +kernel, by decide +kernel, by decide +kernel⟩⟩
theorem ma_B_38 : Cond.methodLink "KiteLogger$WindBuffer" 38 Lib.Math.max.name ∈ TT ∧ Cond.static Lib.Math.max.name ∈ TT ∧ Cond.initialized "java/lang/Math" ∈ TT ∧ Cond.code Lib.Math.max.name Lib.Math.max.code 2 (some .int) ∈ TT := ⟨TT_in (i := 532) (by decide +kernel) (by decide +kernel), TT_in (i := 327) (by decide +kernel) (by decide +kernel), TT_in (i := 91) (by decide +kernel) (by decide +kernel), TT_in (i := 328) (by decide +kernel) (by decide +kernel)⟩
def lp_B_greatest_4 (N0 rr : Nat) (p : Nat)  : Nat → Int32 × Int32 → Mem → (Int32 × Int32 → Mem → Option (Int32 × Mem)) → Option (Int32 × Mem)
  | 0, _, _, _ => none
  | N + 1, a, M, k => if a.2 < (M p 2) then (bnd (f_B_at p a.2 M) fun (x1 : Int32) (M2 : Mem) => nm (imax a.1 x1) fun (x3 : Int32) => nm (a.2 + (1 : Int32)) fun (x4 : Int32) => lp_B_greatest_4 N0 rr p N (x3, x4) M2 k) else (k (a.1, a.2) M)
def f_B_greatest (N : Nat) (rr : Nat) (p : Nat) (M : Mem) : Option (Int32 × Mem) :=
  lp_B_greatest_4 N rr p N ((0 : Int32), (0 : Int32)) M (fun (a6 : Int32 × Int32) (M5 : Mem) => some (a6.1, M5))
set_option maxHeartbeats 4000000 in
set_option maxRecDepth 100000 in
theorem c_B_greatest (l : Launch) (N : Nat) {w : Wc} {rr : Nat} (hw : WK w rr) (p : Nat) (hp : p ∈ wbL) (M : Mem) : Ct QI l y_B_greatest b_B_greatest 3 (some .int) (rmL 2) w [.ref (wad w p)] M (f_B_greatest N rr p M) := by
  refine Ct.go (by decide) (L := [(0, .ref (wad w p))]) rfl (Nat.le_of_ble_eq_true rfl) (fun p0 e s m args below meth c g hret => ?_)
  unfold f_B_greatest
  refine G_iconst g (pc := 0) (0 : Int32) d_B_greatest_0 rfl ?_
  refine G_istore_n g (pc := 1) _ d_B_greatest_1 rfl (Nat.le_of_ble_eq_true rfl) rfl ?_
  refine G_iconst g (pc := 2) (0 : Int32) d_B_greatest_2 rfl ?_
  refine G_istore_n g (pc := 3) _ d_B_greatest_3 rfl (Nat.le_of_ble_eq_true rfl) rfl ?_
  refine G_sub [2, 1, 0] _ rfl ?_
  refine G_loop (F := lp_B_greatest_4 N rr p) 4 28 (fun (a : Int32 × Int32) => [(0, .ref (wad w p)), (1, .int a.1), (2, .int a.2)]) (fun (a : Int32 × Int32) => [(0, .ref (wad w p)), (1, .int a.1), (2, .int a.2)]) (fun _ _ _ => rfl) (fun a6 M5 => ?_) (fun k hk Nl ih a M => ?_) N ((0 : Int32), (0 : Int32)) M
  · refine G_iload_n g (pc := 28) 1 d_B_greatest_28 rfl rfl ?_
    exact G_ireturn g (pc := 29) hret (Nat.le_of_ble_eq_true rfl) (Nat.le_of_ble_eq_true rfl) d_B_greatest_29
  · show Go p0 l e _ s m args below meth c w _ _ _ _ (lp_B_greatest_4 N rr p (Nl + 1) a M k) 4 _ _ M
    unfold lp_B_greatest_4
    refine G_iload_n g (pc := 4) 2 d_B_greatest_4 rfl rfl ?_
    refine G_aload_n g (pc := 5) 0 d_B_greatest_5 rfl rfl ?_
    refine G_get g (pc := 6) fa_B_19 (hw.m _ (wb_lt0 hp)) (hw.k (wb_k0 hp)) d_B_greatest_6 ?_
    refine G_icmp_ge g (pc := 9) 28 d_B_greatest_9 (by decide) ?_ ?_
    · refine G_iload_n g (pc := 12) 1 d_B_greatest_12 rfl rfl ?_
      refine G_aload_n g (pc := 13) 0 d_B_greatest_13 rfl rfl ?_
      refine G_iload_n g (pc := 14) 2 d_B_greatest_14 rfl rfl ?_
      refine G_cVI g (pc := 15) (As := [.int a.2]) (st := [.int a.1]) cc_B_34 (c_B_at l hw p hp a.2 M) (hw.m _ (wb_lt0 hp)) (hw.k (wb_k0 hp)) rfl (by decide) rfl ⟨(Nat.le_of_ble_eq_true rfl), (Nat.le_of_ble_eq_true rfl)⟩ ⟨(Nat.le_of_ble_eq_true rfl), (Nat.le_of_ble_eq_true rfl)⟩ (Nat.le_of_ble_eq_true rfl) d_B_greatest_15 (fun x1 M2 => ?_)
      refine G_mmax g (pc := 18) ma_B_38 ⟨(Nat.le_of_ble_eq_true rfl), (Nat.le_of_ble_eq_true rfl), (Nat.le_of_ble_eq_true rfl), (Nat.le_of_ble_eq_true rfl)⟩ d_B_greatest_18 ?_
      refine G_nmI (fun x3 => ?_)
      refine G_istore_n g (pc := 21) _ d_B_greatest_21 rfl (Nat.le_of_ble_eq_true rfl) rfl ?_
      refine G_nmX (a.2 + (1 : Int32)) (fun x4 e_x4 => ?_)
      refine G_iinc g (pc := 22) x4 _ 2 d_B_greatest_22 rfl e_x4.symm (Nat.le_of_ble_eq_true rfl) rfl ?_
      refine G_goto g (pc := 25) 4 d_B_greatest_25 (by decide) ?_
      refine G_sub [2, 1, 0] _ rfl ?_
      exact ih (x3, x4) M2
    · refine G_sub [0, 1, 2] _ rfl ?_
      exact hk (a.1, a.2) M

theorem d_B_sum_0 : decode b_B_sum 0 = .ok (.iconst 0, 1) := by decide +kernel
theorem d_B_sum_1 : decode b_B_sum 1 = .ok (.istore_n 1, 1) := by decide +kernel
theorem d_B_sum_2 : decode b_B_sum 2 = .ok (.iconst 0, 1) := by decide +kernel
theorem d_B_sum_3 : decode b_B_sum 3 = .ok (.istore_n 2, 1) := by decide +kernel
theorem d_B_sum_4 : decode b_B_sum 4 = .ok (.iload_n 2, 1) := by decide +kernel
theorem d_B_sum_5 : decode b_B_sum 5 = .ok (.aload_n 0, 1) := by decide +kernel
theorem d_B_sum_6 : decode b_B_sum 6 = .ok (.getfield 19, 3) := by decide +kernel
theorem d_B_sum_9 : decode b_B_sum 9 = .ok (.if_icmp .ge 17, 3) := by decide +kernel
theorem d_B_sum_12 : decode b_B_sum 12 = .ok (.iload_n 1, 1) := by decide +kernel
theorem d_B_sum_13 : decode b_B_sum 13 = .ok (.aload_n 0, 1) := by decide +kernel
theorem d_B_sum_14 : decode b_B_sum 14 = .ok (.iload_n 2, 1) := by decide +kernel
theorem d_B_sum_15 : decode b_B_sum 15 = .ok (.invokevirtual 34, 3) := by decide +kernel
theorem d_B_sum_18 : decode b_B_sum 18 = .ok (.iadd, 1) := by decide +kernel
theorem d_B_sum_19 : decode b_B_sum 19 = .ok (.istore_n 1, 1) := by decide +kernel
theorem d_B_sum_20 : decode b_B_sum 20 = .ok (.iinc 2 1, 3) := by decide +kernel
theorem d_B_sum_23 : decode b_B_sum 23 = .ok (.goto (-19), 3) := by decide +kernel
theorem d_B_sum_26 : decode b_B_sum 26 = .ok (.iload_n 1, 1) := by decide +kernel
theorem d_B_sum_27 : decode b_B_sum 27 = .ok (.ireturn, 1) := by decide +kernel
def lp_B_sum_4 (N0 rr : Nat) (p : Nat)  : Nat → Int32 × Int32 → Mem → (Int32 × Int32 → Mem → Option (Int32 × Mem)) → Option (Int32 × Mem)
  | 0, _, _, _ => none
  | N + 1, a, M, k => if a.2 < (M p 2) then (bnd (f_B_at p a.2 M) fun (x1 : Int32) (M2 : Mem) => nm (a.1 + x1) fun (x3 : Int32) => nm (a.2 + (1 : Int32)) fun (x4 : Int32) => lp_B_sum_4 N0 rr p N (x3, x4) M2 k) else (k (a.1, a.2) M)
def f_B_sum (N : Nat) (rr : Nat) (p : Nat) (M : Mem) : Option (Int32 × Mem) :=
  lp_B_sum_4 N rr p N ((0 : Int32), (0 : Int32)) M (fun (a6 : Int32 × Int32) (M5 : Mem) => some (a6.1, M5))
set_option maxHeartbeats 4000000 in
set_option maxRecDepth 100000 in
theorem c_B_sum (l : Launch) (N : Nat) {w : Wc} {rr : Nat} (hw : WK w rr) (p : Nat) (hp : p ∈ wbL) (M : Mem) : Ct QI l y_B_sum b_B_sum 3 (some .int) (rmL 2) w [.ref (wad w p)] M (f_B_sum N rr p M) := by
  refine Ct.go (by decide) (L := [(0, .ref (wad w p))]) rfl (Nat.le_of_ble_eq_true rfl) (fun p0 e s m args below meth c g hret => ?_)
  unfold f_B_sum
  refine G_iconst g (pc := 0) (0 : Int32) d_B_sum_0 rfl ?_
  refine G_istore_n g (pc := 1) _ d_B_sum_1 rfl (Nat.le_of_ble_eq_true rfl) rfl ?_
  refine G_iconst g (pc := 2) (0 : Int32) d_B_sum_2 rfl ?_
  refine G_istore_n g (pc := 3) _ d_B_sum_3 rfl (Nat.le_of_ble_eq_true rfl) rfl ?_
  refine G_sub [2, 1, 0] _ rfl ?_
  refine G_loop (F := lp_B_sum_4 N rr p) 4 26 (fun (a : Int32 × Int32) => [(0, .ref (wad w p)), (1, .int a.1), (2, .int a.2)]) (fun (a : Int32 × Int32) => [(0, .ref (wad w p)), (1, .int a.1), (2, .int a.2)]) (fun _ _ _ => rfl) (fun a6 M5 => ?_) (fun k hk Nl ih a M => ?_) N ((0 : Int32), (0 : Int32)) M
  · refine G_iload_n g (pc := 26) 1 d_B_sum_26 rfl rfl ?_
    exact G_ireturn g (pc := 27) hret (Nat.le_of_ble_eq_true rfl) (Nat.le_of_ble_eq_true rfl) d_B_sum_27
  · show Go p0 l e _ s m args below meth c w _ _ _ _ (lp_B_sum_4 N rr p (Nl + 1) a M k) 4 _ _ M
    unfold lp_B_sum_4
    refine G_iload_n g (pc := 4) 2 d_B_sum_4 rfl rfl ?_
    refine G_aload_n g (pc := 5) 0 d_B_sum_5 rfl rfl ?_
    refine G_get g (pc := 6) fa_B_19 (hw.m _ (wb_lt0 hp)) (hw.k (wb_k0 hp)) d_B_sum_6 ?_
    refine G_icmp_ge g (pc := 9) 26 d_B_sum_9 (by decide) ?_ ?_
    · refine G_iload_n g (pc := 12) 1 d_B_sum_12 rfl rfl ?_
      refine G_aload_n g (pc := 13) 0 d_B_sum_13 rfl rfl ?_
      refine G_iload_n g (pc := 14) 2 d_B_sum_14 rfl rfl ?_
      refine G_cVI g (pc := 15) (As := [.int a.2]) (st := [.int a.1]) cc_B_34 (c_B_at l hw p hp a.2 M) (hw.m _ (wb_lt0 hp)) (hw.k (wb_k0 hp)) rfl (by decide) rfl ⟨(Nat.le_of_ble_eq_true rfl), (Nat.le_of_ble_eq_true rfl)⟩ ⟨(Nat.le_of_ble_eq_true rfl), (Nat.le_of_ble_eq_true rfl)⟩ (Nat.le_of_ble_eq_true rfl) d_B_sum_15 (fun x1 M2 => ?_)
      refine G_iadd g (pc := 18) d_B_sum_18 ?_
      refine G_nmI (fun x3 => ?_)
      refine G_istore_n g (pc := 19) _ d_B_sum_19 rfl (Nat.le_of_ble_eq_true rfl) rfl ?_
      refine G_nmX (a.2 + (1 : Int32)) (fun x4 e_x4 => ?_)
      refine G_iinc g (pc := 20) x4 _ 2 d_B_sum_20 rfl e_x4.symm (Nat.le_of_ble_eq_true rfl) rfl ?_
      refine G_goto g (pc := 23) 4 d_B_sum_23 (by decide) ?_
      refine G_sub [2, 1, 0] _ rfl ?_
      exact ih (x3, x4) M2
    · refine G_sub [0, 1, 2] _ rfl ?_
      exact hk (a.1, a.2) M
end
section
theorem d_S_empty_0 : decode b_S_empty 0 = .ok (.aload_n 0, 1) := by decide +kernel
theorem d_S_empty_1 : decode b_S_empty 1 = .ok (.iconst 0, 1) := by decide +kernel
theorem d_S_empty_2 : decode b_S_empty 2 = .ok (.putfield 7, 3) := by decide +kernel
theorem d_S_empty_5 : decode b_S_empty 5 = .ok (.aload_n 0, 1) := by decide +kernel
theorem d_S_empty_6 : decode b_S_empty 6 = .ok (.iconst 0, 1) := by decide +kernel
theorem d_S_empty_7 : decode b_S_empty 7 = .ok (.putfield 13, 3) := by decide +kernel
theorem d_S_empty_10 : decode b_S_empty 10 = .ok (.return_, 1) := by decide +kernel
def f_S_empty (p : Nat) (M : Mem) : Option (Mem) :=
  nm (put M p 4 (0 : Int32)) fun (M1 : Mem) => nm (put M1 p 5 (0 : Int32)) fun (M2 : Mem) => some M2
set_option maxHeartbeats 4000000 in
set_option maxRecDepth 100000 in
theorem c_S_empty (l : Launch) {w : Wc} {rr : Nat} (hw : WK w rr) (p : Nat) (hp : p ∈ saL) (M : Mem) : Ct QV l y_S_empty b_S_empty 1 none (rmL 0) w [.ref (wad w p)] M (f_S_empty p M) := by
  refine Ct.go (by decide) (L := [(0, .ref (wad w p))]) rfl (Nat.le_of_ble_eq_true rfl) (fun p0 e s m args below meth c g hret => ?_)
  unfold f_S_empty
  refine G_aload_n g (pc := 0) 0 d_S_empty_0 rfl rfl ?_
  refine G_iconst g (pc := 1) (0 : Int32) d_S_empty_1 rfl ?_
  refine G_put g (pc := 2) fa_S_7 fw_3_4 rfl rfl (hw.m _ (sa_lt0 hp)) (hw.k (sa_k0 hp)) d_S_empty_2 ?_
  refine G_nmM (fun M1 => ?_)
  refine G_aload_n g (pc := 5) 0 d_S_empty_5 rfl rfl ?_
  refine G_iconst g (pc := 6) (0 : Int32) d_S_empty_6 rfl ?_
  refine G_put g (pc := 7) fa_S_13 fw_3_5 rfl rfl (hw.m _ (sa_lt0 hp)) (hw.k (sa_k0 hp)) d_S_empty_7 ?_
  refine G_nmM (fun M2 => ?_)
  exact G_return g (pc := 10) hret (Nat.le_of_ble_eq_true rfl) (Nat.le_of_ble_eq_true rfl) d_S_empty_10

theorem d_S_setUp_0 : decode b_S_setUp 0 = .ok (.aload_n 0, 1) := by decide +kernel
theorem d_S_setUp_1 : decode b_S_setUp 1 = .ok (.invokevirtual 38, 3) := by decide +kernel
theorem d_S_setUp_4 : decode b_S_setUp 4 = .ok (.aload_n 0, 1) := by decide +kernel
theorem d_S_setUp_5 : decode b_S_setUp 5 = .ok (.iconst 0, 1) := by decide +kernel
theorem d_S_setUp_6 : decode b_S_setUp 6 = .ok (.putfield 16, 3) := by decide +kernel
theorem d_S_setUp_9 : decode b_S_setUp 9 = .ok (.return_, 1) := by decide +kernel
theorem cc_S_38 : CV "KiteLogger$Samples" 38 y_S_empty b_S_empty 1 none 0 := ⟨TT_in (i := 444) (by decide +kernel) (by decide +kernel), TT_in (i := 445) (by decide +kernel) (by decide +kernel), TT_in (i := 446) (by decide +kernel) (by decide +kernel), TT_in (i := 97) (by decide +kernel) (by decide +kernel), TT_in (i := 447) (by decide +kernel) (by decide +kernel), ⟨by decide +kernel, by decide +kernel, by decide +kernel⟩⟩
def f_S_setUp (p : Nat) (M : Mem) : Option (Mem) :=
  bndM (f_S_empty p M) fun (M2 : Mem) => nm (put M2 p 6 (0 : Int32)) fun (M3 : Mem) => some M3
set_option maxHeartbeats 4000000 in
set_option maxRecDepth 100000 in
theorem c_S_setUp (l : Launch) {w : Wc} {rr : Nat} (hw : WK w rr) (p : Nat) (hp : p ∈ saL) (M : Mem) : Ct QV l y_S_setUp b_S_setUp 1 none (rmL 1) w [.ref (wad w p)] M (f_S_setUp p M) := by
  refine Ct.go (by decide) (L := [(0, .ref (wad w p))]) rfl (Nat.le_of_ble_eq_true rfl) (fun p0 e s m args below meth c g hret => ?_)
  unfold f_S_setUp
  refine G_aload_n g (pc := 0) 0 d_S_setUp_0 rfl rfl ?_
  refine G_cVV g (pc := 1) (As := []) (st := []) cc_S_38 (c_S_empty l hw p hp M) (hw.m _ (sa_lt0 hp)) (hw.k (sa_k0 hp)) rfl (by decide) rfl ⟨(Nat.le_of_ble_eq_true rfl), (Nat.le_of_ble_eq_true rfl)⟩ ⟨(Nat.le_of_ble_eq_true rfl), (Nat.le_of_ble_eq_true rfl)⟩ (Nat.le_of_ble_eq_true rfl) d_S_setUp_1 (fun M2 => ?_)
  refine G_aload_n g (pc := 4) 0 d_S_setUp_4 rfl rfl ?_
  refine G_iconst g (pc := 5) (0 : Int32) d_S_setUp_5 rfl ?_
  refine G_put g (pc := 6) fa_S_16 fw_3_6 rfl rfl (hw.m _ (sa_lt0 hp)) (hw.k (sa_k0 hp)) d_S_setUp_6 ?_
  refine G_nmM (fun M3 => ?_)
  exact G_return g (pc := 9) hret (Nat.le_of_ble_eq_true rfl) (Nat.le_of_ble_eq_true rfl) d_S_setUp_9

theorem d_S_copyFrom_0 : decode b_S_copyFrom 0 = .ok (.aload_n 1, 1) := by decide +kernel
theorem d_S_copyFrom_1 : decode b_S_copyFrom 1 = .ok (.getfield 28, 3) := by decide +kernel
theorem d_S_copyFrom_4 : decode b_S_copyFrom 4 = .ok (.aload_n 0, 1) := by decide +kernel
theorem d_S_copyFrom_5 : decode b_S_copyFrom 5 = .ok (.getfield 28, 3) := by decide +kernel
theorem d_S_copyFrom_8 : decode b_S_copyFrom 8 = .ok (.invokestatic 41, 3) := by decide +kernel
theorem d_S_copyFrom_11 : decode b_S_copyFrom 11 = .ok (.aload_n 1, 1) := by decide +kernel
theorem d_S_copyFrom_12 : decode b_S_copyFrom 12 = .ok (.getfield 32, 3) := by decide +kernel
theorem d_S_copyFrom_15 : decode b_S_copyFrom 15 = .ok (.aload_n 0, 1) := by decide +kernel
theorem d_S_copyFrom_16 : decode b_S_copyFrom 16 = .ok (.getfield 32, 3) := by decide +kernel
theorem d_S_copyFrom_19 : decode b_S_copyFrom 19 = .ok (.invokestatic 41, 3) := by decide +kernel
theorem d_S_copyFrom_22 : decode b_S_copyFrom 22 = .ok (.aload_n 1, 1) := by decide +kernel
theorem d_S_copyFrom_23 : decode b_S_copyFrom 23 = .ok (.getfield 35, 3) := by decide +kernel
theorem d_S_copyFrom_26 : decode b_S_copyFrom 26 = .ok (.aload_n 0, 1) := by decide +kernel
theorem d_S_copyFrom_27 : decode b_S_copyFrom 27 = .ok (.getfield 35, 3) := by decide +kernel
theorem d_S_copyFrom_30 : decode b_S_copyFrom 30 = .ok (.invokestatic 41, 3) := by decide +kernel
theorem d_S_copyFrom_33 : decode b_S_copyFrom 33 = .ok (.aload_n 0, 1) := by decide +kernel
theorem d_S_copyFrom_34 : decode b_S_copyFrom 34 = .ok (.aload_n 1, 1) := by decide +kernel
theorem d_S_copyFrom_35 : decode b_S_copyFrom 35 = .ok (.getfield 7, 3) := by decide +kernel
theorem d_S_copyFrom_38 : decode b_S_copyFrom 38 = .ok (.putfield 7, 3) := by decide +kernel
theorem d_S_copyFrom_41 : decode b_S_copyFrom 41 = .ok (.aload_n 0, 1) := by decide +kernel
theorem d_S_copyFrom_42 : decode b_S_copyFrom 42 = .ok (.aload_n 1, 1) := by decide +kernel
theorem d_S_copyFrom_43 : decode b_S_copyFrom 43 = .ok (.getfield 13, 3) := by decide +kernel
theorem d_S_copyFrom_46 : decode b_S_copyFrom 46 = .ok (.putfield 13, 3) := by decide +kernel
theorem d_S_copyFrom_49 : decode b_S_copyFrom 49 = .ok (.aload_n 0, 1) := by decide +kernel
theorem d_S_copyFrom_50 : decode b_S_copyFrom 50 = .ok (.aload_n 1, 1) := by decide +kernel
theorem d_S_copyFrom_51 : decode b_S_copyFrom 51 = .ok (.getfield 16, 3) := by decide +kernel
theorem d_S_copyFrom_54 : decode b_S_copyFrom 54 = .ok (.putfield 16, 3) := by decide +kernel
theorem d_S_copyFrom_57 : decode b_S_copyFrom 57 = .ok (.return_, 1) := by decide +kernel
theorem cc_S_41 : CSN "KiteLogger$Samples" 41 "KiteLogger" y_G_copyRow b_G_copyRow 2 none 2 := ⟨NW_in (i := 773) (by decide +kernel) (by decide +kernel), TT_in (i := 174) (by decide +kernel) (by decide +kernel), TT_in (i := 88) (by decide +kernel) (by decide +kernel), TT_in (i := 175) (by decide +kernel) (by decide +kernel), ⟨by decide +kernel, by decide +kernel, by decide +kernel⟩⟩
def f_S_copyFrom (p : Nat) (a1 : Nat) (M : Mem) : Option (Mem) :=
  bndM (f_G_copyRow (a1 + 1) (p + 1) M) fun (M2 : Mem) => bndM (f_G_copyRow (a1 + 2) (p + 2) M2) fun (M4 : Mem) => bndM (f_G_copyRow (a1 + 3) (p + 3) M4) fun (M6 : Mem) => nm (put M6 p 4 (M6 a1 4)) fun (M7 : Mem) => nm (put M7 p 5 (M7 a1 5)) fun (M8 : Mem) => nm (put M8 p 6 (M8 a1 6)) fun (M9 : Mem) => some M9
set_option maxHeartbeats 4000000 in
set_option maxRecDepth 100000 in
theorem c_S_copyFrom (l : Launch) {w : Wc} {rr : Nat} (hw : WK w rr) (p : Nat) (hp : p ∈ saL) (a1 : Nat) (ha1 : a1 ∈ saL) (M : Mem) : Ct QV l y_S_copyFrom b_S_copyFrom 2 none (rmL 2) w [.ref (wad w p), .ref (wad w a1)] M (f_S_copyFrom p a1 M) := by
  refine Ct.go (by decide) (L := [(0, .ref (wad w p)), (1, .ref (wad w a1))]) rfl (Nat.le_of_ble_eq_true rfl) (fun p0 e s m args below meth c g hret => ?_)
  unfold f_S_copyFrom
  refine G_aload_n g (pc := 0) 1 d_S_copyFrom_0 rfl rfl ?_
  refine G_getR g (pc := 1) fa_S_28 (hw.m _ (sa_lt0 ha1)) (hw.k (sa_k0 ha1)) (hw.r (sa_r0_1 ha1 rr)) d_S_copyFrom_1 ?_
  refine G_aload_n g (pc := 4) 0 d_S_copyFrom_4 rfl rfl ?_
  refine G_getR g (pc := 5) fa_S_28 (hw.m _ (sa_lt0 hp)) (hw.k (sa_k0 hp)) (hw.r (sa_r0_1 hp rr)) d_S_copyFrom_5 ?_
  refine G_cSNV g (pc := 8) (As := [.ref (wad w (a1 + 1)), .ref (wad w (p + 1))]) (st := []) cc_S_41 (c_G_copyRow l hw (a1 + 1) (hw.m _ (sa_lt1 ha1)) (hw.k (sa_k1 ha1)) (p + 1) (hw.m _ (sa_lt1 hp)) (hw.k (sa_k1 hp)) M) rfl ⟨(Nat.le_of_ble_eq_true rfl), (Nat.le_of_ble_eq_true rfl)⟩ ⟨(Nat.le_of_ble_eq_true rfl), (Nat.le_of_ble_eq_true rfl)⟩ (Nat.le_of_ble_eq_true rfl) d_S_copyFrom_8 (fun M2 => ?_)
  refine G_aload_n g (pc := 11) 1 d_S_copyFrom_11 rfl rfl ?_
  refine G_getR g (pc := 12) fa_S_32 (hw.m _ (sa_lt0 ha1)) (hw.k (sa_k0 ha1)) (hw.r (sa_r0_2 ha1 rr)) d_S_copyFrom_12 ?_
  refine G_aload_n g (pc := 15) 0 d_S_copyFrom_15 rfl rfl ?_
  refine G_getR g (pc := 16) fa_S_32 (hw.m _ (sa_lt0 hp)) (hw.k (sa_k0 hp)) (hw.r (sa_r0_2 hp rr)) d_S_copyFrom_16 ?_
  refine G_cSNV g (pc := 19) (As := [.ref (wad w (a1 + 2)), .ref (wad w (p + 2))]) (st := []) cc_S_41 (c_G_copyRow l hw (a1 + 2) (hw.m _ (sa_lt2 ha1)) (hw.k (sa_k2 ha1)) (p + 2) (hw.m _ (sa_lt2 hp)) (hw.k (sa_k2 hp)) M2) rfl ⟨(Nat.le_of_ble_eq_true rfl), (Nat.le_of_ble_eq_true rfl)⟩ ⟨(Nat.le_of_ble_eq_true rfl), (Nat.le_of_ble_eq_true rfl)⟩ (Nat.le_of_ble_eq_true rfl) d_S_copyFrom_19 (fun M4 => ?_)
  refine G_aload_n g (pc := 22) 1 d_S_copyFrom_22 rfl rfl ?_
  refine G_getR g (pc := 23) fa_S_35 (hw.m _ (sa_lt0 ha1)) (hw.k (sa_k0 ha1)) (hw.r (sa_r0_3 ha1 rr)) d_S_copyFrom_23 ?_
  refine G_aload_n g (pc := 26) 0 d_S_copyFrom_26 rfl rfl ?_
  refine G_getR g (pc := 27) fa_S_35 (hw.m _ (sa_lt0 hp)) (hw.k (sa_k0 hp)) (hw.r (sa_r0_3 hp rr)) d_S_copyFrom_27 ?_
  refine G_cSNV g (pc := 30) (As := [.ref (wad w (a1 + 3)), .ref (wad w (p + 3))]) (st := []) cc_S_41 (c_G_copyRow l hw (a1 + 3) (hw.m _ (sa_lt3 ha1)) (hw.k (sa_k3 ha1)) (p + 3) (hw.m _ (sa_lt3 hp)) (hw.k (sa_k3 hp)) M4) rfl ⟨(Nat.le_of_ble_eq_true rfl), (Nat.le_of_ble_eq_true rfl)⟩ ⟨(Nat.le_of_ble_eq_true rfl), (Nat.le_of_ble_eq_true rfl)⟩ (Nat.le_of_ble_eq_true rfl) d_S_copyFrom_30 (fun M6 => ?_)
  refine G_aload_n g (pc := 33) 0 d_S_copyFrom_33 rfl rfl ?_
  refine G_aload_n g (pc := 34) 1 d_S_copyFrom_34 rfl rfl ?_
  refine G_get g (pc := 35) fa_S_7 (hw.m _ (sa_lt0 ha1)) (hw.k (sa_k0 ha1)) d_S_copyFrom_35 ?_
  refine G_put g (pc := 38) fa_S_7 fw_3_4 rfl rfl (hw.m _ (sa_lt0 hp)) (hw.k (sa_k0 hp)) d_S_copyFrom_38 ?_
  refine G_nmM (fun M7 => ?_)
  refine G_aload_n g (pc := 41) 0 d_S_copyFrom_41 rfl rfl ?_
  refine G_aload_n g (pc := 42) 1 d_S_copyFrom_42 rfl rfl ?_
  refine G_get g (pc := 43) fa_S_13 (hw.m _ (sa_lt0 ha1)) (hw.k (sa_k0 ha1)) d_S_copyFrom_43 ?_
  refine G_put g (pc := 46) fa_S_13 fw_3_5 rfl rfl (hw.m _ (sa_lt0 hp)) (hw.k (sa_k0 hp)) d_S_copyFrom_46 ?_
  refine G_nmM (fun M8 => ?_)
  refine G_aload_n g (pc := 49) 0 d_S_copyFrom_49 rfl rfl ?_
  refine G_aload_n g (pc := 50) 1 d_S_copyFrom_50 rfl rfl ?_
  refine G_get g (pc := 51) fa_S_16 (hw.m _ (sa_lt0 ha1)) (hw.k (sa_k0 ha1)) d_S_copyFrom_51 ?_
  refine G_put g (pc := 54) fa_S_16 fw_3_6 rfl rfl (hw.m _ (sa_lt0 hp)) (hw.k (sa_k0 hp)) d_S_copyFrom_54 ?_
  refine G_nmM (fun M9 => ?_)
  exact G_return g (pc := 57) hret (Nat.le_of_ble_eq_true rfl) (Nat.le_of_ble_eq_true rfl) d_S_copyFrom_57

theorem d_S_placeOf_0 : decode b_S_placeOf 0 = .ok (.aload_n 0, 1) := by decide +kernel
theorem d_S_placeOf_1 : decode b_S_placeOf 1 = .ok (.getfield 25, 3) := by decide +kernel
theorem d_S_placeOf_4 : decode b_S_placeOf 4 = .ok (.ifCond .le 17, 3) := by decide +kernel
theorem d_S_placeOf_7 : decode b_S_placeOf 7 = .ok (.aload_n 0, 1) := by decide +kernel
theorem d_S_placeOf_8 : decode b_S_placeOf 8 = .ok (.getfield 7, 3) := by decide +kernel
theorem d_S_placeOf_11 : decode b_S_placeOf 11 = .ok (.iload_n 1, 1) := by decide +kernel
theorem d_S_placeOf_12 : decode b_S_placeOf 12 = .ok (.iadd, 1) := by decide +kernel
theorem d_S_placeOf_13 : decode b_S_placeOf 13 = .ok (.aload_n 0, 1) := by decide +kernel
theorem d_S_placeOf_14 : decode b_S_placeOf 14 = .ok (.getfield 25, 3) := by decide +kernel
theorem d_S_placeOf_17 : decode b_S_placeOf 17 = .ok (.irem, 1) := by decide +kernel
theorem d_S_placeOf_18 : decode b_S_placeOf 18 = .ok (.goto 4, 3) := by decide +kernel
theorem d_S_placeOf_21 : decode b_S_placeOf 21 = .ok (.iconst 0, 1) := by decide +kernel
theorem d_S_placeOf_22 : decode b_S_placeOf 22 = .ok (.ireturn, 1) := by decide +kernel
def f_S_placeOf (p : Nat) (a1 : Int32) (M : Mem) : Option (Int32 × Mem) :=
  if 0 < (M p 0) then (grd (nzB (M p 0)) (some (irm ((M p 4) + a1) (M p 0), M))) else (some ((0 : Int32), M))
set_option maxHeartbeats 4000000 in
set_option maxRecDepth 100000 in
theorem c_S_placeOf (l : Launch) {w : Wc} {rr : Nat} (hw : WK w rr) (p : Nat) (hp : p ∈ saL) (a1 : Int32) (M : Mem) : Ct QI l y_S_placeOf b_S_placeOf 2 (some .int) (rmL 0) w [.ref (wad w p), .int a1] M (f_S_placeOf p a1 M) := by
  refine Ct.go (by decide) (L := [(0, .ref (wad w p)), (1, .int a1)]) rfl (Nat.le_of_ble_eq_true rfl) (fun p0 e s m args below meth c g hret => ?_)
  unfold f_S_placeOf
  refine G_aload_n g (pc := 0) 0 d_S_placeOf_0 rfl rfl ?_
  refine G_get g (pc := 1) fa_S_25 (hw.m _ (sa_lt0 hp)) (hw.k (sa_k0 hp)) d_S_placeOf_1 ?_
  refine G_if_le g (pc := 4) 21 d_S_placeOf_4 (by decide) ?_ ?_
  · refine G_aload_n g (pc := 7) 0 d_S_placeOf_7 rfl rfl ?_
    refine G_get g (pc := 8) fa_S_7 (hw.m _ (sa_lt0 hp)) (hw.k (sa_k0 hp)) d_S_placeOf_8 ?_
    refine G_iload_n g (pc := 11) 1 d_S_placeOf_11 rfl rfl ?_
    refine G_iadd g (pc := 12) d_S_placeOf_12 ?_
    refine G_aload_n g (pc := 13) 0 d_S_placeOf_13 rfl rfl ?_
    refine G_get g (pc := 14) fa_S_25 (hw.m _ (sa_lt0 hp)) (hw.k (sa_k0 hp)) d_S_placeOf_14 ?_
    refine G_irem g (pc := 17) d_S_placeOf_17 ?_
    refine G_goto g (pc := 18) 22 d_S_placeOf_18 (by decide) ?_
    exact G_ireturn g (pc := 22) hret (Nat.le_of_ble_eq_true rfl) (Nat.le_of_ble_eq_true rfl) d_S_placeOf_22
  · refine G_iconst g (pc := 21) (0 : Int32) d_S_placeOf_21 rfl ?_
    exact G_ireturn g (pc := 22) hret (Nat.le_of_ble_eq_true rfl) (Nat.le_of_ble_eq_true rfl) d_S_placeOf_22

theorem d_S_add_0 : decode b_S_add 0 = .ok (.aload_n 0, 1) := by decide +kernel
theorem d_S_add_1 : decode b_S_add 1 = .ok (.aload_n 0, 1) := by decide +kernel
theorem d_S_add_2 : decode b_S_add 2 = .ok (.getfield 13, 3) := by decide +kernel
theorem d_S_add_5 : decode b_S_add 5 = .ok (.invokevirtual 47, 3) := by decide +kernel
theorem d_S_add_8 : decode b_S_add 8 = .ok (.istore 4, 2) := by decide +kernel
theorem d_S_add_10 : decode b_S_add 10 = .ok (.aload_n 0, 1) := by decide +kernel
theorem d_S_add_11 : decode b_S_add 11 = .ok (.getfield 28, 3) := by decide +kernel
theorem d_S_add_14 : decode b_S_add 14 = .ok (.iload 4, 2) := by decide +kernel
theorem d_S_add_16 : decode b_S_add 16 = .ok (.iload_n 1, 1) := by decide +kernel
theorem d_S_add_17 : decode b_S_add 17 = .ok (.invokestatic 51, 3) := by decide +kernel
theorem d_S_add_20 : decode b_S_add 20 = .ok (.aload_n 0, 1) := by decide +kernel
theorem d_S_add_21 : decode b_S_add 21 = .ok (.getfield 32, 3) := by decide +kernel
theorem d_S_add_24 : decode b_S_add 24 = .ok (.iload 4, 2) := by decide +kernel
theorem d_S_add_26 : decode b_S_add 26 = .ok (.iload_n 2, 1) := by decide +kernel
theorem d_S_add_27 : decode b_S_add 27 = .ok (.invokestatic 51, 3) := by decide +kernel
theorem d_S_add_30 : decode b_S_add 30 = .ok (.aload_n 0, 1) := by decide +kernel
theorem d_S_add_31 : decode b_S_add 31 = .ok (.getfield 35, 3) := by decide +kernel
theorem d_S_add_34 : decode b_S_add 34 = .ok (.iload 4, 2) := by decide +kernel
theorem d_S_add_36 : decode b_S_add 36 = .ok (.iload_n 3, 1) := by decide +kernel
theorem d_S_add_37 : decode b_S_add 37 = .ok (.invokestatic 51, 3) := by decide +kernel
theorem d_S_add_40 : decode b_S_add 40 = .ok (.aload_n 0, 1) := by decide +kernel
theorem d_S_add_41 : decode b_S_add 41 = .ok (.getfield 13, 3) := by decide +kernel
theorem d_S_add_44 : decode b_S_add 44 = .ok (.aload_n 0, 1) := by decide +kernel
theorem d_S_add_45 : decode b_S_add 45 = .ok (.getfield 25, 3) := by decide +kernel
theorem d_S_add_48 : decode b_S_add 48 = .ok (.if_icmp .ge 16, 3) := by decide +kernel
theorem d_S_add_51 : decode b_S_add 51 = .ok (.aload_n 0, 1) := by decide +kernel
theorem d_S_add_52 : decode b_S_add 52 = .ok (.dup, 1) := by decide +kernel
theorem d_S_add_53 : decode b_S_add 53 = .ok (.getfield 13, 3) := by decide +kernel
theorem d_S_add_56 : decode b_S_add 56 = .ok (.iconst 1, 1) := by decide +kernel
theorem d_S_add_57 : decode b_S_add 57 = .ok (.iadd, 1) := by decide +kernel
theorem d_S_add_58 : decode b_S_add 58 = .ok (.putfield 13, 3) := by decide +kernel
theorem d_S_add_61 : decode b_S_add 61 = .ok (.goto 22, 3) := by decide +kernel
theorem d_S_add_64 : decode b_S_add 64 = .ok (.aload_n 0, 1) := by decide +kernel
theorem d_S_add_65 : decode b_S_add 65 = .ok (.aload_n 0, 1) := by decide +kernel
theorem d_S_add_66 : decode b_S_add 66 = .ok (.iconst 1, 1) := by decide +kernel
theorem d_S_add_67 : decode b_S_add 67 = .ok (.invokevirtual 47, 3) := by decide +kernel
theorem d_S_add_70 : decode b_S_add 70 = .ok (.putfield 7, 3) := by decide +kernel
theorem d_S_add_73 : decode b_S_add 73 = .ok (.aload_n 0, 1) := by decide +kernel
theorem d_S_add_74 : decode b_S_add 74 = .ok (.dup, 1) := by decide +kernel
theorem d_S_add_75 : decode b_S_add 75 = .ok (.getfield 16, 3) := by decide +kernel
theorem d_S_add_78 : decode b_S_add 78 = .ok (.iconst 1, 1) := by decide +kernel
theorem d_S_add_79 : decode b_S_add 79 = .ok (.iadd, 1) := by decide +kernel
theorem d_S_add_80 : decode b_S_add 80 = .ok (.putfield 16, 3) := by decide +kernel
theorem d_S_add_83 : decode b_S_add 83 = .ok (.return_, 1) := by decide +kernel
theorem cc_S_47 : CV "KiteLogger$Samples" 47 y_S_placeOf b_S_placeOf 2 (some .int) 1 := ⟨TT_in (i := 628) (by decide +kernel) (by decide +kernel), TT_in (i := 630) (by decide +kernel) (by decide +kernel), TT_in (i := 0) (by decide +kernel) (by decide +kernel), TT_in (i := 97) (by decide +kernel) (by decide +kernel), TT_in (i := 631) (by decide +kernel) (by decide +kernel), ⟨by decide +kernel, by decide +kernel, by decide +kernel⟩⟩
theorem cc_S_51 : CSN "KiteLogger$Samples" 51 "KiteLogger" y_G_putAt b_G_putAt 3 none 3 := ⟨NW_in (i := 1180) (by decide +kernel) (by decide +kernel), TT_in (i := 963) (by decide +kernel) (by decide +kernel), TT_in (i := 88) (by decide +kernel) (by decide +kernel), TT_in (i := 964) (by decide +kernel) (by decide +kernel), ⟨by decide +kernel, by decide +kernel, by decide +kernel⟩⟩
def f_S_add (p : Nat) (a1 : Int32) (a2 : Int32) (a3 : Int32) (M : Mem) : Option (Mem) :=
  bnd (f_S_placeOf p (M p 5) M) fun (x1 : Int32) (M2 : Mem) => bndM (f_G_putAt (p + 1) x1 a1 M2) fun (M4 : Mem) => bndM (f_G_putAt (p + 2) x1 a2 M4) fun (M6 : Mem) => bndM (f_G_putAt (p + 3) x1 a3 M6) fun (M8 : Mem) => if (M8 p 5) < (M8 p 0) then (nm (put M8 p 5 ((M8 p 5) + (1 : Int32))) fun (M9 : Mem) => some M9) else (bnd (f_S_placeOf p (1 : Int32) M8) fun (x10 : Int32) (M11 : Mem) => nm (put M11 p 4 x10) fun (M12 : Mem) => nm (put M12 p 6 ((M12 p 6) + (1 : Int32))) fun (M13 : Mem) => some M13)
set_option maxHeartbeats 4000000 in
set_option maxRecDepth 100000 in
theorem c_S_add (l : Launch) {w : Wc} {rr : Nat} (hw : WK w rr) (p : Nat) (hp : p ∈ saL) (a1 : Int32) (a2 : Int32) (a3 : Int32) (M : Mem) : Ct QV l y_S_add b_S_add 5 none (rmL 1) w [.ref (wad w p), .int a1, .int a2, .int a3] M (f_S_add p a1 a2 a3 M) := by
  refine Ct.go (by decide) (L := [(0, .ref (wad w p)), (1, .int a1), (2, .int a2), (3, .int a3)]) rfl (Nat.le_of_ble_eq_true rfl) (fun p0 e s m args below meth c g hret => ?_)
  unfold f_S_add
  refine G_aload_n g (pc := 0) 0 d_S_add_0 rfl rfl ?_
  refine G_aload_n g (pc := 1) 0 d_S_add_1 rfl rfl ?_
  refine G_get g (pc := 2) fa_S_13 (hw.m _ (sa_lt0 hp)) (hw.k (sa_k0 hp)) d_S_add_2 ?_
  refine G_cVI g (pc := 5) (As := [.int (M p 5)]) (st := []) cc_S_47 (c_S_placeOf l hw p hp (M p 5) M) (hw.m _ (sa_lt0 hp)) (hw.k (sa_k0 hp)) rfl (by decide) rfl ⟨(Nat.le_of_ble_eq_true rfl), (Nat.le_of_ble_eq_true rfl)⟩ ⟨(Nat.le_of_ble_eq_true rfl), (Nat.le_of_ble_eq_true rfl)⟩ (Nat.le_of_ble_eq_true rfl) d_S_add_5 (fun x1 M2 => ?_)
  refine G_istore g (pc := 8) _ d_S_add_8 (Nat.le_of_ble_eq_true rfl) rfl ?_
  refine G_aload_n g (pc := 10) 1 d_S_add_10 rfl rfl ?_
  refine G_getR g (pc := 11) fa_S_28 (hw.m _ (sa_lt0 hp)) (hw.k (sa_k0 hp)) (hw.r (sa_r0_1 hp rr)) d_S_add_11 ?_
  refine G_iload g (pc := 14) 0 d_S_add_14 rfl ?_
  refine G_iload_n g (pc := 16) 2 d_S_add_16 rfl rfl ?_
  refine G_cSNV g (pc := 17) (As := [.ref (wad w (p + 1)), .int x1, .int a1]) (st := []) cc_S_51 (c_G_putAt l hw (p + 1) (hw.m _ (sa_lt1 hp)) (hw.k (sa_k1 hp)) x1 a1 M2) rfl ⟨(Nat.le_of_ble_eq_true rfl), (Nat.le_of_ble_eq_true rfl)⟩ ⟨(Nat.le_of_ble_eq_true rfl), (Nat.le_of_ble_eq_true rfl)⟩ (Nat.le_of_ble_eq_true rfl) d_S_add_17 (fun M4 => ?_)
  refine G_aload_n g (pc := 20) 1 d_S_add_20 rfl rfl ?_
  refine G_getR g (pc := 21) fa_S_32 (hw.m _ (sa_lt0 hp)) (hw.k (sa_k0 hp)) (hw.r (sa_r0_2 hp rr)) d_S_add_21 ?_
  refine G_iload g (pc := 24) 0 d_S_add_24 rfl ?_
  refine G_iload_n g (pc := 26) 3 d_S_add_26 rfl rfl ?_
  refine G_cSNV g (pc := 27) (As := [.ref (wad w (p + 2)), .int x1, .int a2]) (st := []) cc_S_51 (c_G_putAt l hw (p + 2) (hw.m _ (sa_lt2 hp)) (hw.k (sa_k2 hp)) x1 a2 M4) rfl ⟨(Nat.le_of_ble_eq_true rfl), (Nat.le_of_ble_eq_true rfl)⟩ ⟨(Nat.le_of_ble_eq_true rfl), (Nat.le_of_ble_eq_true rfl)⟩ (Nat.le_of_ble_eq_true rfl) d_S_add_27 (fun M6 => ?_)
  refine G_aload_n g (pc := 30) 1 d_S_add_30 rfl rfl ?_
  refine G_getR g (pc := 31) fa_S_35 (hw.m _ (sa_lt0 hp)) (hw.k (sa_k0 hp)) (hw.r (sa_r0_3 hp rr)) d_S_add_31 ?_
  refine G_iload g (pc := 34) 0 d_S_add_34 rfl ?_
  refine G_iload_n g (pc := 36) 4 d_S_add_36 rfl rfl ?_
  refine G_cSNV g (pc := 37) (As := [.ref (wad w (p + 3)), .int x1, .int a3]) (st := []) cc_S_51 (c_G_putAt l hw (p + 3) (hw.m _ (sa_lt3 hp)) (hw.k (sa_k3 hp)) x1 a3 M6) rfl ⟨(Nat.le_of_ble_eq_true rfl), (Nat.le_of_ble_eq_true rfl)⟩ ⟨(Nat.le_of_ble_eq_true rfl), (Nat.le_of_ble_eq_true rfl)⟩ (Nat.le_of_ble_eq_true rfl) d_S_add_37 (fun M8 => ?_)
  refine G_aload_n g (pc := 40) 1 d_S_add_40 rfl rfl ?_
  refine G_get g (pc := 41) fa_S_13 (hw.m _ (sa_lt0 hp)) (hw.k (sa_k0 hp)) d_S_add_41 ?_
  refine G_aload_n g (pc := 44) 1 d_S_add_44 rfl rfl ?_
  refine G_get g (pc := 45) fa_S_25 (hw.m _ (sa_lt0 hp)) (hw.k (sa_k0 hp)) d_S_add_45 ?_
  refine G_icmp_ge g (pc := 48) 64 d_S_add_48 (by decide) ?_ ?_
  · refine G_aload_n g (pc := 51) 1 d_S_add_51 rfl rfl ?_
    refine G_dup g (pc := 52) d_S_add_52 rfl ?_
    refine G_get g (pc := 53) fa_S_13 (hw.m _ (sa_lt0 hp)) (hw.k (sa_k0 hp)) d_S_add_53 ?_
    refine G_iconst g (pc := 56) (1 : Int32) d_S_add_56 rfl ?_
    refine G_iadd g (pc := 57) d_S_add_57 ?_
    refine G_put g (pc := 58) fa_S_13 fw_3_5 rfl rfl (hw.m _ (sa_lt0 hp)) (hw.k (sa_k0 hp)) d_S_add_58 ?_
    refine G_nmM (fun M9 => ?_)
    refine G_goto g (pc := 61) 83 d_S_add_61 (by decide) ?_
    exact G_return g (pc := 83) hret (Nat.le_of_ble_eq_true rfl) (Nat.le_of_ble_eq_true rfl) d_S_add_83
  · refine G_aload_n g (pc := 64) 1 d_S_add_64 rfl rfl ?_
    refine G_aload_n g (pc := 65) 1 d_S_add_65 rfl rfl ?_
    refine G_iconst g (pc := 66) (1 : Int32) d_S_add_66 rfl ?_
    refine G_cVI g (pc := 67) (As := [.int (1 : Int32)]) (st := [.ref (wad w p)]) cc_S_47 (c_S_placeOf l hw p hp (1 : Int32) M8) (hw.m _ (sa_lt0 hp)) (hw.k (sa_k0 hp)) rfl (by decide) rfl ⟨(Nat.le_of_ble_eq_true rfl), (Nat.le_of_ble_eq_true rfl)⟩ ⟨(Nat.le_of_ble_eq_true rfl), (Nat.le_of_ble_eq_true rfl)⟩ (Nat.le_of_ble_eq_true rfl) d_S_add_67 (fun x10 M11 => ?_)
    refine G_put g (pc := 70) fa_S_7 fw_3_4 rfl rfl (hw.m _ (sa_lt0 hp)) (hw.k (sa_k0 hp)) d_S_add_70 ?_
    refine G_nmM (fun M12 => ?_)
    refine G_aload_n g (pc := 73) 1 d_S_add_73 rfl rfl ?_
    refine G_dup g (pc := 74) d_S_add_74 rfl ?_
    refine G_get g (pc := 75) fa_S_16 (hw.m _ (sa_lt0 hp)) (hw.k (sa_k0 hp)) d_S_add_75 ?_
    refine G_iconst g (pc := 78) (1 : Int32) d_S_add_78 rfl ?_
    refine G_iadd g (pc := 79) d_S_add_79 ?_
    refine G_put g (pc := 80) fa_S_16 fw_3_6 rfl rfl (hw.m _ (sa_lt0 hp)) (hw.k (sa_k0 hp)) d_S_add_80 ?_
    refine G_nmM (fun M13 => ?_)
    exact G_return g (pc := 83) hret (Nat.le_of_ble_eq_true rfl) (Nat.le_of_ble_eq_true rfl) d_S_add_83

theorem d_S_has_0 : decode b_S_has 0 = .ok (.iload_n 1, 1) := by decide +kernel
theorem d_S_has_1 : decode b_S_has 1 = .ok (.ifCond .lt 15, 3) := by decide +kernel
theorem d_S_has_4 : decode b_S_has 4 = .ok (.iload_n 1, 1) := by decide +kernel
theorem d_S_has_5 : decode b_S_has 5 = .ok (.aload_n 0, 1) := by decide +kernel
theorem d_S_has_6 : decode b_S_has 6 = .ok (.getfield 13, 3) := by decide +kernel
theorem d_S_has_9 : decode b_S_has 9 = .ok (.if_icmp .ge 7, 3) := by decide +kernel
theorem d_S_has_12 : decode b_S_has 12 = .ok (.iconst 1, 1) := by decide +kernel
theorem d_S_has_13 : decode b_S_has 13 = .ok (.goto 4, 3) := by decide +kernel
theorem d_S_has_16 : decode b_S_has 16 = .ok (.iconst 0, 1) := by decide +kernel
theorem d_S_has_17 : decode b_S_has 17 = .ok (.ireturn, 1) := by decide +kernel
def f_S_has (p : Nat) (a1 : Int32) (M : Mem) : Option (Bool × Mem) :=
  if a1 < 0 then (some (false, M)) else (if a1 < (M p 5) then (some (true, M)) else (some (false, M)))
set_option maxHeartbeats 4000000 in
set_option maxRecDepth 100000 in
theorem c_S_has (l : Launch) {w : Wc} {rr : Nat} (hw : WK w rr) (p : Nat) (hp : p ∈ saL) (a1 : Int32) (M : Mem) : Ct QZ l y_S_has b_S_has 2 (some .boolean) (rmL 0) w [.ref (wad w p), .int a1] M (f_S_has p a1 M) := by
  refine Ct.go (by decide) (L := [(0, .ref (wad w p)), (1, .int a1)]) rfl (Nat.le_of_ble_eq_true rfl) (fun p0 e s m args below meth c g hret => ?_)
  unfold f_S_has
  refine G_iload_n g (pc := 0) 1 d_S_has_0 rfl rfl ?_
  refine G_if_lt g (pc := 1) 16 d_S_has_1 (by decide) ?_ ?_
  · refine G_iconst g (pc := 16) (0 : Int32) d_S_has_16 rfl ?_
    exact G_zreturn g (pc := 17) false rfl hret (Nat.le_of_ble_eq_true rfl) (Nat.le_of_ble_eq_true rfl) d_S_has_17
  · refine G_iload_n g (pc := 4) 1 d_S_has_4 rfl rfl ?_
    refine G_aload_n g (pc := 5) 0 d_S_has_5 rfl rfl ?_
    refine G_get g (pc := 6) fa_S_13 (hw.m _ (sa_lt0 hp)) (hw.k (sa_k0 hp)) d_S_has_6 ?_
    refine G_icmp_ge g (pc := 9) 16 d_S_has_9 (by decide) ?_ ?_
    · refine G_iconst g (pc := 12) (1 : Int32) d_S_has_12 rfl ?_
      refine G_goto g (pc := 13) 17 d_S_has_13 (by decide) ?_
      exact G_zreturn g (pc := 17) true rfl hret (Nat.le_of_ble_eq_true rfl) (Nat.le_of_ble_eq_true rfl) d_S_has_17
    · refine G_iconst g (pc := 16) (0 : Int32) d_S_has_16 rfl ?_
      exact G_zreturn g (pc := 17) false rfl hret (Nat.le_of_ble_eq_true rfl) (Nat.le_of_ble_eq_true rfl) d_S_has_17

theorem d_S_tickAt_0 : decode b_S_tickAt 0 = .ok (.aload_n 0, 1) := by decide +kernel
theorem d_S_tickAt_1 : decode b_S_tickAt 1 = .ok (.getfield 28, 3) := by decide +kernel
theorem d_S_tickAt_4 : decode b_S_tickAt 4 = .ok (.aload_n 0, 1) := by decide +kernel
theorem d_S_tickAt_5 : decode b_S_tickAt 5 = .ok (.iload_n 1, 1) := by decide +kernel
theorem d_S_tickAt_6 : decode b_S_tickAt 6 = .ok (.invokevirtual 47, 3) := by decide +kernel
theorem d_S_tickAt_9 : decode b_S_tickAt 9 = .ok (.invokestatic 55, 3) := by decide +kernel
theorem d_S_tickAt_12 : decode b_S_tickAt 12 = .ok (.ireturn, 1) := by decide +kernel
theorem cc_S_55 : CSN "KiteLogger$Samples" 55 "KiteLogger" y_G_valueAt b_G_valueAt 2 (some .int) 2 := ⟨NW_in (i := 632) (by decide +kernel) (by decide +kernel), TT_in (i := 521) (by decide +kernel) (by decide +kernel), TT_in (i := 88) (by decide +kernel) (by decide +kernel), TT_in (i := 522) (by decide +kernel) (by decide +kernel), ⟨by decide +kernel, by decide +kernel, by decide +kernel⟩⟩
def f_S_tickAt (p : Nat) (a1 : Int32) (M : Mem) : Option (Int32 × Mem) :=
  bnd (f_S_placeOf p a1 M) fun (x1 : Int32) (M2 : Mem) => bnd (f_G_valueAt (p + 1) x1 M2) fun (x3 : Int32) (M4 : Mem) => some (x3, M4)
set_option maxHeartbeats 4000000 in
set_option maxRecDepth 100000 in
theorem c_S_tickAt (l : Launch) {w : Wc} {rr : Nat} (hw : WK w rr) (p : Nat) (hp : p ∈ saL) (a1 : Int32) (M : Mem) : Ct QI l y_S_tickAt b_S_tickAt 2 (some .int) (rmL 1) w [.ref (wad w p), .int a1] M (f_S_tickAt p a1 M) := by
  refine Ct.go (by decide) (L := [(0, .ref (wad w p)), (1, .int a1)]) rfl (Nat.le_of_ble_eq_true rfl) (fun p0 e s m args below meth c g hret => ?_)
  unfold f_S_tickAt
  refine G_aload_n g (pc := 0) 0 d_S_tickAt_0 rfl rfl ?_
  refine G_getR g (pc := 1) fa_S_28 (hw.m _ (sa_lt0 hp)) (hw.k (sa_k0 hp)) (hw.r (sa_r0_1 hp rr)) d_S_tickAt_1 ?_
  refine G_aload_n g (pc := 4) 0 d_S_tickAt_4 rfl rfl ?_
  refine G_iload_n g (pc := 5) 1 d_S_tickAt_5 rfl rfl ?_
  refine G_cVI g (pc := 6) (As := [.int a1]) (st := [.ref (wad w (p + 1))]) cc_S_47 (c_S_placeOf l hw p hp a1 M) (hw.m _ (sa_lt0 hp)) (hw.k (sa_k0 hp)) rfl (by decide) rfl ⟨(Nat.le_of_ble_eq_true rfl), (Nat.le_of_ble_eq_true rfl)⟩ ⟨(Nat.le_of_ble_eq_true rfl), (Nat.le_of_ble_eq_true rfl)⟩ (Nat.le_of_ble_eq_true rfl) d_S_tickAt_6 (fun x1 M2 => ?_)
  refine G_cSNI g (pc := 9) (As := [.ref (wad w (p + 1)), .int x1]) (st := []) cc_S_55 (c_G_valueAt l hw (p + 1) (hw.m _ (sa_lt1 hp)) (hw.k (sa_k1 hp)) x1 M2) rfl ⟨(Nat.le_of_ble_eq_true rfl), (Nat.le_of_ble_eq_true rfl)⟩ ⟨(Nat.le_of_ble_eq_true rfl), (Nat.le_of_ble_eq_true rfl)⟩ (Nat.le_of_ble_eq_true rfl) d_S_tickAt_9 (fun x3 M4 => ?_)
  exact G_ireturn g (pc := 12) hret (Nat.le_of_ble_eq_true rfl) (Nat.le_of_ble_eq_true rfl) d_S_tickAt_12

theorem d_S_heightAt_0 : decode b_S_heightAt 0 = .ok (.aload_n 0, 1) := by decide +kernel
theorem d_S_heightAt_1 : decode b_S_heightAt 1 = .ok (.getfield 32, 3) := by decide +kernel
theorem d_S_heightAt_4 : decode b_S_heightAt 4 = .ok (.aload_n 0, 1) := by decide +kernel
theorem d_S_heightAt_5 : decode b_S_heightAt 5 = .ok (.iload_n 1, 1) := by decide +kernel
theorem d_S_heightAt_6 : decode b_S_heightAt 6 = .ok (.invokevirtual 47, 3) := by decide +kernel
theorem d_S_heightAt_9 : decode b_S_heightAt 9 = .ok (.invokestatic 55, 3) := by decide +kernel
theorem d_S_heightAt_12 : decode b_S_heightAt 12 = .ok (.ireturn, 1) := by decide +kernel
def f_S_heightAt (p : Nat) (a1 : Int32) (M : Mem) : Option (Int32 × Mem) :=
  bnd (f_S_placeOf p a1 M) fun (x1 : Int32) (M2 : Mem) => bnd (f_G_valueAt (p + 2) x1 M2) fun (x3 : Int32) (M4 : Mem) => some (x3, M4)
set_option maxHeartbeats 4000000 in
set_option maxRecDepth 100000 in
theorem c_S_heightAt (l : Launch) {w : Wc} {rr : Nat} (hw : WK w rr) (p : Nat) (hp : p ∈ saL) (a1 : Int32) (M : Mem) : Ct QI l y_S_heightAt b_S_heightAt 2 (some .int) (rmL 1) w [.ref (wad w p), .int a1] M (f_S_heightAt p a1 M) := by
  refine Ct.go (by decide) (L := [(0, .ref (wad w p)), (1, .int a1)]) rfl (Nat.le_of_ble_eq_true rfl) (fun p0 e s m args below meth c g hret => ?_)
  unfold f_S_heightAt
  refine G_aload_n g (pc := 0) 0 d_S_heightAt_0 rfl rfl ?_
  refine G_getR g (pc := 1) fa_S_32 (hw.m _ (sa_lt0 hp)) (hw.k (sa_k0 hp)) (hw.r (sa_r0_2 hp rr)) d_S_heightAt_1 ?_
  refine G_aload_n g (pc := 4) 0 d_S_heightAt_4 rfl rfl ?_
  refine G_iload_n g (pc := 5) 1 d_S_heightAt_5 rfl rfl ?_
  refine G_cVI g (pc := 6) (As := [.int a1]) (st := [.ref (wad w (p + 2))]) cc_S_47 (c_S_placeOf l hw p hp a1 M) (hw.m _ (sa_lt0 hp)) (hw.k (sa_k0 hp)) rfl (by decide) rfl ⟨(Nat.le_of_ble_eq_true rfl), (Nat.le_of_ble_eq_true rfl)⟩ ⟨(Nat.le_of_ble_eq_true rfl), (Nat.le_of_ble_eq_true rfl)⟩ (Nat.le_of_ble_eq_true rfl) d_S_heightAt_6 (fun x1 M2 => ?_)
  refine G_cSNI g (pc := 9) (As := [.ref (wad w (p + 2)), .int x1]) (st := []) cc_S_55 (c_G_valueAt l hw (p + 2) (hw.m _ (sa_lt2 hp)) (hw.k (sa_k2 hp)) x1 M2) rfl ⟨(Nat.le_of_ble_eq_true rfl), (Nat.le_of_ble_eq_true rfl)⟩ ⟨(Nat.le_of_ble_eq_true rfl), (Nat.le_of_ble_eq_true rfl)⟩ (Nat.le_of_ble_eq_true rfl) d_S_heightAt_9 (fun x3 M4 => ?_)
  exact G_ireturn g (pc := 12) hret (Nat.le_of_ble_eq_true rfl) (Nat.le_of_ble_eq_true rfl) d_S_heightAt_12

theorem d_S_gustAt_0 : decode b_S_gustAt 0 = .ok (.aload_n 0, 1) := by decide +kernel
theorem d_S_gustAt_1 : decode b_S_gustAt 1 = .ok (.getfield 35, 3) := by decide +kernel
theorem d_S_gustAt_4 : decode b_S_gustAt 4 = .ok (.aload_n 0, 1) := by decide +kernel
theorem d_S_gustAt_5 : decode b_S_gustAt 5 = .ok (.iload_n 1, 1) := by decide +kernel
theorem d_S_gustAt_6 : decode b_S_gustAt 6 = .ok (.invokevirtual 47, 3) := by decide +kernel
theorem d_S_gustAt_9 : decode b_S_gustAt 9 = .ok (.invokestatic 55, 3) := by decide +kernel
theorem d_S_gustAt_12 : decode b_S_gustAt 12 = .ok (.ireturn, 1) := by decide +kernel
def f_S_gustAt (p : Nat) (a1 : Int32) (M : Mem) : Option (Int32 × Mem) :=
  bnd (f_S_placeOf p a1 M) fun (x1 : Int32) (M2 : Mem) => bnd (f_G_valueAt (p + 3) x1 M2) fun (x3 : Int32) (M4 : Mem) => some (x3, M4)
set_option maxHeartbeats 4000000 in
set_option maxRecDepth 100000 in
theorem c_S_gustAt (l : Launch) {w : Wc} {rr : Nat} (hw : WK w rr) (p : Nat) (hp : p ∈ saL) (a1 : Int32) (M : Mem) : Ct QI l y_S_gustAt b_S_gustAt 2 (some .int) (rmL 1) w [.ref (wad w p), .int a1] M (f_S_gustAt p a1 M) := by
  refine Ct.go (by decide) (L := [(0, .ref (wad w p)), (1, .int a1)]) rfl (Nat.le_of_ble_eq_true rfl) (fun p0 e s m args below meth c g hret => ?_)
  unfold f_S_gustAt
  refine G_aload_n g (pc := 0) 0 d_S_gustAt_0 rfl rfl ?_
  refine G_getR g (pc := 1) fa_S_35 (hw.m _ (sa_lt0 hp)) (hw.k (sa_k0 hp)) (hw.r (sa_r0_3 hp rr)) d_S_gustAt_1 ?_
  refine G_aload_n g (pc := 4) 0 d_S_gustAt_4 rfl rfl ?_
  refine G_iload_n g (pc := 5) 1 d_S_gustAt_5 rfl rfl ?_
  refine G_cVI g (pc := 6) (As := [.int a1]) (st := [.ref (wad w (p + 3))]) cc_S_47 (c_S_placeOf l hw p hp a1 M) (hw.m _ (sa_lt0 hp)) (hw.k (sa_k0 hp)) rfl (by decide) rfl ⟨(Nat.le_of_ble_eq_true rfl), (Nat.le_of_ble_eq_true rfl)⟩ ⟨(Nat.le_of_ble_eq_true rfl), (Nat.le_of_ble_eq_true rfl)⟩ (Nat.le_of_ble_eq_true rfl) d_S_gustAt_6 (fun x1 M2 => ?_)
  refine G_cSNI g (pc := 9) (As := [.ref (wad w (p + 3)), .int x1]) (st := []) cc_S_55 (c_G_valueAt l hw (p + 3) (hw.m _ (sa_lt3 hp)) (hw.k (sa_k3 hp)) x1 M2) rfl ⟨(Nat.le_of_ble_eq_true rfl), (Nat.le_of_ble_eq_true rfl)⟩ ⟨(Nat.le_of_ble_eq_true rfl), (Nat.le_of_ble_eq_true rfl)⟩ (Nat.le_of_ble_eq_true rfl) d_S_gustAt_9 (fun x3 M4 => ?_)
  exact G_ireturn g (pc := 12) hret (Nat.le_of_ble_eq_true rfl) (Nat.le_of_ble_eq_true rfl) d_S_gustAt_12

theorem d_S_countBetween_0 : decode b_S_countBetween 0 = .ok (.iconst 0, 1) := by decide +kernel
theorem d_S_countBetween_1 : decode b_S_countBetween 1 = .ok (.istore_n 3, 1) := by decide +kernel
theorem d_S_countBetween_2 : decode b_S_countBetween 2 = .ok (.iconst 0, 1) := by decide +kernel
theorem d_S_countBetween_3 : decode b_S_countBetween 3 = .ok (.istore 4, 2) := by decide +kernel
theorem d_S_countBetween_5 : decode b_S_countBetween 5 = .ok (.iload 4, 2) := by decide +kernel
theorem d_S_countBetween_7 : decode b_S_countBetween 7 = .ok (.aload_n 0, 1) := by decide +kernel
theorem d_S_countBetween_8 : decode b_S_countBetween 8 = .ok (.getfield 13, 3) := by decide +kernel
theorem d_S_countBetween_11 : decode b_S_countBetween 11 = .ok (.if_icmp .ge 26, 3) := by decide +kernel
theorem d_S_countBetween_14 : decode b_S_countBetween 14 = .ok (.aload_n 0, 1) := by decide +kernel
theorem d_S_countBetween_15 : decode b_S_countBetween 15 = .ok (.iload 4, 2) := by decide +kernel
theorem d_S_countBetween_17 : decode b_S_countBetween 17 = .ok (.invokevirtual 59, 3) := by decide +kernel
theorem d_S_countBetween_20 : decode b_S_countBetween 20 = .ok (.iload_n 1, 1) := by decide +kernel
theorem d_S_countBetween_21 : decode b_S_countBetween 21 = .ok (.iload_n 2, 1) := by decide +kernel
theorem d_S_countBetween_22 : decode b_S_countBetween 22 = .ok (.invokestatic 62, 3) := by decide +kernel
theorem d_S_countBetween_25 : decode b_S_countBetween 25 = .ok (.ifCond .ne 6, 3) := by decide +kernel
theorem d_S_countBetween_28 : decode b_S_countBetween 28 = .ok (.iinc 3 1, 3) := by decide +kernel
theorem d_S_countBetween_31 : decode b_S_countBetween 31 = .ok (.iinc 4 1, 3) := by decide +kernel
theorem d_S_countBetween_34 : decode b_S_countBetween 34 = .ok (.goto (-29), 3) := by decide +kernel
theorem d_S_countBetween_37 : decode b_S_countBetween 37 = .ok (.iload_n 3, 1) := by decide +kernel
theorem d_S_countBetween_38 : decode b_S_countBetween 38 = .ok (.ireturn, 1) := by decide +kernel
theorem cc_S_59 : CV "KiteLogger$Samples" 59 y_S_heightAt b_S_heightAt 2 (some .int) 1 := ⟨TT_in (i := 624) (by decide +kernel) (by decide +kernel), TT_in (i := 625) (by decide +kernel) (by decide +kernel), TT_in (i := 626) (by decide +kernel) (by decide +kernel), TT_in (i := 97) (by decide +kernel) (by decide +kernel), TT_in (i := 627) (by decide +kernel) (by decide +kernel), ⟨by decide +kernel, by decide +kernel, by decide +kernel⟩⟩
theorem cc_S_62 : CSN "KiteLogger$Samples" 62 "KiteLogger" y_G_isOutside b_G_isOutside 3 (some .boolean) 3 := ⟨NW_in (i := 633) (by decide +kernel) (by decide +kernel), TT_in (i := 634) (by decide +kernel) (by decide +kernel), TT_in (i := 88) (by decide +kernel) (by decide +kernel), TT_in (i := 635) (by decide +kernel) (by decide +kernel), ⟨by decide +kernel, by decide +kernel, by decide +kernel⟩⟩
def lp_S_countBetween_5 (N0 rr : Nat) (p : Nat) (a1 : Int32) (a2 : Int32)  : Nat → Int32 × Int32 → Mem → (Int32 × Int32 → Mem → Option (Int32 × Mem)) → Option (Int32 × Mem)
  | 0, _, _, _ => none
  | N + 1, a, M, k => if a.2 < (M p 5) then (bnd (f_S_heightAt p a.2 M) fun (x1 : Int32) (M2 : Mem) => bnd (f_G_isOutside x1 a1 a2 M2) fun (x3 : Bool) (M4 : Mem) => if x3 = true then (nm (a.2 + (1 : Int32)) fun (x5 : Int32) => lp_S_countBetween_5 N0 rr p a1 a2 N (a.1, x5) M4 k) else (nm (a.1 + (1 : Int32)) fun (x6 : Int32) => nm (a.2 + (1 : Int32)) fun (x7 : Int32) => lp_S_countBetween_5 N0 rr p a1 a2 N (x6, x7) M4 k)) else (k (a.1, a.2) M)
def f_S_countBetween (N : Nat) (rr : Nat) (p : Nat) (a1 : Int32) (a2 : Int32) (M : Mem) : Option (Int32 × Mem) :=
  lp_S_countBetween_5 N rr p a1 a2 N ((0 : Int32), (0 : Int32)) M (fun (a9 : Int32 × Int32) (M8 : Mem) => some (a9.1, M8))
set_option maxHeartbeats 4000000 in
set_option maxRecDepth 100000 in
theorem c_S_countBetween (l : Launch) (N : Nat) {w : Wc} {rr : Nat} (hw : WK w rr) (p : Nat) (hp : p ∈ saL) (a1 : Int32) (a2 : Int32) (M : Mem) : Ct QI l y_S_countBetween b_S_countBetween 5 (some .int) (rmL 2) w [.ref (wad w p), .int a1, .int a2] M (f_S_countBetween N rr p a1 a2 M) := by
  refine Ct.go (by decide) (L := [(0, .ref (wad w p)), (1, .int a1), (2, .int a2)]) rfl (Nat.le_of_ble_eq_true rfl) (fun p0 e s m args below meth c g hret => ?_)
  unfold f_S_countBetween
  refine G_iconst g (pc := 0) (0 : Int32) d_S_countBetween_0 rfl ?_
  refine G_istore_n g (pc := 1) _ d_S_countBetween_1 rfl (Nat.le_of_ble_eq_true rfl) rfl ?_
  refine G_iconst g (pc := 2) (0 : Int32) d_S_countBetween_2 rfl ?_
  refine G_istore g (pc := 3) _ d_S_countBetween_3 (Nat.le_of_ble_eq_true rfl) rfl ?_
  refine G_sub [2, 3, 4, 1, 0] _ rfl ?_
  refine G_loop (F := lp_S_countBetween_5 N rr p a1 a2) 5 37 (fun (a : Int32 × Int32) => [(0, .ref (wad w p)), (1, .int a1), (2, .int a2), (3, .int a.1), (4, .int a.2)]) (fun (a : Int32 × Int32) => [(0, .ref (wad w p)), (1, .int a1), (2, .int a2), (3, .int a.1), (4, .int a.2)]) (fun _ _ _ => rfl) (fun a9 M8 => ?_) (fun k hk Nl ih a M => ?_) N ((0 : Int32), (0 : Int32)) M
  · refine G_iload_n g (pc := 37) 3 d_S_countBetween_37 rfl rfl ?_
    exact G_ireturn g (pc := 38) hret (Nat.le_of_ble_eq_true rfl) (Nat.le_of_ble_eq_true rfl) d_S_countBetween_38
  · show Go p0 l e _ s m args below meth c w _ _ _ _ (lp_S_countBetween_5 N rr p a1 a2 (Nl + 1) a M k) 5 _ _ M
    unfold lp_S_countBetween_5
    refine G_iload g (pc := 5) 4 d_S_countBetween_5 rfl ?_
    refine G_aload_n g (pc := 7) 0 d_S_countBetween_7 rfl rfl ?_
    refine G_get g (pc := 8) fa_S_13 (hw.m _ (sa_lt0 hp)) (hw.k (sa_k0 hp)) d_S_countBetween_8 ?_
    refine G_icmp_ge g (pc := 11) 37 d_S_countBetween_11 (by decide) ?_ ?_
    · refine G_aload_n g (pc := 14) 0 d_S_countBetween_14 rfl rfl ?_
      refine G_iload g (pc := 15) 4 d_S_countBetween_15 rfl ?_
      refine G_cVI g (pc := 17) (As := [.int a.2]) (st := []) cc_S_59 (c_S_heightAt l hw p hp a.2 M) (hw.m _ (sa_lt0 hp)) (hw.k (sa_k0 hp)) rfl (by decide) rfl ⟨(Nat.le_of_ble_eq_true rfl), (Nat.le_of_ble_eq_true rfl)⟩ ⟨(Nat.le_of_ble_eq_true rfl), (Nat.le_of_ble_eq_true rfl)⟩ (Nat.le_of_ble_eq_true rfl) d_S_countBetween_17 (fun x1 M2 => ?_)
      refine G_iload_n g (pc := 20) 1 d_S_countBetween_20 rfl rfl ?_
      refine G_iload_n g (pc := 21) 2 d_S_countBetween_21 rfl rfl ?_
      refine G_cSNZ g (pc := 22) (As := [.int x1, .int a1, .int a2]) (st := []) cc_S_62 (c_G_isOutside l hw x1 a1 a2 M2) rfl ⟨(Nat.le_of_ble_eq_true rfl), (Nat.le_of_ble_eq_true rfl)⟩ ⟨(Nat.le_of_ble_eq_true rfl), (Nat.le_of_ble_eq_true rfl)⟩ (Nat.le_of_ble_eq_true rfl) d_S_countBetween_22 (fun x3 M4 => ?_)
      refine G_if_neB g (pc := 25) 31 d_S_countBetween_25 (by decide) ?_ ?_
      · refine G_nmX (a.2 + (1 : Int32)) (fun x5 e_x5 => ?_)
        refine G_iinc g (pc := 31) x5 _ 4 d_S_countBetween_31 rfl e_x5.symm (Nat.le_of_ble_eq_true rfl) rfl ?_
        refine G_goto g (pc := 34) 5 d_S_countBetween_34 (by decide) ?_
        refine G_sub [1, 2, 3, 4, 0] _ rfl ?_
        exact ih (a.1, x5) M4
      · refine G_nmX (a.1 + (1 : Int32)) (fun x6 e_x6 => ?_)
        refine G_iinc g (pc := 28) x6 _ 3 d_S_countBetween_28 rfl e_x6.symm (Nat.le_of_ble_eq_true rfl) rfl ?_
        refine G_nmX (a.2 + (1 : Int32)) (fun x7 e_x7 => ?_)
        refine G_iinc g (pc := 31) x7 _ 4 d_S_countBetween_31 rfl e_x7.symm (Nat.le_of_ble_eq_true rfl) rfl ?_
        refine G_goto g (pc := 34) 5 d_S_countBetween_34 (by decide) ?_
        refine G_sub [2, 3, 4, 1, 0] _ rfl ?_
        exact ih (x6, x7) M4
    · refine G_sub [0, 1, 2, 3, 4] _ rfl ?_
      exact hk (a.1, a.2) M

theorem d_S_gustsBetween_0 : decode b_S_gustsBetween 0 = .ok (.iconst 0, 1) := by decide +kernel
theorem d_S_gustsBetween_1 : decode b_S_gustsBetween 1 = .ok (.istore_n 3, 1) := by decide +kernel
theorem d_S_gustsBetween_2 : decode b_S_gustsBetween 2 = .ok (.iconst 0, 1) := by decide +kernel
theorem d_S_gustsBetween_3 : decode b_S_gustsBetween 3 = .ok (.istore 4, 2) := by decide +kernel
theorem d_S_gustsBetween_5 : decode b_S_gustsBetween 5 = .ok (.iload 4, 2) := by decide +kernel
theorem d_S_gustsBetween_7 : decode b_S_gustsBetween 7 = .ok (.aload_n 0, 1) := by decide +kernel
theorem d_S_gustsBetween_8 : decode b_S_gustsBetween 8 = .ok (.getfield 13, 3) := by decide +kernel
theorem d_S_gustsBetween_11 : decode b_S_gustsBetween 11 = .ok (.if_icmp .ge 32, 3) := by decide +kernel
theorem d_S_gustsBetween_14 : decode b_S_gustsBetween 14 = .ok (.aload_n 0, 1) := by decide +kernel
theorem d_S_gustsBetween_15 : decode b_S_gustsBetween 15 = .ok (.iload 4, 2) := by decide +kernel
theorem d_S_gustsBetween_17 : decode b_S_gustsBetween 17 = .ok (.invokevirtual 59, 3) := by decide +kernel
theorem d_S_gustsBetween_20 : decode b_S_gustsBetween 20 = .ok (.iload_n 1, 1) := by decide +kernel
theorem d_S_gustsBetween_21 : decode b_S_gustsBetween 21 = .ok (.iload_n 2, 1) := by decide +kernel
theorem d_S_gustsBetween_22 : decode b_S_gustsBetween 22 = .ok (.invokestatic 62, 3) := by decide +kernel
theorem d_S_gustsBetween_25 : decode b_S_gustsBetween 25 = .ok (.ifCond .ne 12, 3) := by decide +kernel
theorem d_S_gustsBetween_28 : decode b_S_gustsBetween 28 = .ok (.iload_n 3, 1) := by decide +kernel
theorem d_S_gustsBetween_29 : decode b_S_gustsBetween 29 = .ok (.aload_n 0, 1) := by decide +kernel
theorem d_S_gustsBetween_30 : decode b_S_gustsBetween 30 = .ok (.iload 4, 2) := by decide +kernel
theorem d_S_gustsBetween_32 : decode b_S_gustsBetween 32 = .ok (.invokevirtual 66, 3) := by decide +kernel
theorem d_S_gustsBetween_35 : decode b_S_gustsBetween 35 = .ok (.iadd, 1) := by decide +kernel
theorem d_S_gustsBetween_36 : decode b_S_gustsBetween 36 = .ok (.istore_n 3, 1) := by decide +kernel
theorem d_S_gustsBetween_37 : decode b_S_gustsBetween 37 = .ok (.iinc 4 1, 3) := by decide +kernel
theorem d_S_gustsBetween_40 : decode b_S_gustsBetween 40 = .ok (.goto (-35), 3) := by decide +kernel
theorem d_S_gustsBetween_43 : decode b_S_gustsBetween 43 = .ok (.iload_n 3, 1) := by decide +kernel
theorem d_S_gustsBetween_44 : decode b_S_gustsBetween 44 = .ok (.ireturn, 1) := by decide +kernel
theorem cc_S_66 : CV "KiteLogger$Samples" 66 y_S_gustAt b_S_gustAt 2 (some .int) 1 := ⟨TT_in (i := 1081) (by decide +kernel) (by decide +kernel), TT_in (i := 748) (by decide +kernel) (by decide +kernel), TT_in (i := 749) (by decide +kernel) (by decide +kernel), TT_in (i := 97) (by decide +kernel) (by decide +kernel), TT_in (i := 750) (by decide +kernel) (by decide +kernel), ⟨by decide +kernel, by decide +kernel, by decide +kernel⟩⟩
def lp_S_gustsBetween_5 (N0 rr : Nat) (p : Nat) (a1 : Int32) (a2 : Int32)  : Nat → Int32 × Int32 → Mem → (Int32 × Int32 → Mem → Option (Int32 × Mem)) → Option (Int32 × Mem)
  | 0, _, _, _ => none
  | N + 1, a, M, k => if a.2 < (M p 5) then (bnd (f_S_heightAt p a.2 M) fun (x1 : Int32) (M2 : Mem) => bnd (f_G_isOutside x1 a1 a2 M2) fun (x3 : Bool) (M4 : Mem) => if x3 = true then (nm (a.2 + (1 : Int32)) fun (x5 : Int32) => lp_S_gustsBetween_5 N0 rr p a1 a2 N (a.1, x5) M4 k) else (bnd (f_S_gustAt p a.2 M4) fun (x6 : Int32) (M7 : Mem) => nm (a.1 + x6) fun (x8 : Int32) => nm (a.2 + (1 : Int32)) fun (x9 : Int32) => lp_S_gustsBetween_5 N0 rr p a1 a2 N (x8, x9) M7 k)) else (k (a.1, a.2) M)
def f_S_gustsBetween (N : Nat) (rr : Nat) (p : Nat) (a1 : Int32) (a2 : Int32) (M : Mem) : Option (Int32 × Mem) :=
  lp_S_gustsBetween_5 N rr p a1 a2 N ((0 : Int32), (0 : Int32)) M (fun (a11 : Int32 × Int32) (M10 : Mem) => some (a11.1, M10))
set_option maxHeartbeats 4000000 in
set_option maxRecDepth 100000 in
theorem c_S_gustsBetween (l : Launch) (N : Nat) {w : Wc} {rr : Nat} (hw : WK w rr) (p : Nat) (hp : p ∈ saL) (a1 : Int32) (a2 : Int32) (M : Mem) : Ct QI l y_S_gustsBetween b_S_gustsBetween 5 (some .int) (rmL 2) w [.ref (wad w p), .int a1, .int a2] M (f_S_gustsBetween N rr p a1 a2 M) := by
  refine Ct.go (by decide) (L := [(0, .ref (wad w p)), (1, .int a1), (2, .int a2)]) rfl (Nat.le_of_ble_eq_true rfl) (fun p0 e s m args below meth c g hret => ?_)
  unfold f_S_gustsBetween
  refine G_iconst g (pc := 0) (0 : Int32) d_S_gustsBetween_0 rfl ?_
  refine G_istore_n g (pc := 1) _ d_S_gustsBetween_1 rfl (Nat.le_of_ble_eq_true rfl) rfl ?_
  refine G_iconst g (pc := 2) (0 : Int32) d_S_gustsBetween_2 rfl ?_
  refine G_istore g (pc := 3) _ d_S_gustsBetween_3 (Nat.le_of_ble_eq_true rfl) rfl ?_
  refine G_sub [2, 3, 4, 1, 0] _ rfl ?_
  refine G_loop (F := lp_S_gustsBetween_5 N rr p a1 a2) 5 43 (fun (a : Int32 × Int32) => [(0, .ref (wad w p)), (1, .int a1), (2, .int a2), (3, .int a.1), (4, .int a.2)]) (fun (a : Int32 × Int32) => [(0, .ref (wad w p)), (1, .int a1), (2, .int a2), (3, .int a.1), (4, .int a.2)]) (fun _ _ _ => rfl) (fun a11 M10 => ?_) (fun k hk Nl ih a M => ?_) N ((0 : Int32), (0 : Int32)) M
  · refine G_iload_n g (pc := 43) 3 d_S_gustsBetween_43 rfl rfl ?_
    exact G_ireturn g (pc := 44) hret (Nat.le_of_ble_eq_true rfl) (Nat.le_of_ble_eq_true rfl) d_S_gustsBetween_44
  · show Go p0 l e _ s m args below meth c w _ _ _ _ (lp_S_gustsBetween_5 N rr p a1 a2 (Nl + 1) a M k) 5 _ _ M
    unfold lp_S_gustsBetween_5
    refine G_iload g (pc := 5) 4 d_S_gustsBetween_5 rfl ?_
    refine G_aload_n g (pc := 7) 0 d_S_gustsBetween_7 rfl rfl ?_
    refine G_get g (pc := 8) fa_S_13 (hw.m _ (sa_lt0 hp)) (hw.k (sa_k0 hp)) d_S_gustsBetween_8 ?_
    refine G_icmp_ge g (pc := 11) 43 d_S_gustsBetween_11 (by decide) ?_ ?_
    · refine G_aload_n g (pc := 14) 0 d_S_gustsBetween_14 rfl rfl ?_
      refine G_iload g (pc := 15) 4 d_S_gustsBetween_15 rfl ?_
      refine G_cVI g (pc := 17) (As := [.int a.2]) (st := []) cc_S_59 (c_S_heightAt l hw p hp a.2 M) (hw.m _ (sa_lt0 hp)) (hw.k (sa_k0 hp)) rfl (by decide) rfl ⟨(Nat.le_of_ble_eq_true rfl), (Nat.le_of_ble_eq_true rfl)⟩ ⟨(Nat.le_of_ble_eq_true rfl), (Nat.le_of_ble_eq_true rfl)⟩ (Nat.le_of_ble_eq_true rfl) d_S_gustsBetween_17 (fun x1 M2 => ?_)
      refine G_iload_n g (pc := 20) 1 d_S_gustsBetween_20 rfl rfl ?_
      refine G_iload_n g (pc := 21) 2 d_S_gustsBetween_21 rfl rfl ?_
      refine G_cSNZ g (pc := 22) (As := [.int x1, .int a1, .int a2]) (st := []) cc_S_62 (c_G_isOutside l hw x1 a1 a2 M2) rfl ⟨(Nat.le_of_ble_eq_true rfl), (Nat.le_of_ble_eq_true rfl)⟩ ⟨(Nat.le_of_ble_eq_true rfl), (Nat.le_of_ble_eq_true rfl)⟩ (Nat.le_of_ble_eq_true rfl) d_S_gustsBetween_22 (fun x3 M4 => ?_)
      refine G_if_neB g (pc := 25) 37 d_S_gustsBetween_25 (by decide) ?_ ?_
      · refine G_nmX (a.2 + (1 : Int32)) (fun x5 e_x5 => ?_)
        refine G_iinc g (pc := 37) x5 _ 4 d_S_gustsBetween_37 rfl e_x5.symm (Nat.le_of_ble_eq_true rfl) rfl ?_
        refine G_goto g (pc := 40) 5 d_S_gustsBetween_40 (by decide) ?_
        refine G_sub [1, 2, 3, 4, 0] _ rfl ?_
        exact ih (a.1, x5) M4
      · refine G_iload_n g (pc := 28) 3 d_S_gustsBetween_28 rfl rfl ?_
        refine G_aload_n g (pc := 29) 0 d_S_gustsBetween_29 rfl rfl ?_
        refine G_iload g (pc := 30) 4 d_S_gustsBetween_30 rfl ?_
        refine G_cVI g (pc := 32) (As := [.int a.2]) (st := [.int a.1]) cc_S_66 (c_S_gustAt l hw p hp a.2 M4) (hw.m _ (sa_lt0 hp)) (hw.k (sa_k0 hp)) rfl (by decide) rfl ⟨(Nat.le_of_ble_eq_true rfl), (Nat.le_of_ble_eq_true rfl)⟩ ⟨(Nat.le_of_ble_eq_true rfl), (Nat.le_of_ble_eq_true rfl)⟩ (Nat.le_of_ble_eq_true rfl) d_S_gustsBetween_32 (fun x6 M7 => ?_)
        refine G_iadd g (pc := 35) d_S_gustsBetween_35 ?_
        refine G_nmI (fun x8 => ?_)
        refine G_istore_n g (pc := 36) _ d_S_gustsBetween_36 rfl (Nat.le_of_ble_eq_true rfl) rfl ?_
        refine G_nmX (a.2 + (1 : Int32)) (fun x9 e_x9 => ?_)
        refine G_iinc g (pc := 37) x9 _ 4 d_S_gustsBetween_37 rfl e_x9.symm (Nat.le_of_ble_eq_true rfl) rfl ?_
        refine G_goto g (pc := 40) 5 d_S_gustsBetween_40 (by decide) ?_
        refine G_sub [2, 3, 4, 1, 0] _ rfl ?_
        exact ih (x8, x9) M7
    · refine G_sub [0, 1, 2, 3, 4] _ rfl ?_
      exact hk (a.1, a.2) M

theorem d_S_highest_0 : decode b_S_highest 0 = .ok (.iconst (-1), 1) := by decide +kernel
theorem d_S_highest_1 : decode b_S_highest 1 = .ok (.istore_n 1, 1) := by decide +kernel
theorem d_S_highest_2 : decode b_S_highest 2 = .ok (.iconst 0, 1) := by decide +kernel
theorem d_S_highest_3 : decode b_S_highest 3 = .ok (.istore_n 2, 1) := by decide +kernel
theorem d_S_highest_4 : decode b_S_highest 4 = .ok (.iload_n 2, 1) := by decide +kernel
theorem d_S_highest_5 : decode b_S_highest 5 = .ok (.aload_n 0, 1) := by decide +kernel
theorem d_S_highest_6 : decode b_S_highest 6 = .ok (.getfield 13, 3) := by decide +kernel
theorem d_S_highest_9 : decode b_S_highest 9 = .ok (.if_icmp .ge 28, 3) := by decide +kernel
theorem d_S_highest_12 : decode b_S_highest 12 = .ok (.iload_n 1, 1) := by decide +kernel
theorem d_S_highest_13 : decode b_S_highest 13 = .ok (.ifCond .lt 16, 3) := by decide +kernel
theorem d_S_highest_16 : decode b_S_highest 16 = .ok (.aload_n 0, 1) := by decide +kernel
theorem d_S_highest_17 : decode b_S_highest 17 = .ok (.iload_n 2, 1) := by decide +kernel
theorem d_S_highest_18 : decode b_S_highest 18 = .ok (.invokevirtual 59, 3) := by decide +kernel
theorem d_S_highest_21 : decode b_S_highest 21 = .ok (.aload_n 0, 1) := by decide +kernel
theorem d_S_highest_22 : decode b_S_highest 22 = .ok (.iload_n 1, 1) := by decide +kernel
theorem d_S_highest_23 : decode b_S_highest 23 = .ok (.invokevirtual 59, 3) := by decide +kernel
theorem d_S_highest_26 : decode b_S_highest 26 = .ok (.if_icmp .le 5, 3) := by decide +kernel
theorem d_S_highest_29 : decode b_S_highest 29 = .ok (.iload_n 2, 1) := by decide +kernel
theorem d_S_highest_30 : decode b_S_highest 30 = .ok (.istore_n 1, 1) := by decide +kernel
theorem d_S_highest_31 : decode b_S_highest 31 = .ok (.iinc 2 1, 3) := by decide +kernel
theorem d_S_highest_34 : decode b_S_highest 34 = .ok (.goto (-30), 3) := by decide +kernel
theorem d_S_highest_37 : decode b_S_highest 37 = .ok (.iload_n 1, 1) := by decide +kernel
theorem d_S_highest_38 : decode b_S_highest 38 = .ok (.ireturn, 1) := by decide +kernel
def lp_S_highest_4 (N0 rr : Nat) (p : Nat)  : Nat → Int32 × Int32 → Mem → (Int32 × Int32 → Mem → Option (Int32 × Mem)) → Option (Int32 × Mem)
  | 0, _, _, _ => none
  | N + 1, a, M, k => if a.2 < (M p 5) then (if a.1 < 0 then (nm (a.2 + (1 : Int32)) fun (x1 : Int32) => lp_S_highest_4 N0 rr p N (a.2, x1) M k) else (bnd (f_S_heightAt p a.2 M) fun (x2 : Int32) (M3 : Mem) => bnd (f_S_heightAt p a.1 M3) fun (x4 : Int32) (M5 : Mem) => if x4 < x2 then (nm (a.2 + (1 : Int32)) fun (x6 : Int32) => lp_S_highest_4 N0 rr p N (a.2, x6) M5 k) else (nm (a.2 + (1 : Int32)) fun (x7 : Int32) => lp_S_highest_4 N0 rr p N (a.1, x7) M5 k))) else (k (a.1, a.2) M)
def f_S_highest (N : Nat) (rr : Nat) (p : Nat) (M : Mem) : Option (Int32 × Mem) :=
  lp_S_highest_4 N rr p N ((-1 : Int32), (0 : Int32)) M (fun (a9 : Int32 × Int32) (M8 : Mem) => some (a9.1, M8))
set_option maxHeartbeats 4000000 in
set_option maxRecDepth 100000 in
theorem c_S_highest (l : Launch) (N : Nat) {w : Wc} {rr : Nat} (hw : WK w rr) (p : Nat) (hp : p ∈ saL) (M : Mem) : Ct QI l y_S_highest b_S_highest 3 (some .int) (rmL 2) w [.ref (wad w p)] M (f_S_highest N rr p M) := by
  refine Ct.go (by decide) (L := [(0, .ref (wad w p))]) rfl (Nat.le_of_ble_eq_true rfl) (fun p0 e s m args below meth c g hret => ?_)
  unfold f_S_highest
  refine G_iconst g (pc := 0) (-1 : Int32) d_S_highest_0 rfl ?_
  refine G_istore_n g (pc := 1) _ d_S_highest_1 rfl (Nat.le_of_ble_eq_true rfl) rfl ?_
  refine G_iconst g (pc := 2) (0 : Int32) d_S_highest_2 rfl ?_
  refine G_istore_n g (pc := 3) _ d_S_highest_3 rfl (Nat.le_of_ble_eq_true rfl) rfl ?_
  refine G_sub [2, 1, 0] _ rfl ?_
  refine G_loop (F := lp_S_highest_4 N rr p) 4 37 (fun (a : Int32 × Int32) => [(0, .ref (wad w p)), (1, .int a.1), (2, .int a.2)]) (fun (a : Int32 × Int32) => [(0, .ref (wad w p)), (1, .int a.1), (2, .int a.2)]) (fun _ _ _ => rfl) (fun a9 M8 => ?_) (fun k hk Nl ih a M => ?_) N ((-1 : Int32), (0 : Int32)) M
  · refine G_iload_n g (pc := 37) 1 d_S_highest_37 rfl rfl ?_
    exact G_ireturn g (pc := 38) hret (Nat.le_of_ble_eq_true rfl) (Nat.le_of_ble_eq_true rfl) d_S_highest_38
  · show Go p0 l e _ s m args below meth c w _ _ _ _ (lp_S_highest_4 N rr p (Nl + 1) a M k) 4 _ _ M
    unfold lp_S_highest_4
    refine G_iload_n g (pc := 4) 2 d_S_highest_4 rfl rfl ?_
    refine G_aload_n g (pc := 5) 0 d_S_highest_5 rfl rfl ?_
    refine G_get g (pc := 6) fa_S_13 (hw.m _ (sa_lt0 hp)) (hw.k (sa_k0 hp)) d_S_highest_6 ?_
    refine G_icmp_ge g (pc := 9) 37 d_S_highest_9 (by decide) ?_ ?_
    · refine G_iload_n g (pc := 12) 1 d_S_highest_12 rfl rfl ?_
      refine G_if_lt g (pc := 13) 29 d_S_highest_13 (by decide) ?_ ?_
      · refine G_iload_n g (pc := 29) 2 d_S_highest_29 rfl rfl ?_
        refine G_istore_n g (pc := 30) _ d_S_highest_30 rfl (Nat.le_of_ble_eq_true rfl) rfl ?_
        refine G_nmX (a.2 + (1 : Int32)) (fun x1 e_x1 => ?_)
        refine G_iinc g (pc := 31) x1 _ 2 d_S_highest_31 rfl e_x1.symm (Nat.le_of_ble_eq_true rfl) rfl ?_
        refine G_goto g (pc := 34) 4 d_S_highest_34 (by decide) ?_
        refine G_sub [2, 1, 0] _ rfl ?_
        exact ih (a.2, x1) M
      · refine G_aload_n g (pc := 16) 0 d_S_highest_16 rfl rfl ?_
        refine G_iload_n g (pc := 17) 2 d_S_highest_17 rfl rfl ?_
        refine G_cVI g (pc := 18) (As := [.int a.2]) (st := []) cc_S_59 (c_S_heightAt l hw p hp a.2 M) (hw.m _ (sa_lt0 hp)) (hw.k (sa_k0 hp)) rfl (by decide) rfl ⟨(Nat.le_of_ble_eq_true rfl), (Nat.le_of_ble_eq_true rfl)⟩ ⟨(Nat.le_of_ble_eq_true rfl), (Nat.le_of_ble_eq_true rfl)⟩ (Nat.le_of_ble_eq_true rfl) d_S_highest_18 (fun x2 M3 => ?_)
        refine G_aload_n g (pc := 21) 0 d_S_highest_21 rfl rfl ?_
        refine G_iload_n g (pc := 22) 1 d_S_highest_22 rfl rfl ?_
        refine G_cVI g (pc := 23) (As := [.int a.1]) (st := [.int x2]) cc_S_59 (c_S_heightAt l hw p hp a.1 M3) (hw.m _ (sa_lt0 hp)) (hw.k (sa_k0 hp)) rfl (by decide) rfl ⟨(Nat.le_of_ble_eq_true rfl), (Nat.le_of_ble_eq_true rfl)⟩ ⟨(Nat.le_of_ble_eq_true rfl), (Nat.le_of_ble_eq_true rfl)⟩ (Nat.le_of_ble_eq_true rfl) d_S_highest_23 (fun x4 M5 => ?_)
        refine G_icmp_le g (pc := 26) 31 d_S_highest_26 (by decide) ?_ ?_
        · refine G_iload_n g (pc := 29) 2 d_S_highest_29 rfl rfl ?_
          refine G_istore_n g (pc := 30) _ d_S_highest_30 rfl (Nat.le_of_ble_eq_true rfl) rfl ?_
          refine G_nmX (a.2 + (1 : Int32)) (fun x6 e_x6 => ?_)
          refine G_iinc g (pc := 31) x6 _ 2 d_S_highest_31 rfl e_x6.symm (Nat.le_of_ble_eq_true rfl) rfl ?_
          refine G_goto g (pc := 34) 4 d_S_highest_34 (by decide) ?_
          refine G_sub [2, 1, 0] _ rfl ?_
          exact ih (a.2, x6) M5
        · refine G_nmX (a.2 + (1 : Int32)) (fun x7 e_x7 => ?_)
          refine G_iinc g (pc := 31) x7 _ 2 d_S_highest_31 rfl e_x7.symm (Nat.le_of_ble_eq_true rfl) rfl ?_
          refine G_goto g (pc := 34) 4 d_S_highest_34 (by decide) ?_
          refine G_sub [1, 2, 0] _ rfl ?_
          exact ih (a.1, x7) M5
    · refine G_sub [0, 1, 2] _ rfl ?_
      exact hk (a.1, a.2) M

theorem d_S_lastUntil_0 : decode b_S_lastUntil 0 = .ok (.aload_n 0, 1) := by decide +kernel
theorem d_S_lastUntil_1 : decode b_S_lastUntil 1 = .ok (.getfield 13, 3) := by decide +kernel
theorem d_S_lastUntil_4 : decode b_S_lastUntil 4 = .ok (.iconst 1, 1) := by decide +kernel
theorem d_S_lastUntil_5 : decode b_S_lastUntil 5 = .ok (.isub, 1) := by decide +kernel
theorem d_S_lastUntil_6 : decode b_S_lastUntil 6 = .ok (.istore_n 2, 1) := by decide +kernel
theorem d_S_lastUntil_7 : decode b_S_lastUntil 7 = .ok (.iload_n 2, 1) := by decide +kernel
theorem d_S_lastUntil_8 : decode b_S_lastUntil 8 = .ok (.ifCond .lt 20, 3) := by decide +kernel
theorem d_S_lastUntil_11 : decode b_S_lastUntil 11 = .ok (.aload_n 0, 1) := by decide +kernel
theorem d_S_lastUntil_12 : decode b_S_lastUntil 12 = .ok (.iload_n 2, 1) := by decide +kernel
theorem d_S_lastUntil_13 : decode b_S_lastUntil 13 = .ok (.invokevirtual 69, 3) := by decide +kernel
theorem d_S_lastUntil_16 : decode b_S_lastUntil 16 = .ok (.iload_n 1, 1) := by decide +kernel
theorem d_S_lastUntil_17 : decode b_S_lastUntil 17 = .ok (.if_icmp .gt 5, 3) := by decide +kernel
theorem d_S_lastUntil_20 : decode b_S_lastUntil 20 = .ok (.iload_n 2, 1) := by decide +kernel
theorem d_S_lastUntil_21 : decode b_S_lastUntil 21 = .ok (.ireturn, 1) := by decide +kernel
theorem d_S_lastUntil_22 : decode b_S_lastUntil 22 = .ok (.iinc 2 (-1), 3) := by decide +kernel
theorem d_S_lastUntil_25 : decode b_S_lastUntil 25 = .ok (.goto (-18), 3) := by decide +kernel
theorem d_S_lastUntil_28 : decode b_S_lastUntil 28 = .ok (.iconst (-1), 1) := by decide +kernel
theorem d_S_lastUntil_29 : decode b_S_lastUntil 29 = .ok (.ireturn, 1) := by decide +kernel
theorem cc_S_69 : CV "KiteLogger$Samples" 69 y_S_tickAt b_S_tickAt 2 (some .int) 1 := ⟨TT_in (i := 652) (by decide +kernel) (by decide +kernel), TT_in (i := 653) (by decide +kernel) (by decide +kernel), TT_in (i := 654) (by decide +kernel) (by decide +kernel), TT_in (i := 97) (by decide +kernel) (by decide +kernel), TT_in (i := 655) (by decide +kernel) (by decide +kernel), ⟨by decide +kernel, by decide +kernel, by decide +kernel⟩⟩
def lp_S_lastUntil_7 (N0 rr : Nat) (p : Nat) (a1 : Int32)  : Nat → Int32 → Mem → (Int32 → Mem → Option (Int32 × Mem)) → Option (Int32 × Mem)
  | 0, _, _, _ => none
  | N + 1, a, M, k => if a < 0 then (k a M) else (bnd (f_S_tickAt p a M) fun (x2 : Int32) (M3 : Mem) => if x2 ≤ a1 then (some (a, M3)) else (nm (a + (-1 : Int32)) fun (x4 : Int32) => lp_S_lastUntil_7 N0 rr p a1 N x4 M3 k))
def f_S_lastUntil (N : Nat) (rr : Nat) (p : Nat) (a1 : Int32) (M : Mem) : Option (Int32 × Mem) :=
  nm ((M p 5) - (1 : Int32)) fun (x1 : Int32) => lp_S_lastUntil_7 N rr p a1 N x1 M (fun (a6 : Int32) (M5 : Mem) => some ((-1 : Int32), M5))
set_option maxHeartbeats 4000000 in
set_option maxRecDepth 100000 in
theorem c_S_lastUntil (l : Launch) (N : Nat) {w : Wc} {rr : Nat} (hw : WK w rr) (p : Nat) (hp : p ∈ saL) (a1 : Int32) (M : Mem) : Ct QI l y_S_lastUntil b_S_lastUntil 3 (some .int) (rmL 2) w [.ref (wad w p), .int a1] M (f_S_lastUntil N rr p a1 M) := by
  refine Ct.go (by decide) (L := [(0, .ref (wad w p)), (1, .int a1)]) rfl (Nat.le_of_ble_eq_true rfl) (fun p0 e s m args below meth c g hret => ?_)
  unfold f_S_lastUntil
  refine G_aload_n g (pc := 0) 0 d_S_lastUntil_0 rfl rfl ?_
  refine G_get g (pc := 1) fa_S_13 (hw.m _ (sa_lt0 hp)) (hw.k (sa_k0 hp)) d_S_lastUntil_1 ?_
  refine G_iconst g (pc := 4) (1 : Int32) d_S_lastUntil_4 rfl ?_
  refine G_isub g (pc := 5) d_S_lastUntil_5 ?_
  refine G_nmI (fun x1 => ?_)
  refine G_istore_n g (pc := 6) _ d_S_lastUntil_6 rfl (Nat.le_of_ble_eq_true rfl) rfl ?_
  refine G_sub [1, 2, 0] _ rfl ?_
  refine G_loop (F := lp_S_lastUntil_7 N rr p a1) 7 28 (fun (a : Int32) => [(0, .ref (wad w p)), (1, .int a1), (2, .int a)]) (fun (a : Int32) => [(0, .ref (wad w p)), (1, .int a1), (2, .int a)]) (fun _ _ _ => rfl) (fun a6 M5 => ?_) (fun k hk Nl ih a M => ?_) N x1 M
  · refine G_iconst g (pc := 28) (-1 : Int32) d_S_lastUntil_28 rfl ?_
    exact G_ireturn g (pc := 29) hret (Nat.le_of_ble_eq_true rfl) (Nat.le_of_ble_eq_true rfl) d_S_lastUntil_29
  · show Go p0 l e _ s m args below meth c w _ _ _ _ (lp_S_lastUntil_7 N rr p a1 (Nl + 1) a M k) 7 _ _ M
    unfold lp_S_lastUntil_7
    refine G_iload_n g (pc := 7) 2 d_S_lastUntil_7 rfl rfl ?_
    refine G_if_lt g (pc := 8) 28 d_S_lastUntil_8 (by decide) ?_ ?_
    · refine G_sub [0, 1, 2] _ rfl ?_
      exact hk a M
    · refine G_aload_n g (pc := 11) 0 d_S_lastUntil_11 rfl rfl ?_
      refine G_iload_n g (pc := 12) 2 d_S_lastUntil_12 rfl rfl ?_
      refine G_cVI g (pc := 13) (As := [.int a]) (st := []) cc_S_69 (c_S_tickAt l hw p hp a M) (hw.m _ (sa_lt0 hp)) (hw.k (sa_k0 hp)) rfl (by decide) rfl ⟨(Nat.le_of_ble_eq_true rfl), (Nat.le_of_ble_eq_true rfl)⟩ ⟨(Nat.le_of_ble_eq_true rfl), (Nat.le_of_ble_eq_true rfl)⟩ (Nat.le_of_ble_eq_true rfl) d_S_lastUntil_13 (fun x2 M3 => ?_)
      refine G_iload_n g (pc := 16) 1 d_S_lastUntil_16 rfl rfl ?_
      refine G_icmp_gt g (pc := 17) 22 d_S_lastUntil_17 (by decide) ?_ ?_
      · refine G_iload_n g (pc := 20) 2 d_S_lastUntil_20 rfl rfl ?_
        exact G_ireturn g (pc := 21) hret (Nat.le_of_ble_eq_true rfl) (Nat.le_of_ble_eq_true rfl) d_S_lastUntil_21
      · refine G_nmX (a + (-1 : Int32)) (fun x4 e_x4 => ?_)
        refine G_iinc g (pc := 22) x4 _ 2 d_S_lastUntil_22 rfl e_x4.symm (Nat.le_of_ble_eq_true rfl) rfl ?_
        refine G_goto g (pc := 25) 7 d_S_lastUntil_25 (by decide) ?_
        refine G_sub [1, 2, 0] _ rfl ?_
        exact ih x4 M3

theorem d_S_misplaced_0 : decode b_S_misplaced 0 = .ok (.iconst 0, 1) := by decide +kernel
theorem d_S_misplaced_1 : decode b_S_misplaced 1 = .ok (.istore_n 1, 1) := by decide +kernel
theorem d_S_misplaced_2 : decode b_S_misplaced 2 = .ok (.iconst 1, 1) := by decide +kernel
theorem d_S_misplaced_3 : decode b_S_misplaced 3 = .ok (.istore_n 2, 1) := by decide +kernel
theorem d_S_misplaced_4 : decode b_S_misplaced 4 = .ok (.iload_n 2, 1) := by decide +kernel
theorem d_S_misplaced_5 : decode b_S_misplaced 5 = .ok (.aload_n 0, 1) := by decide +kernel
theorem d_S_misplaced_6 : decode b_S_misplaced 6 = .ok (.getfield 13, 3) := by decide +kernel
theorem d_S_misplaced_9 : decode b_S_misplaced 9 = .ok (.if_icmp .ge 27, 3) := by decide +kernel
theorem d_S_misplaced_12 : decode b_S_misplaced 12 = .ok (.aload_n 0, 1) := by decide +kernel
theorem d_S_misplaced_13 : decode b_S_misplaced 13 = .ok (.iload_n 2, 1) := by decide +kernel
theorem d_S_misplaced_14 : decode b_S_misplaced 14 = .ok (.invokevirtual 69, 3) := by decide +kernel
theorem d_S_misplaced_17 : decode b_S_misplaced 17 = .ok (.aload_n 0, 1) := by decide +kernel
theorem d_S_misplaced_18 : decode b_S_misplaced 18 = .ok (.iload_n 2, 1) := by decide +kernel
theorem d_S_misplaced_19 : decode b_S_misplaced 19 = .ok (.iconst 1, 1) := by decide +kernel
theorem d_S_misplaced_20 : decode b_S_misplaced 20 = .ok (.isub, 1) := by decide +kernel
theorem d_S_misplaced_21 : decode b_S_misplaced 21 = .ok (.invokevirtual 69, 3) := by decide +kernel
theorem d_S_misplaced_24 : decode b_S_misplaced 24 = .ok (.if_icmp .gt 6, 3) := by decide +kernel
theorem d_S_misplaced_27 : decode b_S_misplaced 27 = .ok (.iinc 1 1, 3) := by decide +kernel
theorem d_S_misplaced_30 : decode b_S_misplaced 30 = .ok (.iinc 2 1, 3) := by decide +kernel
theorem d_S_misplaced_33 : decode b_S_misplaced 33 = .ok (.goto (-29), 3) := by decide +kernel
theorem d_S_misplaced_36 : decode b_S_misplaced 36 = .ok (.iload_n 1, 1) := by decide +kernel
theorem d_S_misplaced_37 : decode b_S_misplaced 37 = .ok (.ireturn, 1) := by decide +kernel
def lp_S_misplaced_4 (N0 rr : Nat) (p : Nat)  : Nat → Int32 × Int32 → Mem → (Int32 × Int32 → Mem → Option (Int32 × Mem)) → Option (Int32 × Mem)
  | 0, _, _, _ => none
  | N + 1, a, M, k => if a.2 < (M p 5) then (bnd (f_S_tickAt p a.2 M) fun (x1 : Int32) (M2 : Mem) => bnd (f_S_tickAt p (a.2 - (1 : Int32)) M2) fun (x3 : Int32) (M4 : Mem) => if x1 ≤ x3 then (nm (a.1 + (1 : Int32)) fun (x5 : Int32) => nm (a.2 + (1 : Int32)) fun (x6 : Int32) => lp_S_misplaced_4 N0 rr p N (x5, x6) M4 k) else (nm (a.2 + (1 : Int32)) fun (x7 : Int32) => lp_S_misplaced_4 N0 rr p N (a.1, x7) M4 k)) else (k (a.1, a.2) M)
def f_S_misplaced (N : Nat) (rr : Nat) (p : Nat) (M : Mem) : Option (Int32 × Mem) :=
  lp_S_misplaced_4 N rr p N ((0 : Int32), (1 : Int32)) M (fun (a9 : Int32 × Int32) (M8 : Mem) => some (a9.1, M8))
set_option maxHeartbeats 4000000 in
set_option maxRecDepth 100000 in
theorem c_S_misplaced (l : Launch) (N : Nat) {w : Wc} {rr : Nat} (hw : WK w rr) (p : Nat) (hp : p ∈ saL) (M : Mem) : Ct QI l y_S_misplaced b_S_misplaced 3 (some .int) (rmL 2) w [.ref (wad w p)] M (f_S_misplaced N rr p M) := by
  refine Ct.go (by decide) (L := [(0, .ref (wad w p))]) rfl (Nat.le_of_ble_eq_true rfl) (fun p0 e s m args below meth c g hret => ?_)
  unfold f_S_misplaced
  refine G_iconst g (pc := 0) (0 : Int32) d_S_misplaced_0 rfl ?_
  refine G_istore_n g (pc := 1) _ d_S_misplaced_1 rfl (Nat.le_of_ble_eq_true rfl) rfl ?_
  refine G_iconst g (pc := 2) (1 : Int32) d_S_misplaced_2 rfl ?_
  refine G_istore_n g (pc := 3) _ d_S_misplaced_3 rfl (Nat.le_of_ble_eq_true rfl) rfl ?_
  refine G_sub [2, 1, 0] _ rfl ?_
  refine G_loop (F := lp_S_misplaced_4 N rr p) 4 36 (fun (a : Int32 × Int32) => [(0, .ref (wad w p)), (1, .int a.1), (2, .int a.2)]) (fun (a : Int32 × Int32) => [(0, .ref (wad w p)), (1, .int a.1), (2, .int a.2)]) (fun _ _ _ => rfl) (fun a9 M8 => ?_) (fun k hk Nl ih a M => ?_) N ((0 : Int32), (1 : Int32)) M
  · refine G_iload_n g (pc := 36) 1 d_S_misplaced_36 rfl rfl ?_
    exact G_ireturn g (pc := 37) hret (Nat.le_of_ble_eq_true rfl) (Nat.le_of_ble_eq_true rfl) d_S_misplaced_37
  · show Go p0 l e _ s m args below meth c w _ _ _ _ (lp_S_misplaced_4 N rr p (Nl + 1) a M k) 4 _ _ M
    unfold lp_S_misplaced_4
    refine G_iload_n g (pc := 4) 2 d_S_misplaced_4 rfl rfl ?_
    refine G_aload_n g (pc := 5) 0 d_S_misplaced_5 rfl rfl ?_
    refine G_get g (pc := 6) fa_S_13 (hw.m _ (sa_lt0 hp)) (hw.k (sa_k0 hp)) d_S_misplaced_6 ?_
    refine G_icmp_ge g (pc := 9) 36 d_S_misplaced_9 (by decide) ?_ ?_
    · refine G_aload_n g (pc := 12) 0 d_S_misplaced_12 rfl rfl ?_
      refine G_iload_n g (pc := 13) 2 d_S_misplaced_13 rfl rfl ?_
      refine G_cVI g (pc := 14) (As := [.int a.2]) (st := []) cc_S_69 (c_S_tickAt l hw p hp a.2 M) (hw.m _ (sa_lt0 hp)) (hw.k (sa_k0 hp)) rfl (by decide) rfl ⟨(Nat.le_of_ble_eq_true rfl), (Nat.le_of_ble_eq_true rfl)⟩ ⟨(Nat.le_of_ble_eq_true rfl), (Nat.le_of_ble_eq_true rfl)⟩ (Nat.le_of_ble_eq_true rfl) d_S_misplaced_14 (fun x1 M2 => ?_)
      refine G_aload_n g (pc := 17) 0 d_S_misplaced_17 rfl rfl ?_
      refine G_iload_n g (pc := 18) 2 d_S_misplaced_18 rfl rfl ?_
      refine G_iconst g (pc := 19) (1 : Int32) d_S_misplaced_19 rfl ?_
      refine G_isub g (pc := 20) d_S_misplaced_20 ?_
      refine G_cVI g (pc := 21) (As := [.int (a.2 - (1 : Int32))]) (st := [.int x1]) cc_S_69 (c_S_tickAt l hw p hp (a.2 - (1 : Int32)) M2) (hw.m _ (sa_lt0 hp)) (hw.k (sa_k0 hp)) rfl (by decide) rfl ⟨(Nat.le_of_ble_eq_true rfl), (Nat.le_of_ble_eq_true rfl)⟩ ⟨(Nat.le_of_ble_eq_true rfl), (Nat.le_of_ble_eq_true rfl)⟩ (Nat.le_of_ble_eq_true rfl) d_S_misplaced_21 (fun x3 M4 => ?_)
      refine G_icmp_gt g (pc := 24) 30 d_S_misplaced_24 (by decide) ?_ ?_
      · refine G_nmX (a.1 + (1 : Int32)) (fun x5 e_x5 => ?_)
        refine G_iinc g (pc := 27) x5 _ 1 d_S_misplaced_27 rfl e_x5.symm (Nat.le_of_ble_eq_true rfl) rfl ?_
        refine G_nmX (a.2 + (1 : Int32)) (fun x6 e_x6 => ?_)
        refine G_iinc g (pc := 30) x6 _ 2 d_S_misplaced_30 rfl e_x6.symm (Nat.le_of_ble_eq_true rfl) rfl ?_
        refine G_goto g (pc := 33) 4 d_S_misplaced_33 (by decide) ?_
        refine G_sub [2, 1, 0] _ rfl ?_
        exact ih (x5, x6) M4
      · refine G_nmX (a.2 + (1 : Int32)) (fun x7 e_x7 => ?_)
        refine G_iinc g (pc := 30) x7 _ 2 d_S_misplaced_30 rfl e_x7.symm (Nat.le_of_ble_eq_true rfl) rfl ?_
        refine G_goto g (pc := 33) 4 d_S_misplaced_33 (by decide) ?_
        refine G_sub [1, 2, 0] _ rfl ?_
        exact ih (a.1, x7) M4
    · refine G_sub [0, 1, 2] _ rfl ?_
      exact hk (a.1, a.2) M
end
section
theorem d_T_gustOf_0 : decode b_T_gustOf 0 = .ok (.aload_n 0, 1) := by decide +kernel
theorem d_T_gustOf_1 : decode b_T_gustOf 1 = .ok (.getfield 22, 3) := by decide +kernel
theorem d_T_gustOf_4 : decode b_T_gustOf 4 = .ok (.ifCond .le 19, 3) := by decide +kernel
theorem d_T_gustOf_7 : decode b_T_gustOf 7 = .ok (.aload_n 0, 1) := by decide +kernel
theorem d_T_gustOf_8 : decode b_T_gustOf 8 = .ok (.getfield 18, 3) := by decide +kernel
theorem d_T_gustOf_11 : decode b_T_gustOf 11 = .ok (.iload_n 1, 1) := by decide +kernel
theorem d_T_gustOf_12 : decode b_T_gustOf 12 = .ok (.aload_n 0, 1) := by decide +kernel
theorem d_T_gustOf_13 : decode b_T_gustOf 13 = .ok (.getfield 22, 3) := by decide +kernel
theorem d_T_gustOf_16 : decode b_T_gustOf 16 = .ok (.irem, 1) := by decide +kernel
theorem d_T_gustOf_17 : decode b_T_gustOf 17 = .ok (.invokestatic 91, 3) := by decide +kernel
theorem d_T_gustOf_20 : decode b_T_gustOf 20 = .ok (.goto 4, 3) := by decide +kernel
theorem d_T_gustOf_23 : decode b_T_gustOf 23 = .ok (.iconst 0, 1) := by decide +kernel
theorem d_T_gustOf_24 : decode b_T_gustOf 24 = .ok (.ireturn, 1) := by decide +kernel
theorem cc_T_91 : CSN "KiteLogger$Station" 91 "KiteLogger" y_G_valueAt b_G_valueAt 2 (some .int) 2 := ⟨NW_in (i := 683) (by decide +kernel) (by decide +kernel), TT_in (i := 521) (by decide +kernel) (by decide +kernel), TT_in (i := 88) (by decide +kernel) (by decide +kernel), TT_in (i := 522) (by decide +kernel) (by decide +kernel), ⟨by decide +kernel, by decide +kernel, by decide +kernel⟩⟩
def f_T_gustOf (p : Nat) (a1 : Int32) (M : Mem) : Option (Int32 × Mem) :=
  if 0 < (M p 2) then (grd (nzB (M p 2)) (bnd (f_G_valueAt (p + 2) (irm a1 (M p 2)) M) fun (x1 : Int32) (M2 : Mem) => some (x1, M2))) else (some ((0 : Int32), M))
set_option maxHeartbeats 4000000 in
set_option maxRecDepth 100000 in
theorem c_T_gustOf (l : Launch) {w : Wc} {rr : Nat} (hw : WK w rr) (p : Nat) (hp : p ∈ stL) (a1 : Int32) (M : Mem) : Ct QI l y_T_gustOf b_T_gustOf 2 (some .int) (rmL 1) w [.ref (wad w p), .int a1] M (f_T_gustOf p a1 M) := by
  refine Ct.go (by decide) (L := [(0, .ref (wad w p)), (1, .int a1)]) rfl (Nat.le_of_ble_eq_true rfl) (fun p0 e s m args below meth c g hret => ?_)
  unfold f_T_gustOf
  refine G_aload_n g (pc := 0) 0 d_T_gustOf_0 rfl rfl ?_
  refine G_get g (pc := 1) fa_T_22 (hw.m _ (st_lt0 hp)) (hw.k (st_k0 hp)) d_T_gustOf_1 ?_
  refine G_if_le g (pc := 4) 23 d_T_gustOf_4 (by decide) ?_ ?_
  · refine G_aload_n g (pc := 7) 0 d_T_gustOf_7 rfl rfl ?_
    refine G_getR g (pc := 8) fa_T_18 (hw.m _ (st_lt0 hp)) (hw.k (st_k0 hp)) (hw.r (st_r0_1 hp rr)) d_T_gustOf_8 ?_
    refine G_iload_n g (pc := 11) 1 d_T_gustOf_11 rfl rfl ?_
    refine G_aload_n g (pc := 12) 0 d_T_gustOf_12 rfl rfl ?_
    refine G_get g (pc := 13) fa_T_22 (hw.m _ (st_lt0 hp)) (hw.k (st_k0 hp)) d_T_gustOf_13 ?_
    refine G_irem g (pc := 16) d_T_gustOf_16 ?_
    refine G_cSNI g (pc := 17) (As := [.ref (wad w (p + 2)), .int (irm a1 (M p 2))]) (st := []) cc_T_91 (c_G_valueAt l hw (p + 2) (hw.m _ (st_lt2 hp)) (hw.k (st_k2 hp)) (irm a1 (M p 2)) M) rfl ⟨(Nat.le_of_ble_eq_true rfl), (Nat.le_of_ble_eq_true rfl)⟩ ⟨(Nat.le_of_ble_eq_true rfl), (Nat.le_of_ble_eq_true rfl)⟩ (Nat.le_of_ble_eq_true rfl) d_T_gustOf_17 (fun x1 M2 => ?_)
    refine G_goto g (pc := 20) 24 d_T_gustOf_20 (by decide) ?_
    exact G_ireturn g (pc := 24) hret (Nat.le_of_ble_eq_true rfl) (Nat.le_of_ble_eq_true rfl) d_T_gustOf_24
  · refine G_iconst g (pc := 23) (0 : Int32) d_T_gustOf_23 rfl ?_
    exact G_ireturn g (pc := 24) hret (Nat.le_of_ble_eq_true rfl) (Nat.le_of_ble_eq_true rfl) d_T_gustOf_24

theorem d_T_greatestGust_0 : decode b_T_greatestGust 0 = .ok (.iconst 0, 1) := by decide +kernel
theorem d_T_greatestGust_1 : decode b_T_greatestGust 1 = .ok (.istore_n 1, 1) := by decide +kernel
theorem d_T_greatestGust_2 : decode b_T_greatestGust 2 = .ok (.iconst 0, 1) := by decide +kernel
theorem d_T_greatestGust_3 : decode b_T_greatestGust 3 = .ok (.istore_n 2, 1) := by decide +kernel
theorem d_T_greatestGust_4 : decode b_T_greatestGust 4 = .ok (.iload_n 2, 1) := by decide +kernel
theorem d_T_greatestGust_5 : decode b_T_greatestGust 5 = .ok (.aload_n 0, 1) := by decide +kernel
theorem d_T_greatestGust_6 : decode b_T_greatestGust 6 = .ok (.getfield 22, 3) := by decide +kernel
theorem d_T_greatestGust_9 : decode b_T_greatestGust 9 = .ok (.if_icmp .ge 22, 3) := by decide +kernel
theorem d_T_greatestGust_12 : decode b_T_greatestGust 12 = .ok (.iload_n 1, 1) := by decide +kernel
theorem d_T_greatestGust_13 : decode b_T_greatestGust 13 = .ok (.aload_n 0, 1) := by decide +kernel
theorem d_T_greatestGust_14 : decode b_T_greatestGust 14 = .ok (.getfield 18, 3) := by decide +kernel
theorem d_T_greatestGust_17 : decode b_T_greatestGust 17 = .ok (.iload_n 2, 1) := by decide +kernel
theorem d_T_greatestGust_18 : decode b_T_greatestGust 18 = .ok (.invokestatic 91, 3) := by decide +kernel
theorem d_T_greatestGust_21 : decode b_T_greatestGust 21 = .ok (.invokestatic 95, 3) := by decide +kernel
theorem d_T_greatestGust_24 : decode b_T_greatestGust 24 = .ok (.istore_n 1, 1) := by decide +kernel
theorem d_T_greatestGust_25 : decode b_T_greatestGust 25 = .ok (.iinc 2 1, 3) := by decide +kernel
theorem d_T_greatestGust_28 : decode b_T_greatestGust 28 = .ok (.goto (-24), 3) := by decide +kernel
theorem d_T_greatestGust_31 : decode b_T_greatestGust 31 = .ok (.iload_n 1, 1) := by decide +kernel
theorem d_T_greatestGust_32 : decode b_T_greatestGust 32 = .ok (.ireturn, 1) := by decide +kernel
theorem ma_T_95 : Cond.methodLink "KiteLogger$Station" 95 Lib.Math.max.name ∈ TT ∧ Cond.static Lib.Math.max.name ∈ TT ∧ Cond.initialized "java/lang/Math" ∈ TT ∧ Cond.code Lib.Math.max.name Lib.Math.max.code 2 (some .int) ∈ TT := ⟨TT_in (i := 727) (by decide +kernel) (by decide +kernel), TT_in (i := 327) (by decide +kernel) (by decide +kernel), TT_in (i := 91) (by decide +kernel) (by decide +kernel), TT_in (i := 328) (by decide +kernel) (by decide +kernel)⟩
def lp_T_greatestGust_4 (N0 rr : Nat) (p : Nat)  : Nat → Int32 × Int32 → Mem → (Int32 × Int32 → Mem → Option (Int32 × Mem)) → Option (Int32 × Mem)
  | 0, _, _, _ => none
  | N + 1, a, M, k => if a.2 < (M p 2) then (bnd (f_G_valueAt (p + 2) a.2 M) fun (x1 : Int32) (M2 : Mem) => nm (imax a.1 x1) fun (x3 : Int32) => nm (a.2 + (1 : Int32)) fun (x4 : Int32) => lp_T_greatestGust_4 N0 rr p N (x3, x4) M2 k) else (k (a.1, a.2) M)
def f_T_greatestGust (N : Nat) (rr : Nat) (p : Nat) (M : Mem) : Option (Int32 × Mem) :=
  lp_T_greatestGust_4 N rr p N ((0 : Int32), (0 : Int32)) M (fun (a6 : Int32 × Int32) (M5 : Mem) => some (a6.1, M5))
set_option maxHeartbeats 4000000 in
set_option maxRecDepth 100000 in
theorem c_T_greatestGust (l : Launch) (N : Nat) {w : Wc} {rr : Nat} (hw : WK w rr) (p : Nat) (hp : p ∈ stL) (M : Mem) : Ct QI l y_T_greatestGust b_T_greatestGust 3 (some .int) (rmL 1) w [.ref (wad w p)] M (f_T_greatestGust N rr p M) := by
  refine Ct.go (by decide) (L := [(0, .ref (wad w p))]) rfl (Nat.le_of_ble_eq_true rfl) (fun p0 e s m args below meth c g hret => ?_)
  unfold f_T_greatestGust
  refine G_iconst g (pc := 0) (0 : Int32) d_T_greatestGust_0 rfl ?_
  refine G_istore_n g (pc := 1) _ d_T_greatestGust_1 rfl (Nat.le_of_ble_eq_true rfl) rfl ?_
  refine G_iconst g (pc := 2) (0 : Int32) d_T_greatestGust_2 rfl ?_
  refine G_istore_n g (pc := 3) _ d_T_greatestGust_3 rfl (Nat.le_of_ble_eq_true rfl) rfl ?_
  refine G_sub [2, 1, 0] _ rfl ?_
  refine G_loop (F := lp_T_greatestGust_4 N rr p) 4 31 (fun (a : Int32 × Int32) => [(0, .ref (wad w p)), (1, .int a.1), (2, .int a.2)]) (fun (a : Int32 × Int32) => [(0, .ref (wad w p)), (1, .int a.1), (2, .int a.2)]) (fun _ _ _ => rfl) (fun a6 M5 => ?_) (fun k hk Nl ih a M => ?_) N ((0 : Int32), (0 : Int32)) M
  · refine G_iload_n g (pc := 31) 1 d_T_greatestGust_31 rfl rfl ?_
    exact G_ireturn g (pc := 32) hret (Nat.le_of_ble_eq_true rfl) (Nat.le_of_ble_eq_true rfl) d_T_greatestGust_32
  · show Go p0 l e _ s m args below meth c w _ _ _ _ (lp_T_greatestGust_4 N rr p (Nl + 1) a M k) 4 _ _ M
    unfold lp_T_greatestGust_4
    refine G_iload_n g (pc := 4) 2 d_T_greatestGust_4 rfl rfl ?_
    refine G_aload_n g (pc := 5) 0 d_T_greatestGust_5 rfl rfl ?_
    refine G_get g (pc := 6) fa_T_22 (hw.m _ (st_lt0 hp)) (hw.k (st_k0 hp)) d_T_greatestGust_6 ?_
    refine G_icmp_ge g (pc := 9) 31 d_T_greatestGust_9 (by decide) ?_ ?_
    · refine G_iload_n g (pc := 12) 1 d_T_greatestGust_12 rfl rfl ?_
      refine G_aload_n g (pc := 13) 0 d_T_greatestGust_13 rfl rfl ?_
      refine G_getR g (pc := 14) fa_T_18 (hw.m _ (st_lt0 hp)) (hw.k (st_k0 hp)) (hw.r (st_r0_1 hp rr)) d_T_greatestGust_14 ?_
      refine G_iload_n g (pc := 17) 2 d_T_greatestGust_17 rfl rfl ?_
      refine G_cSNI g (pc := 18) (As := [.ref (wad w (p + 2)), .int a.2]) (st := [.int a.1]) cc_T_91 (c_G_valueAt l hw (p + 2) (hw.m _ (st_lt2 hp)) (hw.k (st_k2 hp)) a.2 M) rfl ⟨(Nat.le_of_ble_eq_true rfl), (Nat.le_of_ble_eq_true rfl)⟩ ⟨(Nat.le_of_ble_eq_true rfl), (Nat.le_of_ble_eq_true rfl)⟩ (Nat.le_of_ble_eq_true rfl) d_T_greatestGust_18 (fun x1 M2 => ?_)
      refine G_mmax g (pc := 21) ma_T_95 ⟨(Nat.le_of_ble_eq_true rfl), (Nat.le_of_ble_eq_true rfl), (Nat.le_of_ble_eq_true rfl), (Nat.le_of_ble_eq_true rfl)⟩ d_T_greatestGust_21 ?_
      refine G_nmI (fun x3 => ?_)
      refine G_istore_n g (pc := 24) _ d_T_greatestGust_24 rfl (Nat.le_of_ble_eq_true rfl) rfl ?_
      refine G_nmX (a.2 + (1 : Int32)) (fun x4 e_x4 => ?_)
      refine G_iinc g (pc := 25) x4 _ 2 d_T_greatestGust_25 rfl e_x4.symm (Nat.le_of_ble_eq_true rfl) rfl ?_
      refine G_goto g (pc := 28) 4 d_T_greatestGust_28 (by decide) ?_
      refine G_sub [2, 1, 0] _ rfl ?_
      exact ih (x3, x4) M2
    · refine G_sub [0, 1, 2] _ rfl ?_
      exact hk (a.1, a.2) M

theorem d_T_obstacle_0 : decode b_T_obstacle 0 = .ok (.aload_n 0, 1) := by decide +kernel
theorem d_T_obstacle_1 : decode b_T_obstacle 1 = .ok (.getfield 12, 3) := by decide +kernel
theorem d_T_obstacle_4 : decode b_T_obstacle 4 = .ok (.getfield 101, 3) := by decide +kernel
theorem d_T_obstacle_7 : decode b_T_obstacle 7 = .ok (.iconst 1, 1) := by decide +kernel
theorem d_T_obstacle_8 : decode b_T_obstacle 8 = .ok (.if_icmp .ne 5, 3) := by decide +kernel
theorem d_T_obstacle_11 : decode b_T_obstacle 11 = .ok (.iconst 1, 1) := by decide +kernel
theorem d_T_obstacle_12 : decode b_T_obstacle 12 = .ok (.ireturn, 1) := by decide +kernel
theorem d_T_obstacle_13 : decode b_T_obstacle 13 = .ok (.aload_n 0, 1) := by decide +kernel
theorem d_T_obstacle_14 : decode b_T_obstacle 14 = .ok (.getfield 12, 3) := by decide +kernel
theorem d_T_obstacle_17 : decode b_T_obstacle 17 = .ok (.getfield 101, 3) := by decide +kernel
theorem d_T_obstacle_20 : decode b_T_obstacle 20 = .ok (.iconst 2, 1) := by decide +kernel
theorem d_T_obstacle_21 : decode b_T_obstacle 21 = .ok (.if_icmp .ne 5, 3) := by decide +kernel
theorem d_T_obstacle_24 : decode b_T_obstacle 24 = .ok (.iconst 2, 1) := by decide +kernel
theorem d_T_obstacle_25 : decode b_T_obstacle 25 = .ok (.ireturn, 1) := by decide +kernel
theorem d_T_obstacle_26 : decode b_T_obstacle 26 = .ok (.aload_n 0, 1) := by decide +kernel
theorem d_T_obstacle_27 : decode b_T_obstacle 27 = .ok (.getfield 12, 3) := by decide +kernel
theorem d_T_obstacle_30 : decode b_T_obstacle 30 = .ok (.getfield 104, 3) := by decide +kernel
theorem d_T_obstacle_33 : decode b_T_obstacle 33 = .ok (.bipush 10, 2) := by decide +kernel
theorem d_T_obstacle_35 : decode b_T_obstacle 35 = .ok (.if_icmp .ge 5, 3) := by decide +kernel
theorem d_T_obstacle_38 : decode b_T_obstacle 38 = .ok (.iconst 3, 1) := by decide +kernel
theorem d_T_obstacle_39 : decode b_T_obstacle 39 = .ok (.ireturn, 1) := by decide +kernel
theorem d_T_obstacle_40 : decode b_T_obstacle 40 = .ok (.aload_n 0, 1) := by decide +kernel
theorem d_T_obstacle_41 : decode b_T_obstacle 41 = .ok (.aload_n 0, 1) := by decide +kernel
theorem d_T_obstacle_42 : decode b_T_obstacle 42 = .ok (.getfield 48, 3) := by decide +kernel
theorem d_T_obstacle_45 : decode b_T_obstacle 45 = .ok (.invokevirtual 107, 3) := by decide +kernel
theorem d_T_obstacle_48 : decode b_T_obstacle 48 = .ok (.iconst 5, 1) := by decide +kernel
theorem d_T_obstacle_49 : decode b_T_obstacle 49 = .ok (.if_icmp .ge 7, 3) := by decide +kernel
theorem d_T_obstacle_52 : decode b_T_obstacle 52 = .ok (.iconst 4, 1) := by decide +kernel
theorem d_T_obstacle_53 : decode b_T_obstacle 53 = .ok (.goto 4, 3) := by decide +kernel
theorem d_T_obstacle_56 : decode b_T_obstacle 56 = .ok (.iconst 0, 1) := by decide +kernel
theorem d_T_obstacle_57 : decode b_T_obstacle 57 = .ok (.ireturn, 1) := by decide +kernel
theorem cc_T_107 : CV "KiteLogger$Station" 107 y_T_gustOf b_T_gustOf 2 (some .int) 1 := ⟨TT_in (i := 679) (by decide +kernel) (by decide +kernel), TT_in (i := 680) (by decide +kernel) (by decide +kernel), TT_in (i := 681) (by decide +kernel) (by decide +kernel), TT_in (i := 94) (by decide +kernel) (by decide +kernel), TT_in (i := 682) (by decide +kernel) (by decide +kernel), ⟨by decide +kernel, by decide +kernel, by decide +kernel⟩⟩
def f_T_obstacle (p : Nat) (M : Mem) : Option (Int32 × Mem) :=
  if (M (p + 1) 0) = (1 : Int32) then (some ((1 : Int32), M)) else (if (M (p + 1) 0) = (2 : Int32) then (some ((2 : Int32), M)) else (if (M (p + 1) 2) < (10 : Int32) then (some ((3 : Int32), M)) else (bnd (f_T_gustOf p (M p 7) M) fun (x1 : Int32) (M2 : Mem) => if x1 < (5 : Int32) then (some ((4 : Int32), M2)) else (some ((0 : Int32), M2)))))
set_option maxHeartbeats 4000000 in
set_option maxRecDepth 100000 in
theorem c_T_obstacle (l : Launch) {w : Wc} {rr : Nat} (hw : WK w rr) (p : Nat) (hp : p ∈ stL) (M : Mem) : Ct QI l y_T_obstacle b_T_obstacle 1 (some .int) (rmL 2) w [.ref (wad w p)] M (f_T_obstacle p M) := by
  refine Ct.go (by decide) (L := [(0, .ref (wad w p))]) rfl (Nat.le_of_ble_eq_true rfl) (fun p0 e s m args below meth c g hret => ?_)
  unfold f_T_obstacle
  refine G_aload_n g (pc := 0) 0 d_T_obstacle_0 rfl rfl ?_
  refine G_getR g (pc := 1) fa_T_12 (hw.m _ (st_lt0 hp)) (hw.k (st_k0 hp)) (hw.r (st_r0_0 hp rr)) d_T_obstacle_1 ?_
  refine G_getN g (pc := 4) fa_T_101 (hw.m _ (st_lt1 hp)) (hw.k (st_k1 hp)) d_T_obstacle_4 ?_
  refine G_iconst g (pc := 7) (1 : Int32) d_T_obstacle_7 rfl ?_
  refine G_icmp_ne g (pc := 8) 13 d_T_obstacle_8 (by decide) ?_ ?_
  · refine G_iconst g (pc := 11) (1 : Int32) d_T_obstacle_11 rfl ?_
    exact G_ireturn g (pc := 12) hret (Nat.le_of_ble_eq_true rfl) (Nat.le_of_ble_eq_true rfl) d_T_obstacle_12
  · refine G_aload_n g (pc := 13) 0 d_T_obstacle_13 rfl rfl ?_
    refine G_getR g (pc := 14) fa_T_12 (hw.m _ (st_lt0 hp)) (hw.k (st_k0 hp)) (hw.r (st_r0_0 hp rr)) d_T_obstacle_14 ?_
    refine G_getN g (pc := 17) fa_T_101 (hw.m _ (st_lt1 hp)) (hw.k (st_k1 hp)) d_T_obstacle_17 ?_
    refine G_iconst g (pc := 20) (2 : Int32) d_T_obstacle_20 rfl ?_
    refine G_icmp_ne g (pc := 21) 26 d_T_obstacle_21 (by decide) ?_ ?_
    · refine G_iconst g (pc := 24) (2 : Int32) d_T_obstacle_24 rfl ?_
      exact G_ireturn g (pc := 25) hret (Nat.le_of_ble_eq_true rfl) (Nat.le_of_ble_eq_true rfl) d_T_obstacle_25
    · refine G_aload_n g (pc := 26) 0 d_T_obstacle_26 rfl rfl ?_
      refine G_getR g (pc := 27) fa_T_12 (hw.m _ (st_lt0 hp)) (hw.k (st_k0 hp)) (hw.r (st_r0_0 hp rr)) d_T_obstacle_27 ?_
      refine G_getN g (pc := 30) fa_T_104 (hw.m _ (st_lt1 hp)) (hw.k (st_k1 hp)) d_T_obstacle_30 ?_
      refine G_bipush g (pc := 33) (10 : Int32) d_T_obstacle_33 rfl ?_
      refine G_icmp_ge g (pc := 35) 40 d_T_obstacle_35 (by decide) ?_ ?_
      · refine G_iconst g (pc := 38) (3 : Int32) d_T_obstacle_38 rfl ?_
        exact G_ireturn g (pc := 39) hret (Nat.le_of_ble_eq_true rfl) (Nat.le_of_ble_eq_true rfl) d_T_obstacle_39
      · refine G_aload_n g (pc := 40) 0 d_T_obstacle_40 rfl rfl ?_
        refine G_aload_n g (pc := 41) 0 d_T_obstacle_41 rfl rfl ?_
        refine G_get g (pc := 42) fa_T_48 (hw.m _ (st_lt0 hp)) (hw.k (st_k0 hp)) d_T_obstacle_42 ?_
        refine G_cVI g (pc := 45) (As := [.int (M p 7)]) (st := []) cc_T_107 (c_T_gustOf l hw p hp (M p 7) M) (hw.m _ (st_lt0 hp)) (hw.k (st_k0 hp)) rfl (by decide) rfl ⟨(Nat.le_of_ble_eq_true rfl), (Nat.le_of_ble_eq_true rfl)⟩ ⟨(Nat.le_of_ble_eq_true rfl), (Nat.le_of_ble_eq_true rfl)⟩ (Nat.le_of_ble_eq_true rfl) d_T_obstacle_45 (fun x1 M2 => ?_)
        refine G_iconst g (pc := 48) (5 : Int32) d_T_obstacle_48 rfl ?_
        refine G_icmp_ge g (pc := 49) 56 d_T_obstacle_49 (by decide) ?_ ?_
        · refine G_iconst g (pc := 52) (4 : Int32) d_T_obstacle_52 rfl ?_
          refine G_goto g (pc := 53) 57 d_T_obstacle_53 (by decide) ?_
          exact G_ireturn g (pc := 57) hret (Nat.le_of_ble_eq_true rfl) (Nat.le_of_ble_eq_true rfl) d_T_obstacle_57
        · refine G_iconst g (pc := 56) (0 : Int32) d_T_obstacle_56 rfl ?_
          exact G_ireturn g (pc := 57) hret (Nat.le_of_ble_eq_true rfl) (Nat.le_of_ble_eq_true rfl) d_T_obstacle_57

theorem d_T_hasBadNumber_0 : decode b_T_hasBadNumber 0 = .ok (.iload_n 0, 1) := by decide +kernel
theorem d_T_hasBadNumber_1 : decode b_T_hasBadNumber 1 = .ok (.tableswitch 105 2 8 #[43, 43, 52, 80, 88, 105, 97], 43) := by decide +kernel
theorem d_T_hasBadNumber_44 : decode b_T_hasBadNumber 44 = .ok (.iload_n 1, 1) := by decide +kernel
theorem d_T_hasBadNumber_45 : decode b_T_hasBadNumber 45 = .ok (.iconst 1, 1) := by decide +kernel
theorem d_T_hasBadNumber_46 : decode b_T_hasBadNumber 46 = .ok (.sipush 200, 3) := by decide +kernel
theorem d_T_hasBadNumber_49 : decode b_T_hasBadNumber 49 = .ok (.invokestatic 119, 3) := by decide +kernel
theorem d_T_hasBadNumber_52 : decode b_T_hasBadNumber 52 = .ok (.ireturn, 1) := by decide +kernel
theorem d_T_hasBadNumber_53 : decode b_T_hasBadNumber 53 = .ok (.iload_n 1, 1) := by decide +kernel
theorem d_T_hasBadNumber_54 : decode b_T_hasBadNumber 54 = .ok (.iconst 1, 1) := by decide +kernel
theorem d_T_hasBadNumber_55 : decode b_T_hasBadNumber 55 = .ok (.sipush 999, 3) := by decide +kernel
theorem d_T_hasBadNumber_58 : decode b_T_hasBadNumber 58 = .ok (.invokestatic 119, 3) := by decide +kernel
theorem d_T_hasBadNumber_61 : decode b_T_hasBadNumber 61 = .ok (.ifCond .ne 14, 3) := by decide +kernel
theorem d_T_hasBadNumber_64 : decode b_T_hasBadNumber 64 = .ok (.iload_n 2, 1) := by decide +kernel
theorem d_T_hasBadNumber_65 : decode b_T_hasBadNumber 65 = .ok (.iconst 1, 1) := by decide +kernel
theorem d_T_hasBadNumber_66 : decode b_T_hasBadNumber 66 = .ok (.sipush 9999, 3) := by decide +kernel
theorem d_T_hasBadNumber_69 : decode b_T_hasBadNumber 69 = .ok (.invokestatic 119, 3) := by decide +kernel
theorem d_T_hasBadNumber_72 : decode b_T_hasBadNumber 72 = .ok (.ifCond .eq 7, 3) := by decide +kernel
theorem d_T_hasBadNumber_75 : decode b_T_hasBadNumber 75 = .ok (.iconst 1, 1) := by decide +kernel
theorem d_T_hasBadNumber_76 : decode b_T_hasBadNumber 76 = .ok (.goto 4, 3) := by decide +kernel
theorem d_T_hasBadNumber_79 : decode b_T_hasBadNumber 79 = .ok (.iconst 0, 1) := by decide +kernel
theorem d_T_hasBadNumber_80 : decode b_T_hasBadNumber 80 = .ok (.ireturn, 1) := by decide +kernel
theorem d_T_hasBadNumber_81 : decode b_T_hasBadNumber 81 = .ok (.iload_n 1, 1) := by decide +kernel
theorem d_T_hasBadNumber_82 : decode b_T_hasBadNumber 82 = .ok (.iconst 1, 1) := by decide +kernel
theorem d_T_hasBadNumber_83 : decode b_T_hasBadNumber 83 = .ok (.bipush 20, 2) := by decide +kernel
theorem d_T_hasBadNumber_85 : decode b_T_hasBadNumber 85 = .ok (.invokestatic 119, 3) := by decide +kernel
theorem d_T_hasBadNumber_88 : decode b_T_hasBadNumber 88 = .ok (.ireturn, 1) := by decide +kernel
theorem d_T_hasBadNumber_89 : decode b_T_hasBadNumber 89 = .ok (.iload_n 1, 1) := by decide +kernel
theorem d_T_hasBadNumber_90 : decode b_T_hasBadNumber 90 = .ok (.iconst 0, 1) := by decide +kernel
theorem d_T_hasBadNumber_91 : decode b_T_hasBadNumber 91 = .ok (.sipush 2200, 3) := by decide +kernel
theorem d_T_hasBadNumber_94 : decode b_T_hasBadNumber 94 = .ok (.invokestatic 119, 3) := by decide +kernel
theorem d_T_hasBadNumber_97 : decode b_T_hasBadNumber 97 = .ok (.ireturn, 1) := by decide +kernel
theorem d_T_hasBadNumber_98 : decode b_T_hasBadNumber 98 = .ok (.iload_n 1, 1) := by decide +kernel
theorem d_T_hasBadNumber_99 : decode b_T_hasBadNumber 99 = .ok (.iconst 1, 1) := by decide +kernel
theorem d_T_hasBadNumber_100 : decode b_T_hasBadNumber 100 = .ok (.bipush 60, 2) := by decide +kernel
theorem d_T_hasBadNumber_102 : decode b_T_hasBadNumber 102 = .ok (.invokestatic 119, 3) := by decide +kernel
theorem d_T_hasBadNumber_105 : decode b_T_hasBadNumber 105 = .ok (.ireturn, 1) := by decide +kernel
theorem d_T_hasBadNumber_106 : decode b_T_hasBadNumber 106 = .ok (.iconst 0, 1) := by decide +kernel
theorem d_T_hasBadNumber_107 : decode b_T_hasBadNumber 107 = .ok (.ireturn, 1) := by decide +kernel
theorem cc_T_119 : CSN "KiteLogger$Station" 119 "KiteLogger" y_G_isOutside b_G_isOutside 3 (some .boolean) 3 := ⟨NW_in (i := 1108) (by decide +kernel) (by decide +kernel), TT_in (i := 634) (by decide +kernel) (by decide +kernel), TT_in (i := 88) (by decide +kernel) (by decide +kernel), TT_in (i := 635) (by decide +kernel) (by decide +kernel), ⟨by decide +kernel, by decide +kernel, by decide +kernel⟩⟩
def f_T_hasBadNumber (a1 : Int32) (a2 : Int32) (a3 : Int32) (M : Mem) : Option (Bool × Mem) :=
  if a1 = (2 : Int32) then (bnd (f_G_isOutside a2 (1 : Int32) (200 : Int32) M) fun (x1 : Bool) (M2 : Mem) => some (x1, M2)) else (if a1 = (3 : Int32) then (bnd (f_G_isOutside a2 (1 : Int32) (200 : Int32) M) fun (x3 : Bool) (M4 : Mem) => some (x3, M4)) else (if a1 = (4 : Int32) then (bnd (f_G_isOutside a2 (1 : Int32) (999 : Int32) M) fun (x5 : Bool) (M6 : Mem) => if x5 = true then (some (true, M6)) else (bnd (f_G_isOutside a3 (1 : Int32) (9999 : Int32) M6) fun (x7 : Bool) (M8 : Mem) => if x7 = true then (some (true, M8)) else (some (false, M8)))) else (if a1 = (5 : Int32) then (bnd (f_G_isOutside a2 (1 : Int32) (20 : Int32) M) fun (x9 : Bool) (M10 : Mem) => some (x9, M10)) else (if a1 = (6 : Int32) then (bnd (f_G_isOutside a2 (0 : Int32) (2200 : Int32) M) fun (x11 : Bool) (M12 : Mem) => some (x11, M12)) else (if a1 = (8 : Int32) then (bnd (f_G_isOutside a2 (1 : Int32) (60 : Int32) M) fun (x13 : Bool) (M14 : Mem) => some (x13, M14)) else (if a1 = (7 : Int32) then (some (false, M)) else (some (false, M))))))))
set_option maxHeartbeats 4000000 in
set_option maxRecDepth 100000 in
theorem c_T_hasBadNumber (l : Launch) {w : Wc} {rr : Nat} (hw : WK w rr) (a1 : Int32) (a2 : Int32) (a3 : Int32) (M : Mem) : Ct QZ l y_T_hasBadNumber b_T_hasBadNumber 3 (some .boolean) (rmL 1) w [.int a1, .int a2, .int a3] M (f_T_hasBadNumber a1 a2 a3 M) := by
  refine Ct.go (by decide) (L := [(0, .int a1), (1, .int a2), (2, .int a3)]) rfl (Nat.le_of_ble_eq_true rfl) (fun p0 e s m args below meth c g hret => ?_)
  unfold f_T_hasBadNumber
  refine G_iload_n g (pc := 0) 0 d_T_hasBadNumber_0 rfl rfl ?_
  refine G_case (v := (2 : Int32)) ?_ (fun ne2 => ?_)
  · refine G_tabK g (pc := 1) 44 d_T_hasBadNumber_1 (by decide) (by decide) rfl (by decide) ?_
    refine G_iload_n g (pc := 44) 1 d_T_hasBadNumber_44 rfl rfl ?_
    refine G_iconst g (pc := 45) (1 : Int32) d_T_hasBadNumber_45 rfl ?_
    refine G_sipush g (pc := 46) (200 : Int32) d_T_hasBadNumber_46 rfl ?_
    refine G_cSNZ g (pc := 49) (As := [.int a2, .int (1 : Int32), .int (200 : Int32)]) (st := []) cc_T_119 (c_G_isOutside l hw a2 (1 : Int32) (200 : Int32) M) rfl ⟨(Nat.le_of_ble_eq_true rfl), (Nat.le_of_ble_eq_true rfl)⟩ ⟨(Nat.le_of_ble_eq_true rfl), (Nat.le_of_ble_eq_true rfl)⟩ (Nat.le_of_ble_eq_true rfl) d_T_hasBadNumber_49 (fun x1 M2 => ?_)
    exact G_zreturn g (pc := 52) x1 rfl hret (Nat.le_of_ble_eq_true rfl) (Nat.le_of_ble_eq_true rfl) d_T_hasBadNumber_52
  refine G_case (v := (3 : Int32)) ?_ (fun ne3 => ?_)
  · refine G_tabK g (pc := 1) 44 d_T_hasBadNumber_1 (by decide) (by decide) rfl (by decide) ?_
    refine G_iload_n g (pc := 44) 1 d_T_hasBadNumber_44 rfl rfl ?_
    refine G_iconst g (pc := 45) (1 : Int32) d_T_hasBadNumber_45 rfl ?_
    refine G_sipush g (pc := 46) (200 : Int32) d_T_hasBadNumber_46 rfl ?_
    refine G_cSNZ g (pc := 49) (As := [.int a2, .int (1 : Int32), .int (200 : Int32)]) (st := []) cc_T_119 (c_G_isOutside l hw a2 (1 : Int32) (200 : Int32) M) rfl ⟨(Nat.le_of_ble_eq_true rfl), (Nat.le_of_ble_eq_true rfl)⟩ ⟨(Nat.le_of_ble_eq_true rfl), (Nat.le_of_ble_eq_true rfl)⟩ (Nat.le_of_ble_eq_true rfl) d_T_hasBadNumber_49 (fun x3 M4 => ?_)
    exact G_zreturn g (pc := 52) x3 rfl hret (Nat.le_of_ble_eq_true rfl) (Nat.le_of_ble_eq_true rfl) d_T_hasBadNumber_52
  refine G_case (v := (4 : Int32)) ?_ (fun ne4 => ?_)
  · refine G_tabK g (pc := 1) 53 d_T_hasBadNumber_1 (by decide) (by decide) rfl (by decide) ?_
    refine G_iload_n g (pc := 53) 1 d_T_hasBadNumber_53 rfl rfl ?_
    refine G_iconst g (pc := 54) (1 : Int32) d_T_hasBadNumber_54 rfl ?_
    refine G_sipush g (pc := 55) (999 : Int32) d_T_hasBadNumber_55 rfl ?_
    refine G_cSNZ g (pc := 58) (As := [.int a2, .int (1 : Int32), .int (999 : Int32)]) (st := []) cc_T_119 (c_G_isOutside l hw a2 (1 : Int32) (999 : Int32) M) rfl ⟨(Nat.le_of_ble_eq_true rfl), (Nat.le_of_ble_eq_true rfl)⟩ ⟨(Nat.le_of_ble_eq_true rfl), (Nat.le_of_ble_eq_true rfl)⟩ (Nat.le_of_ble_eq_true rfl) d_T_hasBadNumber_58 (fun x5 M6 => ?_)
    refine G_if_neB g (pc := 61) 75 d_T_hasBadNumber_61 (by decide) ?_ ?_
    · refine G_iconst g (pc := 75) (1 : Int32) d_T_hasBadNumber_75 rfl ?_
      refine G_goto g (pc := 76) 80 d_T_hasBadNumber_76 (by decide) ?_
      exact G_zreturn g (pc := 80) true rfl hret (Nat.le_of_ble_eq_true rfl) (Nat.le_of_ble_eq_true rfl) d_T_hasBadNumber_80
    · refine G_iload_n g (pc := 64) 2 d_T_hasBadNumber_64 rfl rfl ?_
      refine G_iconst g (pc := 65) (1 : Int32) d_T_hasBadNumber_65 rfl ?_
      refine G_sipush g (pc := 66) (9999 : Int32) d_T_hasBadNumber_66 rfl ?_
      refine G_cSNZ g (pc := 69) (As := [.int a3, .int (1 : Int32), .int (9999 : Int32)]) (st := []) cc_T_119 (c_G_isOutside l hw a3 (1 : Int32) (9999 : Int32) M6) rfl ⟨(Nat.le_of_ble_eq_true rfl), (Nat.le_of_ble_eq_true rfl)⟩ ⟨(Nat.le_of_ble_eq_true rfl), (Nat.le_of_ble_eq_true rfl)⟩ (Nat.le_of_ble_eq_true rfl) d_T_hasBadNumber_69 (fun x7 M8 => ?_)
      refine G_if_eqB g (pc := 72) 79 d_T_hasBadNumber_72 (by decide) ?_ ?_
      · refine G_iconst g (pc := 75) (1 : Int32) d_T_hasBadNumber_75 rfl ?_
        refine G_goto g (pc := 76) 80 d_T_hasBadNumber_76 (by decide) ?_
        exact G_zreturn g (pc := 80) true rfl hret (Nat.le_of_ble_eq_true rfl) (Nat.le_of_ble_eq_true rfl) d_T_hasBadNumber_80
      · refine G_iconst g (pc := 79) (0 : Int32) d_T_hasBadNumber_79 rfl ?_
        exact G_zreturn g (pc := 80) false rfl hret (Nat.le_of_ble_eq_true rfl) (Nat.le_of_ble_eq_true rfl) d_T_hasBadNumber_80
  refine G_case (v := (5 : Int32)) ?_ (fun ne5 => ?_)
  · refine G_tabK g (pc := 1) 81 d_T_hasBadNumber_1 (by decide) (by decide) rfl (by decide) ?_
    refine G_iload_n g (pc := 81) 1 d_T_hasBadNumber_81 rfl rfl ?_
    refine G_iconst g (pc := 82) (1 : Int32) d_T_hasBadNumber_82 rfl ?_
    refine G_bipush g (pc := 83) (20 : Int32) d_T_hasBadNumber_83 rfl ?_
    refine G_cSNZ g (pc := 85) (As := [.int a2, .int (1 : Int32), .int (20 : Int32)]) (st := []) cc_T_119 (c_G_isOutside l hw a2 (1 : Int32) (20 : Int32) M) rfl ⟨(Nat.le_of_ble_eq_true rfl), (Nat.le_of_ble_eq_true rfl)⟩ ⟨(Nat.le_of_ble_eq_true rfl), (Nat.le_of_ble_eq_true rfl)⟩ (Nat.le_of_ble_eq_true rfl) d_T_hasBadNumber_85 (fun x9 M10 => ?_)
    exact G_zreturn g (pc := 88) x9 rfl hret (Nat.le_of_ble_eq_true rfl) (Nat.le_of_ble_eq_true rfl) d_T_hasBadNumber_88
  refine G_case (v := (6 : Int32)) ?_ (fun ne6 => ?_)
  · refine G_tabK g (pc := 1) 89 d_T_hasBadNumber_1 (by decide) (by decide) rfl (by decide) ?_
    refine G_iload_n g (pc := 89) 1 d_T_hasBadNumber_89 rfl rfl ?_
    refine G_iconst g (pc := 90) (0 : Int32) d_T_hasBadNumber_90 rfl ?_
    refine G_sipush g (pc := 91) (2200 : Int32) d_T_hasBadNumber_91 rfl ?_
    refine G_cSNZ g (pc := 94) (As := [.int a2, .int (0 : Int32), .int (2200 : Int32)]) (st := []) cc_T_119 (c_G_isOutside l hw a2 (0 : Int32) (2200 : Int32) M) rfl ⟨(Nat.le_of_ble_eq_true rfl), (Nat.le_of_ble_eq_true rfl)⟩ ⟨(Nat.le_of_ble_eq_true rfl), (Nat.le_of_ble_eq_true rfl)⟩ (Nat.le_of_ble_eq_true rfl) d_T_hasBadNumber_94 (fun x11 M12 => ?_)
    exact G_zreturn g (pc := 97) x11 rfl hret (Nat.le_of_ble_eq_true rfl) (Nat.le_of_ble_eq_true rfl) d_T_hasBadNumber_97
  refine G_case (v := (8 : Int32)) ?_ (fun ne8 => ?_)
  · refine G_tabK g (pc := 1) 98 d_T_hasBadNumber_1 (by decide) (by decide) rfl (by decide) ?_
    refine G_iload_n g (pc := 98) 1 d_T_hasBadNumber_98 rfl rfl ?_
    refine G_iconst g (pc := 99) (1 : Int32) d_T_hasBadNumber_99 rfl ?_
    refine G_bipush g (pc := 100) (60 : Int32) d_T_hasBadNumber_100 rfl ?_
    refine G_cSNZ g (pc := 102) (As := [.int a2, .int (1 : Int32), .int (60 : Int32)]) (st := []) cc_T_119 (c_G_isOutside l hw a2 (1 : Int32) (60 : Int32) M) rfl ⟨(Nat.le_of_ble_eq_true rfl), (Nat.le_of_ble_eq_true rfl)⟩ ⟨(Nat.le_of_ble_eq_true rfl), (Nat.le_of_ble_eq_true rfl)⟩ (Nat.le_of_ble_eq_true rfl) d_T_hasBadNumber_102 (fun x13 M14 => ?_)
    exact G_zreturn g (pc := 105) x13 rfl hret (Nat.le_of_ble_eq_true rfl) (Nat.le_of_ble_eq_true rfl) d_T_hasBadNumber_105
  refine G_case (v := (7 : Int32)) ?_ (fun ne7 => ?_)
  · refine G_tabK g (pc := 1) 106 d_T_hasBadNumber_1 (by decide) (by decide) rfl (by decide) ?_
    refine G_iconst g (pc := 106) (0 : Int32) d_T_hasBadNumber_106 rfl ?_
    exact G_zreturn g (pc := 107) false rfl hret (Nat.le_of_ble_eq_true rfl) (Nat.le_of_ble_eq_true rfl) d_T_hasBadNumber_107
  refine G_tabD g (pc := 1) 106 d_T_hasBadNumber_1 (by have q2 : ¬ a1.toInt = 2 := lv_neT ne2 rfl; have q3 : ¬ a1.toInt = 3 := lv_neT ne3 rfl; have q4 : ¬ a1.toInt = 4 := lv_neT ne4 rfl; have q5 : ¬ a1.toInt = 5 := lv_neT ne5 rfl; have q6 : ¬ a1.toInt = 6 := lv_neT ne6 rfl; have q7 : ¬ a1.toInt = 7 := lv_neT ne7 rfl; have q8 : ¬ a1.toInt = 8 := lv_neT ne8 rfl; omega) (by decide) ?_
  refine G_iconst g (pc := 106) (0 : Int32) d_T_hasBadNumber_106 rfl ?_
  exact G_zreturn g (pc := 107) false rfl hret (Nat.le_of_ble_eq_true rfl) (Nat.le_of_ble_eq_true rfl) d_T_hasBadNumber_107

theorem d_T_isForbidden_0 : decode b_T_isForbidden 0 = .ok (.iload_n 1, 1) := by decide +kernel
theorem d_T_isForbidden_1 : decode b_T_isForbidden 1 = .ok (.tableswitch 196 1 8 #[47, 60, 92, 109, 196, 125, 142, 178], 47) := by decide +kernel
theorem d_T_isForbidden_48 : decode b_T_isForbidden 48 = .ok (.aload_n 0, 1) := by decide +kernel
theorem d_T_isForbidden_49 : decode b_T_isForbidden 49 = .ok (.invokevirtual 122, 3) := by decide +kernel
theorem d_T_isForbidden_52 : decode b_T_isForbidden 52 = .ok (.ifCond .eq 7, 3) := by decide +kernel
theorem d_T_isForbidden_55 : decode b_T_isForbidden 55 = .ok (.iconst 1, 1) := by decide +kernel
theorem d_T_isForbidden_56 : decode b_T_isForbidden 56 = .ok (.goto 4, 3) := by decide +kernel
theorem d_T_isForbidden_59 : decode b_T_isForbidden 59 = .ok (.iconst 0, 1) := by decide +kernel
theorem d_T_isForbidden_60 : decode b_T_isForbidden 60 = .ok (.ireturn, 1) := by decide +kernel
theorem d_T_isForbidden_61 : decode b_T_isForbidden 61 = .ok (.aload_n 0, 1) := by decide +kernel
theorem d_T_isForbidden_62 : decode b_T_isForbidden 62 = .ok (.getfield 12, 3) := by decide +kernel
theorem d_T_isForbidden_65 : decode b_T_isForbidden 65 = .ok (.getfield 101, 3) := by decide +kernel
theorem d_T_isForbidden_68 : decode b_T_isForbidden 68 = .ok (.iconst 2, 1) := by decide +kernel
theorem d_T_isForbidden_69 : decode b_T_isForbidden 69 = .ok (.if_icmp .eq 18, 3) := by decide +kernel
theorem d_T_isForbidden_72 : decode b_T_isForbidden 72 = .ok (.aload_n 0, 1) := by decide +kernel
theorem d_T_isForbidden_73 : decode b_T_isForbidden 73 = .ok (.getfield 12, 3) := by decide +kernel
theorem d_T_isForbidden_76 : decode b_T_isForbidden 76 = .ok (.getfield 104, 3) := by decide +kernel
theorem d_T_isForbidden_79 : decode b_T_isForbidden 79 = .ok (.iload_n 2, 1) := by decide +kernel
theorem d_T_isForbidden_80 : decode b_T_isForbidden 80 = .ok (.iadd, 1) := by decide +kernel
theorem d_T_isForbidden_81 : decode b_T_isForbidden 81 = .ok (.sipush 600, 3) := by decide +kernel
theorem d_T_isForbidden_84 : decode b_T_isForbidden 84 = .ok (.if_icmp .le 7, 3) := by decide +kernel
theorem d_T_isForbidden_87 : decode b_T_isForbidden 87 = .ok (.iconst 1, 1) := by decide +kernel
theorem d_T_isForbidden_88 : decode b_T_isForbidden 88 = .ok (.goto 4, 3) := by decide +kernel
theorem d_T_isForbidden_91 : decode b_T_isForbidden 91 = .ok (.iconst 0, 1) := by decide +kernel
theorem d_T_isForbidden_92 : decode b_T_isForbidden 92 = .ok (.ireturn, 1) := by decide +kernel
theorem d_T_isForbidden_93 : decode b_T_isForbidden 93 = .ok (.aload_n 0, 1) := by decide +kernel
theorem d_T_isForbidden_94 : decode b_T_isForbidden 94 = .ok (.getfield 12, 3) := by decide +kernel
theorem d_T_isForbidden_97 : decode b_T_isForbidden 97 = .ok (.getfield 101, 3) := by decide +kernel
theorem d_T_isForbidden_100 : decode b_T_isForbidden 100 = .ok (.iconst 2, 1) := by decide +kernel
theorem d_T_isForbidden_101 : decode b_T_isForbidden 101 = .ok (.if_icmp .ne 7, 3) := by decide +kernel
theorem d_T_isForbidden_104 : decode b_T_isForbidden 104 = .ok (.iconst 1, 1) := by decide +kernel
theorem d_T_isForbidden_105 : decode b_T_isForbidden 105 = .ok (.goto 4, 3) := by decide +kernel
theorem d_T_isForbidden_108 : decode b_T_isForbidden 108 = .ok (.iconst 0, 1) := by decide +kernel
theorem d_T_isForbidden_109 : decode b_T_isForbidden 109 = .ok (.ireturn, 1) := by decide +kernel
theorem d_T_isForbidden_110 : decode b_T_isForbidden 110 = .ok (.aload_n 0, 1) := by decide +kernel
theorem d_T_isForbidden_111 : decode b_T_isForbidden 111 = .ok (.getfield 12, 3) := by decide +kernel
theorem d_T_isForbidden_114 : decode b_T_isForbidden 114 = .ok (.getfield 101, 3) := by decide +kernel
theorem d_T_isForbidden_117 : decode b_T_isForbidden 117 = .ok (.ifCond .eq 7, 3) := by decide +kernel
theorem d_T_isForbidden_120 : decode b_T_isForbidden 120 = .ok (.iconst 1, 1) := by decide +kernel
theorem d_T_isForbidden_121 : decode b_T_isForbidden 121 = .ok (.goto 4, 3) := by decide +kernel
theorem d_T_isForbidden_124 : decode b_T_isForbidden 124 = .ok (.iconst 0, 1) := by decide +kernel
theorem d_T_isForbidden_125 : decode b_T_isForbidden 125 = .ok (.ireturn, 1) := by decide +kernel
theorem d_T_isForbidden_126 : decode b_T_isForbidden 126 = .ok (.aload_n 0, 1) := by decide +kernel
theorem d_T_isForbidden_127 : decode b_T_isForbidden 127 = .ok (.getfield 12, 3) := by decide +kernel
theorem d_T_isForbidden_130 : decode b_T_isForbidden 130 = .ok (.getfield 101, 3) := by decide +kernel
theorem d_T_isForbidden_133 : decode b_T_isForbidden 133 = .ok (.iconst 2, 1) := by decide +kernel
theorem d_T_isForbidden_134 : decode b_T_isForbidden 134 = .ok (.if_icmp .eq 7, 3) := by decide +kernel
theorem d_T_isForbidden_137 : decode b_T_isForbidden 137 = .ok (.iconst 1, 1) := by decide +kernel
theorem d_T_isForbidden_138 : decode b_T_isForbidden 138 = .ok (.goto 4, 3) := by decide +kernel
theorem d_T_isForbidden_141 : decode b_T_isForbidden 141 = .ok (.iconst 0, 1) := by decide +kernel
theorem d_T_isForbidden_142 : decode b_T_isForbidden 142 = .ok (.ireturn, 1) := by decide +kernel
theorem d_T_isForbidden_143 : decode b_T_isForbidden 143 = .ok (.aload_n 0, 1) := by decide +kernel
theorem d_T_isForbidden_144 : decode b_T_isForbidden 144 = .ok (.getfield 12, 3) := by decide +kernel
theorem d_T_isForbidden_147 : decode b_T_isForbidden 147 = .ok (.getfield 101, 3) := by decide +kernel
theorem d_T_isForbidden_150 : decode b_T_isForbidden 150 = .ok (.ifCond .ne 23, 3) := by decide +kernel
theorem d_T_isForbidden_153 : decode b_T_isForbidden 153 = .ok (.aload_n 0, 1) := by decide +kernel
theorem d_T_isForbidden_154 : decode b_T_isForbidden 154 = .ok (.getfield 42, 3) := by decide +kernel
theorem d_T_isForbidden_157 : decode b_T_isForbidden 157 = .ok (.getfield 126, 3) := by decide +kernel
theorem d_T_isForbidden_160 : decode b_T_isForbidden 160 = .ok (.aload_n 0, 1) := by decide +kernel
theorem d_T_isForbidden_161 : decode b_T_isForbidden 161 = .ok (.getfield 38, 3) := by decide +kernel
theorem d_T_isForbidden_164 : decode b_T_isForbidden 164 = .ok (.getfield 126, 3) := by decide +kernel
theorem d_T_isForbidden_167 : decode b_T_isForbidden 167 = .ok (.iadd, 1) := by decide +kernel
theorem d_T_isForbidden_168 : decode b_T_isForbidden 168 = .ok (.bipush 90, 2) := by decide +kernel
theorem d_T_isForbidden_170 : decode b_T_isForbidden 170 = .ok (.if_icmp .le 7, 3) := by decide +kernel
theorem d_T_isForbidden_173 : decode b_T_isForbidden 173 = .ok (.iconst 1, 1) := by decide +kernel
theorem d_T_isForbidden_174 : decode b_T_isForbidden 174 = .ok (.goto 4, 3) := by decide +kernel
theorem d_T_isForbidden_177 : decode b_T_isForbidden 177 = .ok (.iconst 0, 1) := by decide +kernel
theorem d_T_isForbidden_178 : decode b_T_isForbidden 178 = .ok (.ireturn, 1) := by decide +kernel
theorem d_T_isForbidden_179 : decode b_T_isForbidden 179 = .ok (.aload_n 0, 1) := by decide +kernel
theorem d_T_isForbidden_180 : decode b_T_isForbidden 180 = .ok (.getfield 48, 3) := by decide +kernel
theorem d_T_isForbidden_183 : decode b_T_isForbidden 183 = .ok (.iload_n 2, 1) := by decide +kernel
theorem d_T_isForbidden_184 : decode b_T_isForbidden 184 = .ok (.iadd, 1) := by decide +kernel
theorem d_T_isForbidden_185 : decode b_T_isForbidden 185 = .ok (.sipush 10000, 3) := by decide +kernel
theorem d_T_isForbidden_188 : decode b_T_isForbidden 188 = .ok (.if_icmp .le 7, 3) := by decide +kernel
theorem d_T_isForbidden_191 : decode b_T_isForbidden 191 = .ok (.iconst 1, 1) := by decide +kernel
theorem d_T_isForbidden_192 : decode b_T_isForbidden 192 = .ok (.goto 4, 3) := by decide +kernel
theorem d_T_isForbidden_195 : decode b_T_isForbidden 195 = .ok (.iconst 0, 1) := by decide +kernel
theorem d_T_isForbidden_196 : decode b_T_isForbidden 196 = .ok (.ireturn, 1) := by decide +kernel
theorem d_T_isForbidden_197 : decode b_T_isForbidden 197 = .ok (.iconst 0, 1) := by decide +kernel
theorem d_T_isForbidden_198 : decode b_T_isForbidden 198 = .ok (.ireturn, 1) := by decide +kernel
theorem cc_T_122 : CV "KiteLogger$Station" 122 y_T_obstacle b_T_obstacle 1 (some .int) 0 := ⟨TT_in (i := 1113) (by decide +kernel) (by decide +kernel), TT_in (i := 676) (by decide +kernel) (by decide +kernel), TT_in (i := 677) (by decide +kernel) (by decide +kernel), TT_in (i := 94) (by decide +kernel) (by decide +kernel), TT_in (i := 678) (by decide +kernel) (by decide +kernel), ⟨by decide +kernel, by decide +kernel, by decide +kernel⟩⟩
def f_T_isForbidden (p : Nat) (a1 : Int32) (a2 : Int32) (M : Mem) : Option (Bool × Mem) :=
  if a1 = (1 : Int32) then (bnd (f_T_obstacle p M) fun (x1 : Int32) (M2 : Mem) => if x1 = 0 then (some (false, M2)) else (some (true, M2))) else (if a1 = (2 : Int32) then (if (M (p + 1) 0) = (2 : Int32) then (some (true, M)) else (if (600 : Int32) < ((M (p + 1) 2) + a2) then (some (true, M)) else (some (false, M)))) else (if a1 = (3 : Int32) then (if (M (p + 1) 0) = (2 : Int32) then (some (true, M)) else (some (false, M))) else (if a1 = (4 : Int32) then (if (M (p + 1) 0) = 0 then (some (false, M)) else (some (true, M))) else (if a1 = (6 : Int32) then (if (M (p + 1) 0) = (2 : Int32) then (some (false, M)) else (some (true, M))) else (if a1 = (7 : Int32) then (if (M (p + 1) 0) = 0 then (if (90 : Int32) < ((M (p + 9) 5) + (M (p + 5) 5)) then (some (true, M)) else (some (false, M))) else (some (true, M))) else (if a1 = (8 : Int32) then (if (10000 : Int32) < ((M p 7) + a2) then (some (true, M)) else (some (false, M))) else (if a1 = (5 : Int32) then (some (false, M)) else (some (false, M)))))))))
set_option maxHeartbeats 4000000 in
set_option maxRecDepth 100000 in
theorem c_T_isForbidden (l : Launch) {w : Wc} {rr : Nat} (hw : WK w rr) (p : Nat) (hp : p ∈ stL) (a1 : Int32) (a2 : Int32) (M : Mem) : Ct QZ l y_T_isForbidden b_T_isForbidden 3 (some .boolean) (rmL 3) w [.ref (wad w p), .int a1, .int a2] M (f_T_isForbidden p a1 a2 M) := by
  refine Ct.go (by decide) (L := [(0, .ref (wad w p)), (1, .int a1), (2, .int a2)]) rfl (Nat.le_of_ble_eq_true rfl) (fun p0 e s m args below meth c g hret => ?_)
  unfold f_T_isForbidden
  refine G_iload_n g (pc := 0) 1 d_T_isForbidden_0 rfl rfl ?_
  refine G_case (v := (1 : Int32)) ?_ (fun ne1 => ?_)
  · refine G_tabK g (pc := 1) 48 d_T_isForbidden_1 (by decide) (by decide) rfl (by decide) ?_
    refine G_aload_n g (pc := 48) 0 d_T_isForbidden_48 rfl rfl ?_
    refine G_cVI g (pc := 49) (As := []) (st := []) cc_T_122 (c_T_obstacle l hw p hp M) (hw.m _ (st_lt0 hp)) (hw.k (st_k0 hp)) rfl (by decide) rfl ⟨(Nat.le_of_ble_eq_true rfl), (Nat.le_of_ble_eq_true rfl)⟩ ⟨(Nat.le_of_ble_eq_true rfl), (Nat.le_of_ble_eq_true rfl)⟩ (Nat.le_of_ble_eq_true rfl) d_T_isForbidden_49 (fun x1 M2 => ?_)
    refine G_if_eq g (pc := 52) 59 d_T_isForbidden_52 (by decide) ?_ ?_
    · refine G_iconst g (pc := 59) (0 : Int32) d_T_isForbidden_59 rfl ?_
      exact G_zreturn g (pc := 60) false rfl hret (Nat.le_of_ble_eq_true rfl) (Nat.le_of_ble_eq_true rfl) d_T_isForbidden_60
    · refine G_iconst g (pc := 55) (1 : Int32) d_T_isForbidden_55 rfl ?_
      refine G_goto g (pc := 56) 60 d_T_isForbidden_56 (by decide) ?_
      exact G_zreturn g (pc := 60) true rfl hret (Nat.le_of_ble_eq_true rfl) (Nat.le_of_ble_eq_true rfl) d_T_isForbidden_60
  refine G_case (v := (2 : Int32)) ?_ (fun ne2 => ?_)
  · refine G_tabK g (pc := 1) 61 d_T_isForbidden_1 (by decide) (by decide) rfl (by decide) ?_
    refine G_aload_n g (pc := 61) 0 d_T_isForbidden_61 rfl rfl ?_
    refine G_getR g (pc := 62) fa_T_12 (hw.m _ (st_lt0 hp)) (hw.k (st_k0 hp)) (hw.r (st_r0_0 hp rr)) d_T_isForbidden_62 ?_
    refine G_getN g (pc := 65) fa_T_101 (hw.m _ (st_lt1 hp)) (hw.k (st_k1 hp)) d_T_isForbidden_65 ?_
    refine G_iconst g (pc := 68) (2 : Int32) d_T_isForbidden_68 rfl ?_
    refine G_icmp_eq g (pc := 69) 87 d_T_isForbidden_69 (by decide) ?_ ?_
    · refine G_iconst g (pc := 87) (1 : Int32) d_T_isForbidden_87 rfl ?_
      refine G_goto g (pc := 88) 92 d_T_isForbidden_88 (by decide) ?_
      exact G_zreturn g (pc := 92) true rfl hret (Nat.le_of_ble_eq_true rfl) (Nat.le_of_ble_eq_true rfl) d_T_isForbidden_92
    · refine G_aload_n g (pc := 72) 0 d_T_isForbidden_72 rfl rfl ?_
      refine G_getR g (pc := 73) fa_T_12 (hw.m _ (st_lt0 hp)) (hw.k (st_k0 hp)) (hw.r (st_r0_0 hp rr)) d_T_isForbidden_73 ?_
      refine G_getN g (pc := 76) fa_T_104 (hw.m _ (st_lt1 hp)) (hw.k (st_k1 hp)) d_T_isForbidden_76 ?_
      refine G_iload_n g (pc := 79) 2 d_T_isForbidden_79 rfl rfl ?_
      refine G_iadd g (pc := 80) d_T_isForbidden_80 ?_
      refine G_sipush g (pc := 81) (600 : Int32) d_T_isForbidden_81 rfl ?_
      refine G_icmp_le g (pc := 84) 91 d_T_isForbidden_84 (by decide) ?_ ?_
      · refine G_iconst g (pc := 87) (1 : Int32) d_T_isForbidden_87 rfl ?_
        refine G_goto g (pc := 88) 92 d_T_isForbidden_88 (by decide) ?_
        exact G_zreturn g (pc := 92) true rfl hret (Nat.le_of_ble_eq_true rfl) (Nat.le_of_ble_eq_true rfl) d_T_isForbidden_92
      · refine G_iconst g (pc := 91) (0 : Int32) d_T_isForbidden_91 rfl ?_
        exact G_zreturn g (pc := 92) false rfl hret (Nat.le_of_ble_eq_true rfl) (Nat.le_of_ble_eq_true rfl) d_T_isForbidden_92
  refine G_case (v := (3 : Int32)) ?_ (fun ne3 => ?_)
  · refine G_tabK g (pc := 1) 93 d_T_isForbidden_1 (by decide) (by decide) rfl (by decide) ?_
    refine G_aload_n g (pc := 93) 0 d_T_isForbidden_93 rfl rfl ?_
    refine G_getR g (pc := 94) fa_T_12 (hw.m _ (st_lt0 hp)) (hw.k (st_k0 hp)) (hw.r (st_r0_0 hp rr)) d_T_isForbidden_94 ?_
    refine G_getN g (pc := 97) fa_T_101 (hw.m _ (st_lt1 hp)) (hw.k (st_k1 hp)) d_T_isForbidden_97 ?_
    refine G_iconst g (pc := 100) (2 : Int32) d_T_isForbidden_100 rfl ?_
    refine G_icmp_ne g (pc := 101) 108 d_T_isForbidden_101 (by decide) ?_ ?_
    · refine G_iconst g (pc := 104) (1 : Int32) d_T_isForbidden_104 rfl ?_
      refine G_goto g (pc := 105) 109 d_T_isForbidden_105 (by decide) ?_
      exact G_zreturn g (pc := 109) true rfl hret (Nat.le_of_ble_eq_true rfl) (Nat.le_of_ble_eq_true rfl) d_T_isForbidden_109
    · refine G_iconst g (pc := 108) (0 : Int32) d_T_isForbidden_108 rfl ?_
      exact G_zreturn g (pc := 109) false rfl hret (Nat.le_of_ble_eq_true rfl) (Nat.le_of_ble_eq_true rfl) d_T_isForbidden_109
  refine G_case (v := (4 : Int32)) ?_ (fun ne4 => ?_)
  · refine G_tabK g (pc := 1) 110 d_T_isForbidden_1 (by decide) (by decide) rfl (by decide) ?_
    refine G_aload_n g (pc := 110) 0 d_T_isForbidden_110 rfl rfl ?_
    refine G_getR g (pc := 111) fa_T_12 (hw.m _ (st_lt0 hp)) (hw.k (st_k0 hp)) (hw.r (st_r0_0 hp rr)) d_T_isForbidden_111 ?_
    refine G_getN g (pc := 114) fa_T_101 (hw.m _ (st_lt1 hp)) (hw.k (st_k1 hp)) d_T_isForbidden_114 ?_
    refine G_if_eq g (pc := 117) 124 d_T_isForbidden_117 (by decide) ?_ ?_
    · refine G_iconst g (pc := 124) (0 : Int32) d_T_isForbidden_124 rfl ?_
      exact G_zreturn g (pc := 125) false rfl hret (Nat.le_of_ble_eq_true rfl) (Nat.le_of_ble_eq_true rfl) d_T_isForbidden_125
    · refine G_iconst g (pc := 120) (1 : Int32) d_T_isForbidden_120 rfl ?_
      refine G_goto g (pc := 121) 125 d_T_isForbidden_121 (by decide) ?_
      exact G_zreturn g (pc := 125) true rfl hret (Nat.le_of_ble_eq_true rfl) (Nat.le_of_ble_eq_true rfl) d_T_isForbidden_125
  refine G_case (v := (6 : Int32)) ?_ (fun ne6 => ?_)
  · refine G_tabK g (pc := 1) 126 d_T_isForbidden_1 (by decide) (by decide) rfl (by decide) ?_
    refine G_aload_n g (pc := 126) 0 d_T_isForbidden_126 rfl rfl ?_
    refine G_getR g (pc := 127) fa_T_12 (hw.m _ (st_lt0 hp)) (hw.k (st_k0 hp)) (hw.r (st_r0_0 hp rr)) d_T_isForbidden_127 ?_
    refine G_getN g (pc := 130) fa_T_101 (hw.m _ (st_lt1 hp)) (hw.k (st_k1 hp)) d_T_isForbidden_130 ?_
    refine G_iconst g (pc := 133) (2 : Int32) d_T_isForbidden_133 rfl ?_
    refine G_icmp_eq g (pc := 134) 141 d_T_isForbidden_134 (by decide) ?_ ?_
    · refine G_iconst g (pc := 141) (0 : Int32) d_T_isForbidden_141 rfl ?_
      exact G_zreturn g (pc := 142) false rfl hret (Nat.le_of_ble_eq_true rfl) (Nat.le_of_ble_eq_true rfl) d_T_isForbidden_142
    · refine G_iconst g (pc := 137) (1 : Int32) d_T_isForbidden_137 rfl ?_
      refine G_goto g (pc := 138) 142 d_T_isForbidden_138 (by decide) ?_
      exact G_zreturn g (pc := 142) true rfl hret (Nat.le_of_ble_eq_true rfl) (Nat.le_of_ble_eq_true rfl) d_T_isForbidden_142
  refine G_case (v := (7 : Int32)) ?_ (fun ne7 => ?_)
  · refine G_tabK g (pc := 1) 143 d_T_isForbidden_1 (by decide) (by decide) rfl (by decide) ?_
    refine G_aload_n g (pc := 143) 0 d_T_isForbidden_143 rfl rfl ?_
    refine G_getR g (pc := 144) fa_T_12 (hw.m _ (st_lt0 hp)) (hw.k (st_k0 hp)) (hw.r (st_r0_0 hp rr)) d_T_isForbidden_144 ?_
    refine G_getN g (pc := 147) fa_T_101 (hw.m _ (st_lt1 hp)) (hw.k (st_k1 hp)) d_T_isForbidden_147 ?_
    refine G_if_ne g (pc := 150) 173 d_T_isForbidden_150 (by decide) ?_ ?_
    · refine G_aload_n g (pc := 153) 0 d_T_isForbidden_153 rfl rfl ?_
      refine G_getR g (pc := 154) fa_T_42 (hw.m _ (st_lt0 hp)) (hw.k (st_k0 hp)) (hw.r (st_r0_5 hp rr)) d_T_isForbidden_154 ?_
      refine G_getN g (pc := 157) fa_T_126 (hw.m _ (st_lt9 hp)) (hw.k (st_k9 hp)) d_T_isForbidden_157 ?_
      refine G_aload_n g (pc := 160) 0 d_T_isForbidden_160 rfl rfl ?_
      refine G_getR g (pc := 161) fa_T_38 (hw.m _ (st_lt0 hp)) (hw.k (st_k0 hp)) (hw.r (st_r0_4 hp rr)) d_T_isForbidden_161 ?_
      refine G_getN g (pc := 164) fa_T_126 (hw.m _ (st_lt5 hp)) (hw.k (st_k5 hp)) d_T_isForbidden_164 ?_
      refine G_iadd g (pc := 167) d_T_isForbidden_167 ?_
      refine G_bipush g (pc := 168) (90 : Int32) d_T_isForbidden_168 rfl ?_
      refine G_icmp_le g (pc := 170) 177 d_T_isForbidden_170 (by decide) ?_ ?_
      · refine G_iconst g (pc := 173) (1 : Int32) d_T_isForbidden_173 rfl ?_
        refine G_goto g (pc := 174) 178 d_T_isForbidden_174 (by decide) ?_
        exact G_zreturn g (pc := 178) true rfl hret (Nat.le_of_ble_eq_true rfl) (Nat.le_of_ble_eq_true rfl) d_T_isForbidden_178
      · refine G_iconst g (pc := 177) (0 : Int32) d_T_isForbidden_177 rfl ?_
        exact G_zreturn g (pc := 178) false rfl hret (Nat.le_of_ble_eq_true rfl) (Nat.le_of_ble_eq_true rfl) d_T_isForbidden_178
    · refine G_iconst g (pc := 173) (1 : Int32) d_T_isForbidden_173 rfl ?_
      refine G_goto g (pc := 174) 178 d_T_isForbidden_174 (by decide) ?_
      exact G_zreturn g (pc := 178) true rfl hret (Nat.le_of_ble_eq_true rfl) (Nat.le_of_ble_eq_true rfl) d_T_isForbidden_178
  refine G_case (v := (8 : Int32)) ?_ (fun ne8 => ?_)
  · refine G_tabK g (pc := 1) 179 d_T_isForbidden_1 (by decide) (by decide) rfl (by decide) ?_
    refine G_aload_n g (pc := 179) 0 d_T_isForbidden_179 rfl rfl ?_
    refine G_get g (pc := 180) fa_T_48 (hw.m _ (st_lt0 hp)) (hw.k (st_k0 hp)) d_T_isForbidden_180 ?_
    refine G_iload_n g (pc := 183) 2 d_T_isForbidden_183 rfl rfl ?_
    refine G_iadd g (pc := 184) d_T_isForbidden_184 ?_
    refine G_sipush g (pc := 185) (10000 : Int32) d_T_isForbidden_185 rfl ?_
    refine G_icmp_le g (pc := 188) 195 d_T_isForbidden_188 (by decide) ?_ ?_
    · refine G_iconst g (pc := 191) (1 : Int32) d_T_isForbidden_191 rfl ?_
      refine G_goto g (pc := 192) 196 d_T_isForbidden_192 (by decide) ?_
      exact G_zreturn g (pc := 196) true rfl hret (Nat.le_of_ble_eq_true rfl) (Nat.le_of_ble_eq_true rfl) d_T_isForbidden_196
    · refine G_iconst g (pc := 195) (0 : Int32) d_T_isForbidden_195 rfl ?_
      exact G_zreturn g (pc := 196) false rfl hret (Nat.le_of_ble_eq_true rfl) (Nat.le_of_ble_eq_true rfl) d_T_isForbidden_196
  refine G_case (v := (5 : Int32)) ?_ (fun ne5 => ?_)
  · refine G_tabK g (pc := 1) 197 d_T_isForbidden_1 (by decide) (by decide) rfl (by decide) ?_
    refine G_iconst g (pc := 197) (0 : Int32) d_T_isForbidden_197 rfl ?_
    exact G_zreturn g (pc := 198) false rfl hret (Nat.le_of_ble_eq_true rfl) (Nat.le_of_ble_eq_true rfl) d_T_isForbidden_198
  refine G_tabD g (pc := 1) 197 d_T_isForbidden_1 (by have q1 : ¬ a1.toInt = 1 := lv_neT ne1 rfl; have q2 : ¬ a1.toInt = 2 := lv_neT ne2 rfl; have q3 : ¬ a1.toInt = 3 := lv_neT ne3 rfl; have q4 : ¬ a1.toInt = 4 := lv_neT ne4 rfl; have q5 : ¬ a1.toInt = 5 := lv_neT ne5 rfl; have q6 : ¬ a1.toInt = 6 := lv_neT ne6 rfl; have q7 : ¬ a1.toInt = 7 := lv_neT ne7 rfl; have q8 : ¬ a1.toInt = 8 := lv_neT ne8 rfl; omega) (by decide) ?_
  refine G_iconst g (pc := 197) (0 : Int32) d_T_isForbidden_197 rfl ?_
  exact G_zreturn g (pc := 198) false rfl hret (Nat.le_of_ble_eq_true rfl) (Nat.le_of_ble_eq_true rfl) d_T_isForbidden_198

theorem d_T_faultOf_0 : decode b_T_faultOf 0 = .ok (.iload_n 1, 1) := by decide +kernel
theorem d_T_faultOf_1 : decode b_T_faultOf 1 = .ok (.iload_n 2, 1) := by decide +kernel
theorem d_T_faultOf_2 : decode b_T_faultOf 2 = .ok (.iload_n 3, 1) := by decide +kernel
theorem d_T_faultOf_3 : decode b_T_faultOf 3 = .ok (.invokestatic 111, 3) := by decide +kernel
theorem d_T_faultOf_6 : decode b_T_faultOf 6 = .ok (.ifCond .eq 5, 3) := by decide +kernel
theorem d_T_faultOf_9 : decode b_T_faultOf 9 = .ok (.iconst 1, 1) := by decide +kernel
theorem d_T_faultOf_10 : decode b_T_faultOf 10 = .ok (.ireturn, 1) := by decide +kernel
theorem d_T_faultOf_11 : decode b_T_faultOf 11 = .ok (.aload_n 0, 1) := by decide +kernel
theorem d_T_faultOf_12 : decode b_T_faultOf 12 = .ok (.iload_n 1, 1) := by decide +kernel
theorem d_T_faultOf_13 : decode b_T_faultOf 13 = .ok (.iload_n 2, 1) := by decide +kernel
theorem d_T_faultOf_14 : decode b_T_faultOf 14 = .ok (.invokevirtual 115, 3) := by decide +kernel
theorem d_T_faultOf_17 : decode b_T_faultOf 17 = .ok (.ifCond .eq 7, 3) := by decide +kernel
theorem d_T_faultOf_20 : decode b_T_faultOf 20 = .ok (.iconst 2, 1) := by decide +kernel
theorem d_T_faultOf_21 : decode b_T_faultOf 21 = .ok (.goto 4, 3) := by decide +kernel
theorem d_T_faultOf_24 : decode b_T_faultOf 24 = .ok (.iconst 0, 1) := by decide +kernel
theorem d_T_faultOf_25 : decode b_T_faultOf 25 = .ok (.ireturn, 1) := by decide +kernel
theorem cc_T_111 : CS "KiteLogger$Station" 111 y_T_hasBadNumber b_T_hasBadNumber 3 (some .boolean) 3 := ⟨TT_in (i := 1105) (by decide +kernel) (by decide +kernel), TT_in (i := 1106) (by decide +kernel) (by decide +kernel), TT_in (i := 94) (by decide +kernel) (by decide +kernel), TT_in (i := 1107) (by decide +kernel) (by decide +kernel), ⟨by decide +kernel, by decide +kernel, by decide +kernel⟩⟩
theorem cc_T_115 : CV "KiteLogger$Station" 115 y_T_isForbidden b_T_isForbidden 3 (some .boolean) 2 := ⟨TT_in (i := 1109) (by decide +kernel) (by decide +kernel), TT_in (i := 1111) (by decide +kernel) (by decide +kernel), TT_in (i := 13) (by decide +kernel) (by decide +kernel), TT_in (i := 94) (by decide +kernel) (by decide +kernel), TT_in (i := 1112) (by decide +kernel) (by decide +kernel), ⟨by decide +kernel, by decide +kernel, by decide +kernel⟩⟩
def f_T_faultOf (p : Nat) (a1 : Int32) (a2 : Int32) (a3 : Int32) (M : Mem) : Option (Int32 × Mem) :=
  bnd (f_T_hasBadNumber a1 a2 a3 M) fun (x1 : Bool) (M2 : Mem) => if x1 = true then (some ((1 : Int32), M2)) else (bnd (f_T_isForbidden p a1 a2 M2) fun (x3 : Bool) (M4 : Mem) => if x3 = true then (some ((2 : Int32), M4)) else (some ((0 : Int32), M4)))
set_option maxHeartbeats 4000000 in
set_option maxRecDepth 100000 in
theorem c_T_faultOf (l : Launch) {w : Wc} {rr : Nat} (hw : WK w rr) (p : Nat) (hp : p ∈ stL) (a1 : Int32) (a2 : Int32) (a3 : Int32) (M : Mem) : Ct QI l y_T_faultOf b_T_faultOf 4 (some .int) (rmL 4) w [.ref (wad w p), .int a1, .int a2, .int a3] M (f_T_faultOf p a1 a2 a3 M) := by
  refine Ct.go (by decide) (L := [(0, .ref (wad w p)), (1, .int a1), (2, .int a2), (3, .int a3)]) rfl (Nat.le_of_ble_eq_true rfl) (fun p0 e s m args below meth c g hret => ?_)
  unfold f_T_faultOf
  refine G_iload_n g (pc := 0) 1 d_T_faultOf_0 rfl rfl ?_
  refine G_iload_n g (pc := 1) 2 d_T_faultOf_1 rfl rfl ?_
  refine G_iload_n g (pc := 2) 3 d_T_faultOf_2 rfl rfl ?_
  refine G_cSZ g (pc := 3) (As := [.int a1, .int a2, .int a3]) (st := []) cc_T_111 (c_T_hasBadNumber l hw a1 a2 a3 M) rfl ⟨(Nat.le_of_ble_eq_true rfl), (Nat.le_of_ble_eq_true rfl)⟩ ⟨(Nat.le_of_ble_eq_true rfl), (Nat.le_of_ble_eq_true rfl)⟩ (Nat.le_of_ble_eq_true rfl) d_T_faultOf_3 (fun x1 M2 => ?_)
  refine G_if_eqB g (pc := 6) 11 d_T_faultOf_6 (by decide) ?_ ?_
  · refine G_iconst g (pc := 9) (1 : Int32) d_T_faultOf_9 rfl ?_
    exact G_ireturn g (pc := 10) hret (Nat.le_of_ble_eq_true rfl) (Nat.le_of_ble_eq_true rfl) d_T_faultOf_10
  · refine G_aload_n g (pc := 11) 0 d_T_faultOf_11 rfl rfl ?_
    refine G_iload_n g (pc := 12) 1 d_T_faultOf_12 rfl rfl ?_
    refine G_iload_n g (pc := 13) 2 d_T_faultOf_13 rfl rfl ?_
    refine G_cVZ g (pc := 14) (As := [.int a1, .int a2]) (st := []) cc_T_115 (c_T_isForbidden l hw p hp a1 a2 M2) (hw.m _ (st_lt0 hp)) (hw.k (st_k0 hp)) rfl (by decide) rfl ⟨(Nat.le_of_ble_eq_true rfl), (Nat.le_of_ble_eq_true rfl)⟩ ⟨(Nat.le_of_ble_eq_true rfl), (Nat.le_of_ble_eq_true rfl)⟩ (Nat.le_of_ble_eq_true rfl) d_T_faultOf_14 (fun x3 M4 => ?_)
    refine G_if_eqB g (pc := 17) 24 d_T_faultOf_17 (by decide) ?_ ?_
    · refine G_iconst g (pc := 20) (2 : Int32) d_T_faultOf_20 rfl ?_
      refine G_goto g (pc := 21) 25 d_T_faultOf_21 (by decide) ?_
      exact G_ireturn g (pc := 25) hret (Nat.le_of_ble_eq_true rfl) (Nat.le_of_ble_eq_true rfl) d_T_faultOf_25
    · refine G_iconst g (pc := 24) (0 : Int32) d_T_faultOf_24 rfl ?_
      exact G_ireturn g (pc := 25) hret (Nat.le_of_ble_eq_true rfl) (Nat.le_of_ble_eq_true rfl) d_T_faultOf_25

theorem d_T_changeInterval_0 : decode b_T_changeInterval 0 = .ok (.aload_n 0, 1) := by decide +kernel
theorem d_T_changeInterval_1 : decode b_T_changeInterval 1 = .ok (.getfield 45, 3) := by decide +kernel
theorem d_T_changeInterval_4 : decode b_T_changeInterval 4 = .ok (.istore_n 2, 1) := by decide +kernel
theorem d_T_changeInterval_5 : decode b_T_changeInterval 5 = .ok (.aload_n 0, 1) := by decide +kernel
theorem d_T_changeInterval_6 : decode b_T_changeInterval 6 = .ok (.iload_n 1, 1) := by decide +kernel
theorem d_T_changeInterval_7 : decode b_T_changeInterval 7 = .ok (.putfield 45, 3) := by decide +kernel
theorem d_T_changeInterval_10 : decode b_T_changeInterval 10 = .ok (.iload_n 2, 1) := by decide +kernel
theorem d_T_changeInterval_11 : decode b_T_changeInterval 11 = .ok (.ireturn, 1) := by decide +kernel
def f_T_changeInterval (p : Nat) (a1 : Int32) (M : Mem) : Option (Int32 × Mem) :=
  nm (M p 6) fun (x1 : Int32) => nm (put M p 6 a1) fun (M2 : Mem) => some (x1, M2)
set_option maxHeartbeats 4000000 in
set_option maxRecDepth 100000 in
theorem c_T_changeInterval (l : Launch) {w : Wc} {rr : Nat} (hw : WK w rr) (p : Nat) (hp : p ∈ stL) (a1 : Int32) (M : Mem) : Ct QI l y_T_changeInterval b_T_changeInterval 3 (some .int) (rmL 0) w [.ref (wad w p), .int a1] M (f_T_changeInterval p a1 M) := by
  refine Ct.go (by decide) (L := [(0, .ref (wad w p)), (1, .int a1)]) rfl (Nat.le_of_ble_eq_true rfl) (fun p0 e s m args below meth c g hret => ?_)
  unfold f_T_changeInterval
  refine G_aload_n g (pc := 0) 0 d_T_changeInterval_0 rfl rfl ?_
  refine G_get g (pc := 1) fa_T_45 (hw.m _ (st_lt0 hp)) (hw.k (st_k0 hp)) d_T_changeInterval_1 ?_
  refine G_nmI (fun x1 => ?_)
  refine G_istore_n g (pc := 4) _ d_T_changeInterval_4 rfl (Nat.le_of_ble_eq_true rfl) rfl ?_
  refine G_aload_n g (pc := 5) 1 d_T_changeInterval_5 rfl rfl ?_
  refine G_iload_n g (pc := 6) 2 d_T_changeInterval_6 rfl rfl ?_
  refine G_put g (pc := 7) fa_T_45 fw_5_6 rfl rfl (hw.m _ (st_lt0 hp)) (hw.k (st_k0 hp)) d_T_changeInterval_7 ?_
  refine G_nmM (fun M2 => ?_)
  refine G_iload_n g (pc := 10) 0 d_T_changeInterval_10 rfl rfl ?_
  exact G_ireturn g (pc := 11) hret (Nat.le_of_ble_eq_true rfl) (Nat.le_of_ble_eq_true rfl) d_T_changeInterval_11

theorem d_T_moveSamples_0 : decode b_T_moveSamples 0 = .ok (.aload_n 0, 1) := by decide +kernel
theorem d_T_moveSamples_1 : decode b_T_moveSamples 1 = .ok (.getfield 38, 3) := by decide +kernel
theorem d_T_moveSamples_4 : decode b_T_moveSamples 4 = .ok (.getfield 126, 3) := by decide +kernel
theorem d_T_moveSamples_7 : decode b_T_moveSamples 7 = .ok (.istore_n 1, 1) := by decide +kernel
theorem d_T_moveSamples_8 : decode b_T_moveSamples 8 = .ok (.iconst 0, 1) := by decide +kernel
theorem d_T_moveSamples_9 : decode b_T_moveSamples 9 = .ok (.istore_n 2, 1) := by decide +kernel
theorem d_T_moveSamples_10 : decode b_T_moveSamples 10 = .ok (.iload_n 2, 1) := by decide +kernel
theorem d_T_moveSamples_11 : decode b_T_moveSamples 11 = .ok (.iload_n 1, 1) := by decide +kernel
theorem d_T_moveSamples_12 : decode b_T_moveSamples 12 = .ok (.if_icmp .ge 40, 3) := by decide +kernel
theorem d_T_moveSamples_15 : decode b_T_moveSamples 15 = .ok (.aload_n 0, 1) := by decide +kernel
theorem d_T_moveSamples_16 : decode b_T_moveSamples 16 = .ok (.getfield 42, 3) := by decide +kernel
theorem d_T_moveSamples_19 : decode b_T_moveSamples 19 = .ok (.aload_n 0, 1) := by decide +kernel
theorem d_T_moveSamples_20 : decode b_T_moveSamples 20 = .ok (.getfield 38, 3) := by decide +kernel
theorem d_T_moveSamples_23 : decode b_T_moveSamples 23 = .ok (.iload_n 2, 1) := by decide +kernel
theorem d_T_moveSamples_24 : decode b_T_moveSamples 24 = .ok (.invokevirtual 153, 3) := by decide +kernel
theorem d_T_moveSamples_27 : decode b_T_moveSamples 27 = .ok (.aload_n 0, 1) := by decide +kernel
theorem d_T_moveSamples_28 : decode b_T_moveSamples 28 = .ok (.getfield 38, 3) := by decide +kernel
theorem d_T_moveSamples_31 : decode b_T_moveSamples 31 = .ok (.iload_n 2, 1) := by decide +kernel
theorem d_T_moveSamples_32 : decode b_T_moveSamples 32 = .ok (.invokevirtual 156, 3) := by decide +kernel
theorem d_T_moveSamples_35 : decode b_T_moveSamples 35 = .ok (.aload_n 0, 1) := by decide +kernel
theorem d_T_moveSamples_36 : decode b_T_moveSamples 36 = .ok (.getfield 38, 3) := by decide +kernel
theorem d_T_moveSamples_39 : decode b_T_moveSamples 39 = .ok (.iload_n 2, 1) := by decide +kernel
theorem d_T_moveSamples_40 : decode b_T_moveSamples 40 = .ok (.invokevirtual 159, 3) := by decide +kernel
theorem d_T_moveSamples_43 : decode b_T_moveSamples 43 = .ok (.invokevirtual 162, 3) := by decide +kernel
theorem d_T_moveSamples_46 : decode b_T_moveSamples 46 = .ok (.iinc 2 1, 3) := by decide +kernel
theorem d_T_moveSamples_49 : decode b_T_moveSamples 49 = .ok (.goto (-39), 3) := by decide +kernel
theorem d_T_moveSamples_52 : decode b_T_moveSamples 52 = .ok (.aload_n 0, 1) := by decide +kernel
theorem d_T_moveSamples_53 : decode b_T_moveSamples 53 = .ok (.getfield 38, 3) := by decide +kernel
theorem d_T_moveSamples_56 : decode b_T_moveSamples 56 = .ok (.invokevirtual 165, 3) := by decide +kernel
theorem d_T_moveSamples_59 : decode b_T_moveSamples 59 = .ok (.iload_n 1, 1) := by decide +kernel
theorem d_T_moveSamples_60 : decode b_T_moveSamples 60 = .ok (.ireturn, 1) := by decide +kernel
theorem cc_T_153 : CV "KiteLogger$Station" 153 y_S_tickAt b_S_tickAt 2 (some .int) 1 := ⟨TT_in (i := 1173) (by decide +kernel) (by decide +kernel), TT_in (i := 653) (by decide +kernel) (by decide +kernel), TT_in (i := 654) (by decide +kernel) (by decide +kernel), TT_in (i := 97) (by decide +kernel) (by decide +kernel), TT_in (i := 655) (by decide +kernel) (by decide +kernel), ⟨by decide +kernel, by decide +kernel, by decide +kernel⟩⟩
theorem cc_T_156 : CV "KiteLogger$Station" 156 y_S_heightAt b_S_heightAt 2 (some .int) 1 := ⟨TT_in (i := 1174) (by decide +kernel) (by decide +kernel), TT_in (i := 625) (by decide +kernel) (by decide +kernel), TT_in (i := 626) (by decide +kernel) (by decide +kernel), TT_in (i := 97) (by decide +kernel) (by decide +kernel), TT_in (i := 627) (by decide +kernel) (by decide +kernel), ⟨by decide +kernel, by decide +kernel, by decide +kernel⟩⟩
theorem cc_T_159 : CV "KiteLogger$Station" 159 y_S_gustAt b_S_gustAt 2 (some .int) 1 := ⟨TT_in (i := 1175) (by decide +kernel) (by decide +kernel), TT_in (i := 748) (by decide +kernel) (by decide +kernel), TT_in (i := 749) (by decide +kernel) (by decide +kernel), TT_in (i := 97) (by decide +kernel) (by decide +kernel), TT_in (i := 750) (by decide +kernel) (by decide +kernel), ⟨by decide +kernel, by decide +kernel, by decide +kernel⟩⟩
theorem cc_T_162 : CV "KiteLogger$Station" 162 y_S_add b_S_add 5 none 3 := ⟨TT_in (i := 1176) (by decide +kernel) (by decide +kernel), TT_in (i := 1177) (by decide +kernel) (by decide +kernel), TT_in (i := 1178) (by decide +kernel) (by decide +kernel), TT_in (i := 97) (by decide +kernel) (by decide +kernel), TT_in (i := 1179) (by decide +kernel) (by decide +kernel), ⟨by decide +kernel, by decide +kernel, by decide +kernel⟩⟩
theorem cc_T_165 : CV "KiteLogger$Station" 165 y_S_empty b_S_empty 1 none 0 := ⟨TT_in (i := 1181) (by decide +kernel) (by decide +kernel), TT_in (i := 445) (by decide +kernel) (by decide +kernel), TT_in (i := 446) (by decide +kernel) (by decide +kernel), TT_in (i := 97) (by decide +kernel) (by decide +kernel), TT_in (i := 447) (by decide +kernel) (by decide +kernel), ⟨by decide +kernel, by decide +kernel, by decide +kernel⟩⟩
def lp_T_moveSamples_10 (N0 rr : Nat) (p : Nat) (c1 : Int32) : Nat → Int32 → Mem → (Int32 → Mem → Option (Int32 × Mem)) → Option (Int32 × Mem)
  | 0, _, _, _ => none
  | N + 1, a, M, k => if a < c1 then (bnd (f_S_tickAt (p + 5) a M) fun (x2 : Int32) (M3 : Mem) => bnd (f_S_heightAt (p + 5) a M3) fun (x4 : Int32) (M5 : Mem) => bnd (f_S_gustAt (p + 5) a M5) fun (x6 : Int32) (M7 : Mem) => bndM (f_S_add (p + 9) x2 x4 x6 M7) fun (M9 : Mem) => nm (a + (1 : Int32)) fun (x10 : Int32) => lp_T_moveSamples_10 N0 rr p c1 N x10 M9 k) else (k a M)
def f_T_moveSamples (N : Nat) (rr : Nat) (p : Nat) (M : Mem) : Option (Int32 × Mem) :=
  nm (M (p + 5) 5) fun (x1 : Int32) => lp_T_moveSamples_10 N rr p x1 N (0 : Int32) M (fun (a12 : Int32) (M11 : Mem) => bndM (f_S_empty (p + 5) M11) fun (M14 : Mem) => some (x1, M14))
set_option maxHeartbeats 4000000 in
set_option maxRecDepth 100000 in
theorem c_T_moveSamples (l : Launch) (N : Nat) {w : Wc} {rr : Nat} (hw : WK w rr) (p : Nat) (hp : p ∈ stL) (M : Mem) : Ct QI l y_T_moveSamples b_T_moveSamples 3 (some .int) (rmL 2) w [.ref (wad w p)] M (f_T_moveSamples N rr p M) := by
  refine Ct.go (by decide) (L := [(0, .ref (wad w p))]) rfl (Nat.le_of_ble_eq_true rfl) (fun p0 e s m args below meth c g hret => ?_)
  unfold f_T_moveSamples
  refine G_aload_n g (pc := 0) 0 d_T_moveSamples_0 rfl rfl ?_
  refine G_getR g (pc := 1) fa_T_38 (hw.m _ (st_lt0 hp)) (hw.k (st_k0 hp)) (hw.r (st_r0_4 hp rr)) d_T_moveSamples_1 ?_
  refine G_getN g (pc := 4) fa_T_126 (hw.m _ (st_lt5 hp)) (hw.k (st_k5 hp)) d_T_moveSamples_4 ?_
  refine G_nmI (fun x1 => ?_)
  refine G_istore_n g (pc := 7) _ d_T_moveSamples_7 rfl (Nat.le_of_ble_eq_true rfl) rfl ?_
  refine G_iconst g (pc := 8) (0 : Int32) d_T_moveSamples_8 rfl ?_
  refine G_istore_n g (pc := 9) _ d_T_moveSamples_9 rfl (Nat.le_of_ble_eq_true rfl) rfl ?_
  refine G_sub [2, 1, 0] _ rfl ?_
  refine G_loop (F := lp_T_moveSamples_10 N rr p x1) 10 52 (fun (a : Int32) => [(0, .ref (wad w p)), (1, .int x1), (2, .int a)]) (fun (a : Int32) => [(0, .ref (wad w p)), (1, .int x1), (2, .int a)]) (fun _ _ _ => rfl) (fun a12 M11 => ?_) (fun k hk Nl ih a M => ?_) N (0 : Int32) M
  · refine G_aload_n g (pc := 52) 0 d_T_moveSamples_52 rfl rfl ?_
    refine G_getR g (pc := 53) fa_T_38 (hw.m _ (st_lt0 hp)) (hw.k (st_k0 hp)) (hw.r (st_r0_4 hp rr)) d_T_moveSamples_53 ?_
    refine G_cVV g (pc := 56) (As := []) (st := []) cc_T_165 (c_S_empty l hw (p + 5) (st_in5 hp) M11) (hw.m _ (st_lt5 hp)) (hw.k (st_k5 hp)) rfl (by decide) rfl ⟨(Nat.le_of_ble_eq_true rfl), (Nat.le_of_ble_eq_true rfl)⟩ ⟨(Nat.le_of_ble_eq_true rfl), (Nat.le_of_ble_eq_true rfl)⟩ (Nat.le_of_ble_eq_true rfl) d_T_moveSamples_56 (fun M14 => ?_)
    refine G_iload_n g (pc := 59) 1 d_T_moveSamples_59 rfl rfl ?_
    exact G_ireturn g (pc := 60) hret (Nat.le_of_ble_eq_true rfl) (Nat.le_of_ble_eq_true rfl) d_T_moveSamples_60
  · show Go p0 l e _ s m args below meth c w _ _ _ _ (lp_T_moveSamples_10 N rr p x1 (Nl + 1) a M k) 10 _ _ M
    unfold lp_T_moveSamples_10
    refine G_iload_n g (pc := 10) 2 d_T_moveSamples_10 rfl rfl ?_
    refine G_iload_n g (pc := 11) 1 d_T_moveSamples_11 rfl rfl ?_
    refine G_icmp_ge g (pc := 12) 52 d_T_moveSamples_12 (by decide) ?_ ?_
    · refine G_aload_n g (pc := 15) 0 d_T_moveSamples_15 rfl rfl ?_
      refine G_getR g (pc := 16) fa_T_42 (hw.m _ (st_lt0 hp)) (hw.k (st_k0 hp)) (hw.r (st_r0_5 hp rr)) d_T_moveSamples_16 ?_
      refine G_aload_n g (pc := 19) 0 d_T_moveSamples_19 rfl rfl ?_
      refine G_getR g (pc := 20) fa_T_38 (hw.m _ (st_lt0 hp)) (hw.k (st_k0 hp)) (hw.r (st_r0_4 hp rr)) d_T_moveSamples_20 ?_
      refine G_iload_n g (pc := 23) 2 d_T_moveSamples_23 rfl rfl ?_
      refine G_cVI g (pc := 24) (As := [.int a]) (st := [.ref (wad w (p + 9))]) cc_T_153 (c_S_tickAt l hw (p + 5) (st_in5 hp) a M) (hw.m _ (st_lt5 hp)) (hw.k (st_k5 hp)) rfl (by decide) rfl ⟨(Nat.le_of_ble_eq_true rfl), (Nat.le_of_ble_eq_true rfl)⟩ ⟨(Nat.le_of_ble_eq_true rfl), (Nat.le_of_ble_eq_true rfl)⟩ (Nat.le_of_ble_eq_true rfl) d_T_moveSamples_24 (fun x2 M3 => ?_)
      refine G_aload_n g (pc := 27) 0 d_T_moveSamples_27 rfl rfl ?_
      refine G_getR g (pc := 28) fa_T_38 (hw.m _ (st_lt0 hp)) (hw.k (st_k0 hp)) (hw.r (st_r0_4 hp rr)) d_T_moveSamples_28 ?_
      refine G_iload_n g (pc := 31) 2 d_T_moveSamples_31 rfl rfl ?_
      refine G_cVI g (pc := 32) (As := [.int a]) (st := [.int x2, .ref (wad w (p + 9))]) cc_T_156 (c_S_heightAt l hw (p + 5) (st_in5 hp) a M3) (hw.m _ (st_lt5 hp)) (hw.k (st_k5 hp)) rfl (by decide) rfl ⟨(Nat.le_of_ble_eq_true rfl), (Nat.le_of_ble_eq_true rfl)⟩ ⟨(Nat.le_of_ble_eq_true rfl), (Nat.le_of_ble_eq_true rfl)⟩ (Nat.le_of_ble_eq_true rfl) d_T_moveSamples_32 (fun x4 M5 => ?_)
      refine G_aload_n g (pc := 35) 0 d_T_moveSamples_35 rfl rfl ?_
      refine G_getR g (pc := 36) fa_T_38 (hw.m _ (st_lt0 hp)) (hw.k (st_k0 hp)) (hw.r (st_r0_4 hp rr)) d_T_moveSamples_36 ?_
      refine G_iload_n g (pc := 39) 2 d_T_moveSamples_39 rfl rfl ?_
      refine G_cVI g (pc := 40) (As := [.int a]) (st := [.int x4, .int x2, .ref (wad w (p + 9))]) cc_T_159 (c_S_gustAt l hw (p + 5) (st_in5 hp) a M5) (hw.m _ (st_lt5 hp)) (hw.k (st_k5 hp)) rfl (by decide) rfl ⟨(Nat.le_of_ble_eq_true rfl), (Nat.le_of_ble_eq_true rfl)⟩ ⟨(Nat.le_of_ble_eq_true rfl), (Nat.le_of_ble_eq_true rfl)⟩ (Nat.le_of_ble_eq_true rfl) d_T_moveSamples_40 (fun x6 M7 => ?_)
      refine G_cVV g (pc := 43) (As := [.int x2, .int x4, .int x6]) (st := []) cc_T_162 (c_S_add l hw (p + 9) (st_in9 hp) x2 x4 x6 M7) (hw.m _ (st_lt9 hp)) (hw.k (st_k9 hp)) rfl (by decide) rfl ⟨(Nat.le_of_ble_eq_true rfl), (Nat.le_of_ble_eq_true rfl)⟩ ⟨(Nat.le_of_ble_eq_true rfl), (Nat.le_of_ble_eq_true rfl)⟩ (Nat.le_of_ble_eq_true rfl) d_T_moveSamples_43 (fun M9 => ?_)
      refine G_nmX (a + (1 : Int32)) (fun x10 e_x10 => ?_)
      refine G_iinc g (pc := 46) x10 _ 2 d_T_moveSamples_46 rfl e_x10.symm (Nat.le_of_ble_eq_true rfl) rfl ?_
      refine G_goto g (pc := 49) 10 d_T_moveSamples_49 (by decide) ?_
      refine G_sub [1, 2, 0] _ rfl ?_
      exact ih x10 M9
    · refine G_sub [0, 1, 2] _ rfl ?_
      exact hk a M

theorem d_T_passOne_0 : decode b_T_passOne 0 = .ok (.aload_n 0, 1) := by decide +kernel
theorem d_T_passOne_1 : decode b_T_passOne 1 = .ok (.aload_n 0, 1) := by decide +kernel
theorem d_T_passOne_2 : decode b_T_passOne 2 = .ok (.getfield 48, 3) := by decide +kernel
theorem d_T_passOne_5 : decode b_T_passOne 5 = .ok (.invokevirtual 107, 3) := by decide +kernel
theorem d_T_passOne_8 : decode b_T_passOne 8 = .ok (.istore_n 1, 1) := by decide +kernel
theorem d_T_passOne_9 : decode b_T_passOne 9 = .ok (.aload_n 0, 1) := by decide +kernel
theorem d_T_passOne_10 : decode b_T_passOne 10 = .ok (.getfield 12, 3) := by decide +kernel
theorem d_T_passOne_13 : decode b_T_passOne 13 = .ok (.getfield 101, 3) := by decide +kernel
theorem d_T_passOne_16 : decode b_T_passOne 16 = .ok (.iconst 1, 1) := by decide +kernel
theorem d_T_passOne_17 : decode b_T_passOne 17 = .ok (.if_icmp .ne 18, 3) := by decide +kernel
theorem d_T_passOne_20 : decode b_T_passOne 20 = .ok (.aload_n 0, 1) := by decide +kernel
theorem d_T_passOne_21 : decode b_T_passOne 21 = .ok (.getfield 29, 3) := by decide +kernel
theorem d_T_passOne_24 : decode b_T_passOne 24 = .ok (.aload_n 0, 1) := by decide +kernel
theorem d_T_passOne_25 : decode b_T_passOne 25 = .ok (.getfield 12, 3) := by decide +kernel
theorem d_T_passOne_28 : decode b_T_passOne 28 = .ok (.iload_n 1, 1) := by decide +kernel
theorem d_T_passOne_29 : decode b_T_passOne 29 = .ok (.invokevirtual 169, 3) := by decide +kernel
theorem d_T_passOne_32 : decode b_T_passOne 32 = .ok (.invokevirtual 172, 3) := by decide +kernel
theorem d_T_passOne_35 : decode b_T_passOne 35 = .ok (.aload_n 0, 1) := by decide +kernel
theorem d_T_passOne_36 : decode b_T_passOne 36 = .ok (.getfield 12, 3) := by decide +kernel
theorem d_T_passOne_39 : decode b_T_passOne 39 = .ok (.iload_n 1, 1) := by decide +kernel
theorem d_T_passOne_40 : decode b_T_passOne 40 = .ok (.invokevirtual 174, 3) := by decide +kernel
theorem d_T_passOne_43 : decode b_T_passOne 43 = .ok (.aload_n 0, 1) := by decide +kernel
theorem d_T_passOne_44 : decode b_T_passOne 44 = .ok (.getfield 12, 3) := by decide +kernel
theorem d_T_passOne_47 : decode b_T_passOne 47 = .ok (.getfield 101, 3) := by decide +kernel
theorem d_T_passOne_50 : decode b_T_passOne 50 = .ok (.iconst 1, 1) := by decide +kernel
theorem d_T_passOne_51 : decode b_T_passOne 51 = .ok (.if_icmp .ne 60, 3) := by decide +kernel
theorem d_T_passOne_54 : decode b_T_passOne 54 = .ok (.aload_n 0, 1) := by decide +kernel
theorem d_T_passOne_55 : decode b_T_passOne 55 = .ok (.getfield 45, 3) := by decide +kernel
theorem d_T_passOne_58 : decode b_T_passOne 58 = .ok (.ifCond .le 53, 3) := by decide +kernel
theorem d_T_passOne_61 : decode b_T_passOne 61 = .ok (.aload_n 0, 1) := by decide +kernel
theorem d_T_passOne_62 : decode b_T_passOne 62 = .ok (.getfield 12, 3) := by decide +kernel
theorem d_T_passOne_65 : decode b_T_passOne 65 = .ok (.getfield 177, 3) := by decide +kernel
theorem d_T_passOne_68 : decode b_T_passOne 68 = .ok (.aload_n 0, 1) := by decide +kernel
theorem d_T_passOne_69 : decode b_T_passOne 69 = .ok (.getfield 45, 3) := by decide +kernel
theorem d_T_passOne_72 : decode b_T_passOne 72 = .ok (.irem, 1) := by decide +kernel
theorem d_T_passOne_73 : decode b_T_passOne 73 = .ok (.ifCond .ne 38, 3) := by decide +kernel
theorem d_T_passOne_76 : decode b_T_passOne 76 = .ok (.aload_n 0, 1) := by decide +kernel
theorem d_T_passOne_77 : decode b_T_passOne 77 = .ok (.getfield 38, 3) := by decide +kernel
theorem d_T_passOne_80 : decode b_T_passOne 80 = .ok (.aload_n 0, 1) := by decide +kernel
theorem d_T_passOne_81 : decode b_T_passOne 81 = .ok (.getfield 48, 3) := by decide +kernel
theorem d_T_passOne_84 : decode b_T_passOne 84 = .ok (.aload_n 0, 1) := by decide +kernel
theorem d_T_passOne_85 : decode b_T_passOne 85 = .ok (.getfield 12, 3) := by decide +kernel
theorem d_T_passOne_88 : decode b_T_passOne 88 = .ok (.getfield 180, 3) := by decide +kernel
theorem d_T_passOne_91 : decode b_T_passOne 91 = .ok (.aload_n 0, 1) := by decide +kernel
theorem d_T_passOne_92 : decode b_T_passOne 92 = .ok (.getfield 29, 3) := by decide +kernel
theorem d_T_passOne_95 : decode b_T_passOne 95 = .ok (.invokevirtual 183, 3) := by decide +kernel
theorem d_T_passOne_98 : decode b_T_passOne 98 = .ok (.invokevirtual 162, 3) := by decide +kernel
theorem d_T_passOne_101 : decode b_T_passOne 101 = .ok (.aload_n 0, 1) := by decide +kernel
theorem d_T_passOne_102 : decode b_T_passOne 102 = .ok (.dup, 1) := by decide +kernel
theorem d_T_passOne_103 : decode b_T_passOne 103 = .ok (.getfield 51, 3) := by decide +kernel
theorem d_T_passOne_106 : decode b_T_passOne 106 = .ok (.iconst 1, 1) := by decide +kernel
theorem d_T_passOne_107 : decode b_T_passOne 107 = .ok (.iadd, 1) := by decide +kernel
theorem d_T_passOne_108 : decode b_T_passOne 108 = .ok (.putfield 51, 3) := by decide +kernel
theorem d_T_passOne_111 : decode b_T_passOne 111 = .ok (.aload_n 0, 1) := by decide +kernel
theorem d_T_passOne_112 : decode b_T_passOne 112 = .ok (.dup, 1) := by decide +kernel
theorem d_T_passOne_113 : decode b_T_passOne 113 = .ok (.getfield 48, 3) := by decide +kernel
theorem d_T_passOne_116 : decode b_T_passOne 116 = .ok (.iconst 1, 1) := by decide +kernel
theorem d_T_passOne_117 : decode b_T_passOne 117 = .ok (.iadd, 1) := by decide +kernel
theorem d_T_passOne_118 : decode b_T_passOne 118 = .ok (.putfield 48, 3) := by decide +kernel
theorem d_T_passOne_121 : decode b_T_passOne 121 = .ok (.return_, 1) := by decide +kernel
theorem cc_T_169 : CV "KiteLogger$Station" 169 y_K_windOver b_K_windOver 2 (some .int) 1 := ⟨TT_in (i := 1190) (by decide +kernel) (by decide +kernel), TT_in (i := 698) (by decide +kernel) (by decide +kernel), TT_in (i := 699) (by decide +kernel) (by decide +kernel), TT_in (i := 95) (by decide +kernel) (by decide +kernel), TT_in (i := 700) (by decide +kernel) (by decide +kernel), ⟨by decide +kernel, by decide +kernel, by decide +kernel⟩⟩
theorem cc_T_172 : CV "KiteLogger$Station" 172 y_B_add b_B_add 2 none 1 := ⟨TT_in (i := 1191) (by decide +kernel) (by decide +kernel), TT_in (i := 1192) (by decide +kernel) (by decide +kernel), TT_in (i := 1193) (by decide +kernel) (by decide +kernel), TT_in (i := 96) (by decide +kernel) (by decide +kernel), TT_in (i := 1194) (by decide +kernel) (by decide +kernel), ⟨by decide +kernel, by decide +kernel, by decide +kernel⟩⟩
theorem cc_T_174 : CV "KiteLogger$Station" 174 y_K_passTick b_K_passTick 2 none 1 := ⟨TT_in (i := 1196) (by decide +kernel) (by decide +kernel), TT_in (i := 694) (by decide +kernel) (by decide +kernel), TT_in (i := 695) (by decide +kernel) (by decide +kernel), TT_in (i := 95) (by decide +kernel) (by decide +kernel), TT_in (i := 696) (by decide +kernel) (by decide +kernel), ⟨by decide +kernel, by decide +kernel, by decide +kernel⟩⟩
theorem cc_T_183 : CV "KiteLogger$Station" 183 y_B_greatest b_B_greatest 3 (some .int) 0 := ⟨TT_in (i := 1197) (by decide +kernel) (by decide +kernel), TT_in (i := 528) (by decide +kernel) (by decide +kernel), TT_in (i := 529) (by decide +kernel) (by decide +kernel), TT_in (i := 96) (by decide +kernel) (by decide +kernel), TT_in (i := 530) (by decide +kernel) (by decide +kernel), ⟨by decide +kernel, by decide +kernel, by decide +kernel⟩⟩
def f_T_passOne (N : Nat) (rr : Nat) (p : Nat) (M : Mem) : Option (Mem) :=
  bnd (f_T_gustOf p (M p 7) M) fun (x1 : Int32) (M2 : Mem) => if (M2 (p + 1) 0) = (1 : Int32) then (bnd (f_K_windOver (p + 1) x1 M2) fun (x3 : Int32) (M4 : Mem) => bndM (f_B_add (p + 3) x3 M4) fun (M6 : Mem) => bndM (f_K_passTick (p + 1) x1 M6) fun (M8 : Mem) => if (M8 (p + 1) 0) = (1 : Int32) then (if 0 < (M8 p 6) then (grd (nzB (M8 p 6)) (if (irm (M8 (p + 1) 9) (M8 p 6)) = 0 then (bnd (f_B_greatest N rr (p + 3) M8) fun (x9 : Int32) (M10 : Mem) => bndM (f_S_add (p + 5) (M8 p 7) (M8 (p + 1) 1) x9 M10) fun (M12 : Mem) => nm (put M12 p 8 ((M12 p 8) + (1 : Int32))) fun (M13 : Mem) => nm (put M13 p 7 ((M13 p 7) + (1 : Int32))) fun (M14 : Mem) => some M14) else (nm (put M8 p 7 ((M8 p 7) + (1 : Int32))) fun (M15 : Mem) => some M15))) else (nm (put M8 p 7 ((M8 p 7) + (1 : Int32))) fun (M16 : Mem) => some M16)) else (nm (put M8 p 7 ((M8 p 7) + (1 : Int32))) fun (M17 : Mem) => some M17)) else (bndM (f_K_passTick (p + 1) x1 M2) fun (M19 : Mem) => if (M19 (p + 1) 0) = (1 : Int32) then (if 0 < (M19 p 6) then (grd (nzB (M19 p 6)) (if (irm (M19 (p + 1) 9) (M19 p 6)) = 0 then (bnd (f_B_greatest N rr (p + 3) M19) fun (x20 : Int32) (M21 : Mem) => bndM (f_S_add (p + 5) (M19 p 7) (M19 (p + 1) 1) x20 M21) fun (M23 : Mem) => nm (put M23 p 8 ((M23 p 8) + (1 : Int32))) fun (M24 : Mem) => nm (put M24 p 7 ((M24 p 7) + (1 : Int32))) fun (M25 : Mem) => some M25) else (nm (put M19 p 7 ((M19 p 7) + (1 : Int32))) fun (M26 : Mem) => some M26))) else (nm (put M19 p 7 ((M19 p 7) + (1 : Int32))) fun (M27 : Mem) => some M27)) else (nm (put M19 p 7 ((M19 p 7) + (1 : Int32))) fun (M28 : Mem) => some M28))
set_option maxHeartbeats 4000000 in
set_option maxRecDepth 100000 in
theorem c_T_passOne (l : Launch) (N : Nat) {w : Wc} {rr : Nat} (hw : WK w rr) (p : Nat) (hp : p ∈ stL) (M : Mem) : Ct QV l y_T_passOne b_T_passOne 2 none (rmL 3) w [.ref (wad w p)] M (f_T_passOne N rr p M) := by
  refine Ct.go (by decide) (L := [(0, .ref (wad w p))]) rfl (Nat.le_of_ble_eq_true rfl) (fun p0 e s m args below meth c g hret => ?_)
  unfold f_T_passOne
  refine G_aload_n g (pc := 0) 0 d_T_passOne_0 rfl rfl ?_
  refine G_aload_n g (pc := 1) 0 d_T_passOne_1 rfl rfl ?_
  refine G_get g (pc := 2) fa_T_48 (hw.m _ (st_lt0 hp)) (hw.k (st_k0 hp)) d_T_passOne_2 ?_
  refine G_cVI g (pc := 5) (As := [.int (M p 7)]) (st := []) cc_T_107 (c_T_gustOf l hw p hp (M p 7) M) (hw.m _ (st_lt0 hp)) (hw.k (st_k0 hp)) rfl (by decide) rfl ⟨(Nat.le_of_ble_eq_true rfl), (Nat.le_of_ble_eq_true rfl)⟩ ⟨(Nat.le_of_ble_eq_true rfl), (Nat.le_of_ble_eq_true rfl)⟩ (Nat.le_of_ble_eq_true rfl) d_T_passOne_5 (fun x1 M2 => ?_)
  refine G_istore_n g (pc := 8) _ d_T_passOne_8 rfl (Nat.le_of_ble_eq_true rfl) rfl ?_
  refine G_aload_n g (pc := 9) 1 d_T_passOne_9 rfl rfl ?_
  refine G_getR g (pc := 10) fa_T_12 (hw.m _ (st_lt0 hp)) (hw.k (st_k0 hp)) (hw.r (st_r0_0 hp rr)) d_T_passOne_10 ?_
  refine G_getN g (pc := 13) fa_T_101 (hw.m _ (st_lt1 hp)) (hw.k (st_k1 hp)) d_T_passOne_13 ?_
  refine G_iconst g (pc := 16) (1 : Int32) d_T_passOne_16 rfl ?_
  refine G_icmp_ne g (pc := 17) 35 d_T_passOne_17 (by decide) ?_ ?_
  · refine G_aload_n g (pc := 20) 1 d_T_passOne_20 rfl rfl ?_
    refine G_getR g (pc := 21) fa_T_29 (hw.m _ (st_lt0 hp)) (hw.k (st_k0 hp)) (hw.r (st_r0_3 hp rr)) d_T_passOne_21 ?_
    refine G_aload_n g (pc := 24) 1 d_T_passOne_24 rfl rfl ?_
    refine G_getR g (pc := 25) fa_T_12 (hw.m _ (st_lt0 hp)) (hw.k (st_k0 hp)) (hw.r (st_r0_0 hp rr)) d_T_passOne_25 ?_
    refine G_iload_n g (pc := 28) 0 d_T_passOne_28 rfl rfl ?_
    refine G_cVI g (pc := 29) (As := [.int x1]) (st := [.ref (wad w (p + 3))]) cc_T_169 (c_K_windOver l hw (p + 1) (st_in1 hp) x1 M2) (hw.m _ (st_lt1 hp)) (hw.k (st_k1 hp)) rfl (by decide) rfl ⟨(Nat.le_of_ble_eq_true rfl), (Nat.le_of_ble_eq_true rfl)⟩ ⟨(Nat.le_of_ble_eq_true rfl), (Nat.le_of_ble_eq_true rfl)⟩ (Nat.le_of_ble_eq_true rfl) d_T_passOne_29 (fun x3 M4 => ?_)
    refine G_cVV g (pc := 32) (As := [.int x3]) (st := []) cc_T_172 (c_B_add l hw (p + 3) (st_in3 hp) x3 M4) (hw.m _ (st_lt3 hp)) (hw.k (st_k3 hp)) rfl (by decide) rfl ⟨(Nat.le_of_ble_eq_true rfl), (Nat.le_of_ble_eq_true rfl)⟩ ⟨(Nat.le_of_ble_eq_true rfl), (Nat.le_of_ble_eq_true rfl)⟩ (Nat.le_of_ble_eq_true rfl) d_T_passOne_32 (fun M6 => ?_)
    refine G_aload_n g (pc := 35) 1 d_T_passOne_35 rfl rfl ?_
    refine G_getR g (pc := 36) fa_T_12 (hw.m _ (st_lt0 hp)) (hw.k (st_k0 hp)) (hw.r (st_r0_0 hp rr)) d_T_passOne_36 ?_
    refine G_iload_n g (pc := 39) 0 d_T_passOne_39 rfl rfl ?_
    refine G_cVV g (pc := 40) (As := [.int x1]) (st := []) cc_T_174 (c_K_passTick l hw (p + 1) (st_in1 hp) x1 M6) (hw.m _ (st_lt1 hp)) (hw.k (st_k1 hp)) rfl (by decide) rfl ⟨(Nat.le_of_ble_eq_true rfl), (Nat.le_of_ble_eq_true rfl)⟩ ⟨(Nat.le_of_ble_eq_true rfl), (Nat.le_of_ble_eq_true rfl)⟩ (Nat.le_of_ble_eq_true rfl) d_T_passOne_40 (fun M8 => ?_)
    refine G_aload_n g (pc := 43) 1 d_T_passOne_43 rfl rfl ?_
    refine G_getR g (pc := 44) fa_T_12 (hw.m _ (st_lt0 hp)) (hw.k (st_k0 hp)) (hw.r (st_r0_0 hp rr)) d_T_passOne_44 ?_
    refine G_getN g (pc := 47) fa_T_101 (hw.m _ (st_lt1 hp)) (hw.k (st_k1 hp)) d_T_passOne_47 ?_
    refine G_iconst g (pc := 50) (1 : Int32) d_T_passOne_50 rfl ?_
    refine G_icmp_ne g (pc := 51) 111 d_T_passOne_51 (by decide) ?_ ?_
    · refine G_aload_n g (pc := 54) 1 d_T_passOne_54 rfl rfl ?_
      refine G_get g (pc := 55) fa_T_45 (hw.m _ (st_lt0 hp)) (hw.k (st_k0 hp)) d_T_passOne_55 ?_
      refine G_if_le g (pc := 58) 111 d_T_passOne_58 (by decide) ?_ ?_
      · refine G_aload_n g (pc := 61) 1 d_T_passOne_61 rfl rfl ?_
        refine G_getR g (pc := 62) fa_T_12 (hw.m _ (st_lt0 hp)) (hw.k (st_k0 hp)) (hw.r (st_r0_0 hp rr)) d_T_passOne_62 ?_
        refine G_getN g (pc := 65) fa_T_177 (hw.m _ (st_lt1 hp)) (hw.k (st_k1 hp)) d_T_passOne_65 ?_
        refine G_aload_n g (pc := 68) 1 d_T_passOne_68 rfl rfl ?_
        refine G_get g (pc := 69) fa_T_45 (hw.m _ (st_lt0 hp)) (hw.k (st_k0 hp)) d_T_passOne_69 ?_
        refine G_irem g (pc := 72) d_T_passOne_72 ?_
        refine G_if_ne g (pc := 73) 111 d_T_passOne_73 (by decide) ?_ ?_
        · refine G_aload_n g (pc := 76) 1 d_T_passOne_76 rfl rfl ?_
          refine G_getR g (pc := 77) fa_T_38 (hw.m _ (st_lt0 hp)) (hw.k (st_k0 hp)) (hw.r (st_r0_4 hp rr)) d_T_passOne_77 ?_
          refine G_aload_n g (pc := 80) 1 d_T_passOne_80 rfl rfl ?_
          refine G_get g (pc := 81) fa_T_48 (hw.m _ (st_lt0 hp)) (hw.k (st_k0 hp)) d_T_passOne_81 ?_
          refine G_aload_n g (pc := 84) 1 d_T_passOne_84 rfl rfl ?_
          refine G_getR g (pc := 85) fa_T_12 (hw.m _ (st_lt0 hp)) (hw.k (st_k0 hp)) (hw.r (st_r0_0 hp rr)) d_T_passOne_85 ?_
          refine G_getN g (pc := 88) fa_T_180 (hw.m _ (st_lt1 hp)) (hw.k (st_k1 hp)) d_T_passOne_88 ?_
          refine G_aload_n g (pc := 91) 1 d_T_passOne_91 rfl rfl ?_
          refine G_getR g (pc := 92) fa_T_29 (hw.m _ (st_lt0 hp)) (hw.k (st_k0 hp)) (hw.r (st_r0_3 hp rr)) d_T_passOne_92 ?_
          refine G_cVI g (pc := 95) (As := []) (st := [.int (M8 (p + 1) 1), .int (M8 p 7), .ref (wad w (p + 5))]) cc_T_183 (c_B_greatest l N hw (p + 3) (st_in3 hp) M8) (hw.m _ (st_lt3 hp)) (hw.k (st_k3 hp)) rfl (by decide) rfl ⟨(Nat.le_of_ble_eq_true rfl), (Nat.le_of_ble_eq_true rfl)⟩ ⟨(Nat.le_of_ble_eq_true rfl), (Nat.le_of_ble_eq_true rfl)⟩ (Nat.le_of_ble_eq_true rfl) d_T_passOne_95 (fun x9 M10 => ?_)
          refine G_cVV g (pc := 98) (As := [.int (M8 p 7), .int (M8 (p + 1) 1), .int x9]) (st := []) cc_T_162 (c_S_add l hw (p + 5) (st_in5 hp) (M8 p 7) (M8 (p + 1) 1) x9 M10) (hw.m _ (st_lt5 hp)) (hw.k (st_k5 hp)) rfl (by decide) rfl ⟨(Nat.le_of_ble_eq_true rfl), (Nat.le_of_ble_eq_true rfl)⟩ ⟨(Nat.le_of_ble_eq_true rfl), (Nat.le_of_ble_eq_true rfl)⟩ (Nat.le_of_ble_eq_true rfl) d_T_passOne_98 (fun M12 => ?_)
          refine G_aload_n g (pc := 101) 1 d_T_passOne_101 rfl rfl ?_
          refine G_dup g (pc := 102) d_T_passOne_102 rfl ?_
          refine G_get g (pc := 103) fa_T_51 (hw.m _ (st_lt0 hp)) (hw.k (st_k0 hp)) d_T_passOne_103 ?_
          refine G_iconst g (pc := 106) (1 : Int32) d_T_passOne_106 rfl ?_
          refine G_iadd g (pc := 107) d_T_passOne_107 ?_
          refine G_put g (pc := 108) fa_T_51 fw_5_8 rfl rfl (hw.m _ (st_lt0 hp)) (hw.k (st_k0 hp)) d_T_passOne_108 ?_
          refine G_nmM (fun M13 => ?_)
          refine G_aload_n g (pc := 111) 1 d_T_passOne_111 rfl rfl ?_
          refine G_dup g (pc := 112) d_T_passOne_112 rfl ?_
          refine G_get g (pc := 113) fa_T_48 (hw.m _ (st_lt0 hp)) (hw.k (st_k0 hp)) d_T_passOne_113 ?_
          refine G_iconst g (pc := 116) (1 : Int32) d_T_passOne_116 rfl ?_
          refine G_iadd g (pc := 117) d_T_passOne_117 ?_
          refine G_put g (pc := 118) fa_T_48 fw_5_7 rfl rfl (hw.m _ (st_lt0 hp)) (hw.k (st_k0 hp)) d_T_passOne_118 ?_
          refine G_nmM (fun M14 => ?_)
          exact G_return g (pc := 121) hret (Nat.le_of_ble_eq_true rfl) (Nat.le_of_ble_eq_true rfl) d_T_passOne_121
        · refine G_aload_n g (pc := 111) 1 d_T_passOne_111 rfl rfl ?_
          refine G_dup g (pc := 112) d_T_passOne_112 rfl ?_
          refine G_get g (pc := 113) fa_T_48 (hw.m _ (st_lt0 hp)) (hw.k (st_k0 hp)) d_T_passOne_113 ?_
          refine G_iconst g (pc := 116) (1 : Int32) d_T_passOne_116 rfl ?_
          refine G_iadd g (pc := 117) d_T_passOne_117 ?_
          refine G_put g (pc := 118) fa_T_48 fw_5_7 rfl rfl (hw.m _ (st_lt0 hp)) (hw.k (st_k0 hp)) d_T_passOne_118 ?_
          refine G_nmM (fun M15 => ?_)
          exact G_return g (pc := 121) hret (Nat.le_of_ble_eq_true rfl) (Nat.le_of_ble_eq_true rfl) d_T_passOne_121
      · refine G_aload_n g (pc := 111) 1 d_T_passOne_111 rfl rfl ?_
        refine G_dup g (pc := 112) d_T_passOne_112 rfl ?_
        refine G_get g (pc := 113) fa_T_48 (hw.m _ (st_lt0 hp)) (hw.k (st_k0 hp)) d_T_passOne_113 ?_
        refine G_iconst g (pc := 116) (1 : Int32) d_T_passOne_116 rfl ?_
        refine G_iadd g (pc := 117) d_T_passOne_117 ?_
        refine G_put g (pc := 118) fa_T_48 fw_5_7 rfl rfl (hw.m _ (st_lt0 hp)) (hw.k (st_k0 hp)) d_T_passOne_118 ?_
        refine G_nmM (fun M16 => ?_)
        exact G_return g (pc := 121) hret (Nat.le_of_ble_eq_true rfl) (Nat.le_of_ble_eq_true rfl) d_T_passOne_121
    · refine G_aload_n g (pc := 111) 1 d_T_passOne_111 rfl rfl ?_
      refine G_dup g (pc := 112) d_T_passOne_112 rfl ?_
      refine G_get g (pc := 113) fa_T_48 (hw.m _ (st_lt0 hp)) (hw.k (st_k0 hp)) d_T_passOne_113 ?_
      refine G_iconst g (pc := 116) (1 : Int32) d_T_passOne_116 rfl ?_
      refine G_iadd g (pc := 117) d_T_passOne_117 ?_
      refine G_put g (pc := 118) fa_T_48 fw_5_7 rfl rfl (hw.m _ (st_lt0 hp)) (hw.k (st_k0 hp)) d_T_passOne_118 ?_
      refine G_nmM (fun M17 => ?_)
      exact G_return g (pc := 121) hret (Nat.le_of_ble_eq_true rfl) (Nat.le_of_ble_eq_true rfl) d_T_passOne_121
  · refine G_aload_n g (pc := 35) 1 d_T_passOne_35 rfl rfl ?_
    refine G_getR g (pc := 36) fa_T_12 (hw.m _ (st_lt0 hp)) (hw.k (st_k0 hp)) (hw.r (st_r0_0 hp rr)) d_T_passOne_36 ?_
    refine G_iload_n g (pc := 39) 0 d_T_passOne_39 rfl rfl ?_
    refine G_cVV g (pc := 40) (As := [.int x1]) (st := []) cc_T_174 (c_K_passTick l hw (p + 1) (st_in1 hp) x1 M2) (hw.m _ (st_lt1 hp)) (hw.k (st_k1 hp)) rfl (by decide) rfl ⟨(Nat.le_of_ble_eq_true rfl), (Nat.le_of_ble_eq_true rfl)⟩ ⟨(Nat.le_of_ble_eq_true rfl), (Nat.le_of_ble_eq_true rfl)⟩ (Nat.le_of_ble_eq_true rfl) d_T_passOne_40 (fun M19 => ?_)
    refine G_aload_n g (pc := 43) 1 d_T_passOne_43 rfl rfl ?_
    refine G_getR g (pc := 44) fa_T_12 (hw.m _ (st_lt0 hp)) (hw.k (st_k0 hp)) (hw.r (st_r0_0 hp rr)) d_T_passOne_44 ?_
    refine G_getN g (pc := 47) fa_T_101 (hw.m _ (st_lt1 hp)) (hw.k (st_k1 hp)) d_T_passOne_47 ?_
    refine G_iconst g (pc := 50) (1 : Int32) d_T_passOne_50 rfl ?_
    refine G_icmp_ne g (pc := 51) 111 d_T_passOne_51 (by decide) ?_ ?_
    · refine G_aload_n g (pc := 54) 1 d_T_passOne_54 rfl rfl ?_
      refine G_get g (pc := 55) fa_T_45 (hw.m _ (st_lt0 hp)) (hw.k (st_k0 hp)) d_T_passOne_55 ?_
      refine G_if_le g (pc := 58) 111 d_T_passOne_58 (by decide) ?_ ?_
      · refine G_aload_n g (pc := 61) 1 d_T_passOne_61 rfl rfl ?_
        refine G_getR g (pc := 62) fa_T_12 (hw.m _ (st_lt0 hp)) (hw.k (st_k0 hp)) (hw.r (st_r0_0 hp rr)) d_T_passOne_62 ?_
        refine G_getN g (pc := 65) fa_T_177 (hw.m _ (st_lt1 hp)) (hw.k (st_k1 hp)) d_T_passOne_65 ?_
        refine G_aload_n g (pc := 68) 1 d_T_passOne_68 rfl rfl ?_
        refine G_get g (pc := 69) fa_T_45 (hw.m _ (st_lt0 hp)) (hw.k (st_k0 hp)) d_T_passOne_69 ?_
        refine G_irem g (pc := 72) d_T_passOne_72 ?_
        refine G_if_ne g (pc := 73) 111 d_T_passOne_73 (by decide) ?_ ?_
        · refine G_aload_n g (pc := 76) 1 d_T_passOne_76 rfl rfl ?_
          refine G_getR g (pc := 77) fa_T_38 (hw.m _ (st_lt0 hp)) (hw.k (st_k0 hp)) (hw.r (st_r0_4 hp rr)) d_T_passOne_77 ?_
          refine G_aload_n g (pc := 80) 1 d_T_passOne_80 rfl rfl ?_
          refine G_get g (pc := 81) fa_T_48 (hw.m _ (st_lt0 hp)) (hw.k (st_k0 hp)) d_T_passOne_81 ?_
          refine G_aload_n g (pc := 84) 1 d_T_passOne_84 rfl rfl ?_
          refine G_getR g (pc := 85) fa_T_12 (hw.m _ (st_lt0 hp)) (hw.k (st_k0 hp)) (hw.r (st_r0_0 hp rr)) d_T_passOne_85 ?_
          refine G_getN g (pc := 88) fa_T_180 (hw.m _ (st_lt1 hp)) (hw.k (st_k1 hp)) d_T_passOne_88 ?_
          refine G_aload_n g (pc := 91) 1 d_T_passOne_91 rfl rfl ?_
          refine G_getR g (pc := 92) fa_T_29 (hw.m _ (st_lt0 hp)) (hw.k (st_k0 hp)) (hw.r (st_r0_3 hp rr)) d_T_passOne_92 ?_
          refine G_cVI g (pc := 95) (As := []) (st := [.int (M19 (p + 1) 1), .int (M19 p 7), .ref (wad w (p + 5))]) cc_T_183 (c_B_greatest l N hw (p + 3) (st_in3 hp) M19) (hw.m _ (st_lt3 hp)) (hw.k (st_k3 hp)) rfl (by decide) rfl ⟨(Nat.le_of_ble_eq_true rfl), (Nat.le_of_ble_eq_true rfl)⟩ ⟨(Nat.le_of_ble_eq_true rfl), (Nat.le_of_ble_eq_true rfl)⟩ (Nat.le_of_ble_eq_true rfl) d_T_passOne_95 (fun x20 M21 => ?_)
          refine G_cVV g (pc := 98) (As := [.int (M19 p 7), .int (M19 (p + 1) 1), .int x20]) (st := []) cc_T_162 (c_S_add l hw (p + 5) (st_in5 hp) (M19 p 7) (M19 (p + 1) 1) x20 M21) (hw.m _ (st_lt5 hp)) (hw.k (st_k5 hp)) rfl (by decide) rfl ⟨(Nat.le_of_ble_eq_true rfl), (Nat.le_of_ble_eq_true rfl)⟩ ⟨(Nat.le_of_ble_eq_true rfl), (Nat.le_of_ble_eq_true rfl)⟩ (Nat.le_of_ble_eq_true rfl) d_T_passOne_98 (fun M23 => ?_)
          refine G_aload_n g (pc := 101) 1 d_T_passOne_101 rfl rfl ?_
          refine G_dup g (pc := 102) d_T_passOne_102 rfl ?_
          refine G_get g (pc := 103) fa_T_51 (hw.m _ (st_lt0 hp)) (hw.k (st_k0 hp)) d_T_passOne_103 ?_
          refine G_iconst g (pc := 106) (1 : Int32) d_T_passOne_106 rfl ?_
          refine G_iadd g (pc := 107) d_T_passOne_107 ?_
          refine G_put g (pc := 108) fa_T_51 fw_5_8 rfl rfl (hw.m _ (st_lt0 hp)) (hw.k (st_k0 hp)) d_T_passOne_108 ?_
          refine G_nmM (fun M24 => ?_)
          refine G_aload_n g (pc := 111) 1 d_T_passOne_111 rfl rfl ?_
          refine G_dup g (pc := 112) d_T_passOne_112 rfl ?_
          refine G_get g (pc := 113) fa_T_48 (hw.m _ (st_lt0 hp)) (hw.k (st_k0 hp)) d_T_passOne_113 ?_
          refine G_iconst g (pc := 116) (1 : Int32) d_T_passOne_116 rfl ?_
          refine G_iadd g (pc := 117) d_T_passOne_117 ?_
          refine G_put g (pc := 118) fa_T_48 fw_5_7 rfl rfl (hw.m _ (st_lt0 hp)) (hw.k (st_k0 hp)) d_T_passOne_118 ?_
          refine G_nmM (fun M25 => ?_)
          exact G_return g (pc := 121) hret (Nat.le_of_ble_eq_true rfl) (Nat.le_of_ble_eq_true rfl) d_T_passOne_121
        · refine G_aload_n g (pc := 111) 1 d_T_passOne_111 rfl rfl ?_
          refine G_dup g (pc := 112) d_T_passOne_112 rfl ?_
          refine G_get g (pc := 113) fa_T_48 (hw.m _ (st_lt0 hp)) (hw.k (st_k0 hp)) d_T_passOne_113 ?_
          refine G_iconst g (pc := 116) (1 : Int32) d_T_passOne_116 rfl ?_
          refine G_iadd g (pc := 117) d_T_passOne_117 ?_
          refine G_put g (pc := 118) fa_T_48 fw_5_7 rfl rfl (hw.m _ (st_lt0 hp)) (hw.k (st_k0 hp)) d_T_passOne_118 ?_
          refine G_nmM (fun M26 => ?_)
          exact G_return g (pc := 121) hret (Nat.le_of_ble_eq_true rfl) (Nat.le_of_ble_eq_true rfl) d_T_passOne_121
      · refine G_aload_n g (pc := 111) 1 d_T_passOne_111 rfl rfl ?_
        refine G_dup g (pc := 112) d_T_passOne_112 rfl ?_
        refine G_get g (pc := 113) fa_T_48 (hw.m _ (st_lt0 hp)) (hw.k (st_k0 hp)) d_T_passOne_113 ?_
        refine G_iconst g (pc := 116) (1 : Int32) d_T_passOne_116 rfl ?_
        refine G_iadd g (pc := 117) d_T_passOne_117 ?_
        refine G_put g (pc := 118) fa_T_48 fw_5_7 rfl rfl (hw.m _ (st_lt0 hp)) (hw.k (st_k0 hp)) d_T_passOne_118 ?_
        refine G_nmM (fun M27 => ?_)
        exact G_return g (pc := 121) hret (Nat.le_of_ble_eq_true rfl) (Nat.le_of_ble_eq_true rfl) d_T_passOne_121
    · refine G_aload_n g (pc := 111) 1 d_T_passOne_111 rfl rfl ?_
      refine G_dup g (pc := 112) d_T_passOne_112 rfl ?_
      refine G_get g (pc := 113) fa_T_48 (hw.m _ (st_lt0 hp)) (hw.k (st_k0 hp)) d_T_passOne_113 ?_
      refine G_iconst g (pc := 116) (1 : Int32) d_T_passOne_116 rfl ?_
      refine G_iadd g (pc := 117) d_T_passOne_117 ?_
      refine G_put g (pc := 118) fa_T_48 fw_5_7 rfl rfl (hw.m _ (st_lt0 hp)) (hw.k (st_k0 hp)) d_T_passOne_118 ?_
      refine G_nmM (fun M28 => ?_)
      exact G_return g (pc := 121) hret (Nat.le_of_ble_eq_true rfl) (Nat.le_of_ble_eq_true rfl) d_T_passOne_121

theorem d_T_passMany_0 : decode b_T_passMany 0 = .ok (.aload_n 0, 1) := by decide +kernel
theorem d_T_passMany_1 : decode b_T_passMany 1 = .ok (.getfield 51, 3) := by decide +kernel
theorem d_T_passMany_4 : decode b_T_passMany 4 = .ok (.istore_n 2, 1) := by decide +kernel
theorem d_T_passMany_5 : decode b_T_passMany 5 = .ok (.iconst 0, 1) := by decide +kernel
theorem d_T_passMany_6 : decode b_T_passMany 6 = .ok (.istore_n 3, 1) := by decide +kernel
theorem d_T_passMany_7 : decode b_T_passMany 7 = .ok (.iload_n 3, 1) := by decide +kernel
theorem d_T_passMany_8 : decode b_T_passMany 8 = .ok (.iload_n 1, 1) := by decide +kernel
theorem d_T_passMany_9 : decode b_T_passMany 9 = .ok (.if_icmp .ge 13, 3) := by decide +kernel
theorem d_T_passMany_12 : decode b_T_passMany 12 = .ok (.aload_n 0, 1) := by decide +kernel
theorem d_T_passMany_13 : decode b_T_passMany 13 = .ok (.invokevirtual 166, 3) := by decide +kernel
theorem d_T_passMany_16 : decode b_T_passMany 16 = .ok (.iinc 3 1, 3) := by decide +kernel
theorem d_T_passMany_19 : decode b_T_passMany 19 = .ok (.goto (-12), 3) := by decide +kernel
theorem d_T_passMany_22 : decode b_T_passMany 22 = .ok (.aload_n 0, 1) := by decide +kernel
theorem d_T_passMany_23 : decode b_T_passMany 23 = .ok (.getfield 51, 3) := by decide +kernel
theorem d_T_passMany_26 : decode b_T_passMany 26 = .ok (.iload_n 2, 1) := by decide +kernel
theorem d_T_passMany_27 : decode b_T_passMany 27 = .ok (.isub, 1) := by decide +kernel
theorem d_T_passMany_28 : decode b_T_passMany 28 = .ok (.ireturn, 1) := by decide +kernel
theorem cc_T_166 : CV "KiteLogger$Station" 166 y_T_passOne b_T_passOne 2 none 0 := ⟨TT_in (i := 1186) (by decide +kernel) (by decide +kernel), TT_in (i := 1188) (by decide +kernel) (by decide +kernel), TT_in (i := 18) (by decide +kernel) (by decide +kernel), TT_in (i := 94) (by decide +kernel) (by decide +kernel), TT_in (i := 1189) (by decide +kernel) (by decide +kernel), ⟨by decide +kernel, by decide +kernel, by decide +kernel⟩⟩
def lp_T_passMany_7 (N0 rr : Nat) (p : Nat) (a1 : Int32) (c2 : Int32) : Nat → Int32 → Mem → (Int32 → Mem → Option (Int32 × Mem)) → Option (Int32 × Mem)
  | 0, _, _, _ => none
  | N + 1, a, M, k => if a < a1 then (bndM (f_T_passOne N0 rr p M) fun (M3 : Mem) => nm (a + (1 : Int32)) fun (x4 : Int32) => lp_T_passMany_7 N0 rr p a1 c2 N x4 M3 k) else (k a M)
def f_T_passMany (N : Nat) (rr : Nat) (p : Nat) (a1 : Int32) (M : Mem) : Option (Int32 × Mem) :=
  nm (M p 8) fun (x1 : Int32) => lp_T_passMany_7 N rr p a1 x1 N (0 : Int32) M (fun (a6 : Int32) (M5 : Mem) => some ((M5 p 8) - x1, M5))
set_option maxHeartbeats 4000000 in
set_option maxRecDepth 100000 in
theorem c_T_passMany (l : Launch) (N : Nat) {w : Wc} {rr : Nat} (hw : WK w rr) (p : Nat) (hp : p ∈ stL) (a1 : Int32) (M : Mem) : Ct QI l y_T_passMany b_T_passMany 4 (some .int) (rmL 4) w [.ref (wad w p), .int a1] M (f_T_passMany N rr p a1 M) := by
  refine Ct.go (by decide) (L := [(0, .ref (wad w p)), (1, .int a1)]) rfl (Nat.le_of_ble_eq_true rfl) (fun p0 e s m args below meth c g hret => ?_)
  unfold f_T_passMany
  refine G_aload_n g (pc := 0) 0 d_T_passMany_0 rfl rfl ?_
  refine G_get g (pc := 1) fa_T_51 (hw.m _ (st_lt0 hp)) (hw.k (st_k0 hp)) d_T_passMany_1 ?_
  refine G_nmI (fun x1 => ?_)
  refine G_istore_n g (pc := 4) _ d_T_passMany_4 rfl (Nat.le_of_ble_eq_true rfl) rfl ?_
  refine G_iconst g (pc := 5) (0 : Int32) d_T_passMany_5 rfl ?_
  refine G_istore_n g (pc := 6) _ d_T_passMany_6 rfl (Nat.le_of_ble_eq_true rfl) rfl ?_
  refine G_sub [2, 3, 1, 0] _ rfl ?_
  refine G_loop (F := lp_T_passMany_7 N rr p a1 x1) 7 22 (fun (a : Int32) => [(0, .ref (wad w p)), (1, .int a1), (2, .int x1), (3, .int a)]) (fun (a : Int32) => [(0, .ref (wad w p)), (1, .int a1), (2, .int x1), (3, .int a)]) (fun _ _ _ => rfl) (fun a6 M5 => ?_) (fun k hk Nl ih a M => ?_) N (0 : Int32) M
  · refine G_aload_n g (pc := 22) 0 d_T_passMany_22 rfl rfl ?_
    refine G_get g (pc := 23) fa_T_51 (hw.m _ (st_lt0 hp)) (hw.k (st_k0 hp)) d_T_passMany_23 ?_
    refine G_iload_n g (pc := 26) 2 d_T_passMany_26 rfl rfl ?_
    refine G_isub g (pc := 27) d_T_passMany_27 ?_
    exact G_ireturn g (pc := 28) hret (Nat.le_of_ble_eq_true rfl) (Nat.le_of_ble_eq_true rfl) d_T_passMany_28
  · show Go p0 l e _ s m args below meth c w _ _ _ _ (lp_T_passMany_7 N rr p a1 x1 (Nl + 1) a M k) 7 _ _ M
    unfold lp_T_passMany_7
    refine G_iload_n g (pc := 7) 3 d_T_passMany_7 rfl rfl ?_
    refine G_iload_n g (pc := 8) 1 d_T_passMany_8 rfl rfl ?_
    refine G_icmp_ge g (pc := 9) 22 d_T_passMany_9 (by decide) ?_ ?_
    · refine G_aload_n g (pc := 12) 0 d_T_passMany_12 rfl rfl ?_
      refine G_cVV g (pc := 13) (As := []) (st := []) cc_T_166 (c_T_passOne l N hw p hp M) (hw.m _ (st_lt0 hp)) (hw.k (st_k0 hp)) rfl (by decide) rfl ⟨(Nat.le_of_ble_eq_true rfl), (Nat.le_of_ble_eq_true rfl)⟩ ⟨(Nat.le_of_ble_eq_true rfl), (Nat.le_of_ble_eq_true rfl)⟩ (Nat.le_of_ble_eq_true rfl) d_T_passMany_13 (fun M3 => ?_)
      refine G_nmX (a + (1 : Int32)) (fun x4 e_x4 => ?_)
      refine G_iinc g (pc := 16) x4 _ 3 d_T_passMany_16 rfl e_x4.symm (Nat.le_of_ble_eq_true rfl) rfl ?_
      refine G_goto g (pc := 19) 7 d_T_passMany_19 (by decide) ?_
      refine G_sub [1, 2, 3, 0] _ rfl ?_
      exact ih x4 M3
    · refine G_sub [0, 1, 2, 3] _ rfl ?_
      exact hk a M

theorem d_T_perform_0 : decode b_T_perform 0 = .ok (.iload_n 1, 1) := by decide +kernel
theorem d_T_perform_1 : decode b_T_perform 1 = .ok (.tableswitch 116 1 8 #[47, 62, 71, 80, 90, 96, 105, 110], 47) := by decide +kernel
theorem d_T_perform_48 : decode b_T_perform 48 = .ok (.aload_n 0, 1) := by decide +kernel
theorem d_T_perform_49 : decode b_T_perform 49 = .ok (.getfield 29, 3) := by decide +kernel
theorem d_T_perform_52 : decode b_T_perform 52 = .ok (.invokevirtual 75, 3) := by decide +kernel
theorem d_T_perform_55 : decode b_T_perform 55 = .ok (.aload_n 0, 1) := by decide +kernel
theorem d_T_perform_56 : decode b_T_perform 56 = .ok (.getfield 12, 3) := by decide +kernel
theorem d_T_perform_59 : decode b_T_perform 59 = .ok (.invokevirtual 129, 3) := by decide +kernel
theorem d_T_perform_62 : decode b_T_perform 62 = .ok (.ireturn, 1) := by decide +kernel
theorem d_T_perform_63 : decode b_T_perform 63 = .ok (.aload_n 0, 1) := by decide +kernel
theorem d_T_perform_64 : decode b_T_perform 64 = .ok (.getfield 12, 3) := by decide +kernel
theorem d_T_perform_67 : decode b_T_perform 67 = .ok (.iload_n 2, 1) := by decide +kernel
theorem d_T_perform_68 : decode b_T_perform 68 = .ok (.invokevirtual 132, 3) := by decide +kernel
theorem d_T_perform_71 : decode b_T_perform 71 = .ok (.ireturn, 1) := by decide +kernel
theorem d_T_perform_72 : decode b_T_perform 72 = .ok (.aload_n 0, 1) := by decide +kernel
theorem d_T_perform_73 : decode b_T_perform 73 = .ok (.getfield 12, 3) := by decide +kernel
theorem d_T_perform_76 : decode b_T_perform 76 = .ok (.iload_n 2, 1) := by decide +kernel
theorem d_T_perform_77 : decode b_T_perform 77 = .ok (.invokevirtual 135, 3) := by decide +kernel
theorem d_T_perform_80 : decode b_T_perform 80 = .ok (.ireturn, 1) := by decide +kernel
theorem d_T_perform_81 : decode b_T_perform 81 = .ok (.aload_n 0, 1) := by decide +kernel
theorem d_T_perform_82 : decode b_T_perform 82 = .ok (.getfield 12, 3) := by decide +kernel
theorem d_T_perform_85 : decode b_T_perform 85 = .ok (.iload_n 2, 1) := by decide +kernel
theorem d_T_perform_86 : decode b_T_perform 86 = .ok (.iload_n 3, 1) := by decide +kernel
theorem d_T_perform_87 : decode b_T_perform 87 = .ok (.invokevirtual 138, 3) := by decide +kernel
theorem d_T_perform_90 : decode b_T_perform 90 = .ok (.ireturn, 1) := by decide +kernel
theorem d_T_perform_91 : decode b_T_perform 91 = .ok (.aload_n 0, 1) := by decide +kernel
theorem d_T_perform_92 : decode b_T_perform 92 = .ok (.iload_n 2, 1) := by decide +kernel
theorem d_T_perform_93 : decode b_T_perform 93 = .ok (.invokevirtual 141, 3) := by decide +kernel
theorem d_T_perform_96 : decode b_T_perform 96 = .ok (.ireturn, 1) := by decide +kernel
theorem d_T_perform_97 : decode b_T_perform 97 = .ok (.aload_n 0, 1) := by decide +kernel
theorem d_T_perform_98 : decode b_T_perform 98 = .ok (.getfield 12, 3) := by decide +kernel
theorem d_T_perform_101 : decode b_T_perform 101 = .ok (.iload_n 2, 1) := by decide +kernel
theorem d_T_perform_102 : decode b_T_perform 102 = .ok (.invokevirtual 144, 3) := by decide +kernel
theorem d_T_perform_105 : decode b_T_perform 105 = .ok (.ireturn, 1) := by decide +kernel
theorem d_T_perform_106 : decode b_T_perform 106 = .ok (.aload_n 0, 1) := by decide +kernel
theorem d_T_perform_107 : decode b_T_perform 107 = .ok (.invokevirtual 147, 3) := by decide +kernel
theorem d_T_perform_110 : decode b_T_perform 110 = .ok (.ireturn, 1) := by decide +kernel
theorem d_T_perform_111 : decode b_T_perform 111 = .ok (.aload_n 0, 1) := by decide +kernel
theorem d_T_perform_112 : decode b_T_perform 112 = .ok (.iload_n 2, 1) := by decide +kernel
theorem d_T_perform_113 : decode b_T_perform 113 = .ok (.invokevirtual 150, 3) := by decide +kernel
theorem d_T_perform_116 : decode b_T_perform 116 = .ok (.ireturn, 1) := by decide +kernel
theorem d_T_perform_117 : decode b_T_perform 117 = .ok (.iconst 0, 1) := by decide +kernel
theorem d_T_perform_118 : decode b_T_perform 118 = .ok (.ireturn, 1) := by decide +kernel
theorem cc_T_75 : CV "KiteLogger$Station" 75 y_B_empty b_B_empty 1 none 0 := ⟨TT_in (i := 436) (by decide +kernel) (by decide +kernel), TT_in (i := 437) (by decide +kernel) (by decide +kernel), TT_in (i := 438) (by decide +kernel) (by decide +kernel), TT_in (i := 96) (by decide +kernel) (by decide +kernel), TT_in (i := 439) (by decide +kernel) (by decide +kernel), ⟨by decide +kernel, by decide +kernel, by decide +kernel⟩⟩
theorem cc_T_129 : CV "KiteLogger$Station" 129 y_K_rise b_K_rise 1 (some .int) 0 := ⟨TT_in (i := 1144) (by decide +kernel) (by decide +kernel), TT_in (i := 1145) (by decide +kernel) (by decide +kernel), TT_in (i := 1146) (by decide +kernel) (by decide +kernel), TT_in (i := 95) (by decide +kernel) (by decide +kernel), TT_in (i := 1147) (by decide +kernel) (by decide +kernel), ⟨by decide +kernel, by decide +kernel, by decide +kernel⟩⟩
theorem cc_T_132 : CV "KiteLogger$Station" 132 y_K_lengthen b_K_lengthen 2 (some .int) 1 := ⟨TT_in (i := 1148) (by decide +kernel) (by decide +kernel), TT_in (i := 1149) (by decide +kernel) (by decide +kernel), TT_in (i := 1150) (by decide +kernel) (by decide +kernel), TT_in (i := 95) (by decide +kernel) (by decide +kernel), TT_in (i := 1151) (by decide +kernel) (by decide +kernel), ⟨by decide +kernel, by decide +kernel, by decide +kernel⟩⟩
theorem cc_T_135 : CV "KiteLogger$Station" 135 y_K_shorten b_K_shorten 2 (some .int) 1 := ⟨TT_in (i := 1152) (by decide +kernel) (by decide +kernel), TT_in (i := 1153) (by decide +kernel) (by decide +kernel), TT_in (i := 1154) (by decide +kernel) (by decide +kernel), TT_in (i := 95) (by decide +kernel) (by decide +kernel), TT_in (i := 1155) (by decide +kernel) (by decide +kernel), ⟨by decide +kernel, by decide +kernel, by decide +kernel⟩⟩
theorem cc_T_138 : CV "KiteLogger$Station" 138 y_K_renewBridle b_K_renewBridle 4 (some .int) 2 := ⟨TT_in (i := 1156) (by decide +kernel) (by decide +kernel), TT_in (i := 1157) (by decide +kernel) (by decide +kernel), TT_in (i := 1158) (by decide +kernel) (by decide +kernel), TT_in (i := 95) (by decide +kernel) (by decide +kernel), TT_in (i := 1159) (by decide +kernel) (by decide +kernel), ⟨by decide +kernel, by decide +kernel, by decide +kernel⟩⟩
theorem cc_T_141 : CV "KiteLogger$Station" 141 y_T_changeInterval b_T_changeInterval 3 (some .int) 1 := ⟨TT_in (i := 1160) (by decide +kernel) (by decide +kernel), TT_in (i := 1162) (by decide +kernel) (by decide +kernel), TT_in (i := 15) (by decide +kernel) (by decide +kernel), TT_in (i := 94) (by decide +kernel) (by decide +kernel), TT_in (i := 1163) (by decide +kernel) (by decide +kernel), ⟨by decide +kernel, by decide +kernel, by decide +kernel⟩⟩
theorem cc_T_144 : CV "KiteLogger$Station" 144 y_K_searchAt b_K_searchAt 4 (some .int) 1 := ⟨TT_in (i := 1164) (by decide +kernel) (by decide +kernel), TT_in (i := 1165) (by decide +kernel) (by decide +kernel), TT_in (i := 1166) (by decide +kernel) (by decide +kernel), TT_in (i := 95) (by decide +kernel) (by decide +kernel), TT_in (i := 1167) (by decide +kernel) (by decide +kernel), ⟨by decide +kernel, by decide +kernel, by decide +kernel⟩⟩
theorem cc_T_147 : CV "KiteLogger$Station" 147 y_T_moveSamples b_T_moveSamples 3 (some .int) 0 := ⟨TT_in (i := 1169) (by decide +kernel) (by decide +kernel), TT_in (i := 1171) (by decide +kernel) (by decide +kernel), TT_in (i := 16) (by decide +kernel) (by decide +kernel), TT_in (i := 94) (by decide +kernel) (by decide +kernel), TT_in (i := 1172) (by decide +kernel) (by decide +kernel), ⟨by decide +kernel, by decide +kernel, by decide +kernel⟩⟩
theorem cc_T_150 : CV "KiteLogger$Station" 150 y_T_passMany b_T_passMany 4 (some .int) 1 := ⟨TT_in (i := 1182) (by decide +kernel) (by decide +kernel), TT_in (i := 1184) (by decide +kernel) (by decide +kernel), TT_in (i := 17) (by decide +kernel) (by decide +kernel), TT_in (i := 94) (by decide +kernel) (by decide +kernel), TT_in (i := 1185) (by decide +kernel) (by decide +kernel), ⟨by decide +kernel, by decide +kernel, by decide +kernel⟩⟩
def f_T_perform (N : Nat) (rr : Nat) (p : Nat) (a1 : Int32) (a2 : Int32) (a3 : Int32) (M : Mem) : Option (Int32 × Mem) :=
  if a1 = (1 : Int32) then (bndM (f_B_empty (p + 3) M) fun (M2 : Mem) => bnd (f_K_rise (p + 1) M2) fun (x3 : Int32) (M4 : Mem) => some (x3, M4)) else (if a1 = (2 : Int32) then (bnd (f_K_lengthen (p + 1) a2 M) fun (x5 : Int32) (M6 : Mem) => some (x5, M6)) else (if a1 = (3 : Int32) then (bnd (f_K_shorten (p + 1) a2 M) fun (x7 : Int32) (M8 : Mem) => some (x7, M8)) else (if a1 = (4 : Int32) then (bnd (f_K_renewBridle (p + 1) a2 a3 M) fun (x9 : Int32) (M10 : Mem) => some (x9, M10)) else (if a1 = (5 : Int32) then (bnd (f_T_changeInterval p a2 M) fun (x11 : Int32) (M12 : Mem) => some (x11, M12)) else (if a1 = (6 : Int32) then (bnd (f_K_searchAt (p + 1) a2 M) fun (x13 : Int32) (M14 : Mem) => some (x13, M14)) else (if a1 = (7 : Int32) then (bnd (f_T_moveSamples N rr p M) fun (x15 : Int32) (M16 : Mem) => some (x15, M16)) else (if a1 = (8 : Int32) then (bnd (f_T_passMany N rr p a2 M) fun (x17 : Int32) (M18 : Mem) => some (x17, M18)) else (some ((0 : Int32), M)))))))))
set_option maxHeartbeats 4000000 in
set_option maxRecDepth 100000 in
theorem c_T_perform (l : Launch) (N : Nat) {w : Wc} {rr : Nat} (hw : WK w rr) (p : Nat) (hp : p ∈ stL) (a1 : Int32) (a2 : Int32) (a3 : Int32) (M : Mem) : Ct QI l y_T_perform b_T_perform 4 (some .int) (rmL 5) w [.ref (wad w p), .int a1, .int a2, .int a3] M (f_T_perform N rr p a1 a2 a3 M) := by
  refine Ct.go (by decide) (L := [(0, .ref (wad w p)), (1, .int a1), (2, .int a2), (3, .int a3)]) rfl (Nat.le_of_ble_eq_true rfl) (fun p0 e s m args below meth c g hret => ?_)
  unfold f_T_perform
  refine G_iload_n g (pc := 0) 1 d_T_perform_0 rfl rfl ?_
  refine G_case (v := (1 : Int32)) ?_ (fun ne1 => ?_)
  · refine G_tabK g (pc := 1) 48 d_T_perform_1 (by decide) (by decide) rfl (by decide) ?_
    refine G_aload_n g (pc := 48) 0 d_T_perform_48 rfl rfl ?_
    refine G_getR g (pc := 49) fa_T_29 (hw.m _ (st_lt0 hp)) (hw.k (st_k0 hp)) (hw.r (st_r0_3 hp rr)) d_T_perform_49 ?_
    refine G_cVV g (pc := 52) (As := []) (st := []) cc_T_75 (c_B_empty l hw (p + 3) (st_in3 hp) M) (hw.m _ (st_lt3 hp)) (hw.k (st_k3 hp)) rfl (by decide) rfl ⟨(Nat.le_of_ble_eq_true rfl), (Nat.le_of_ble_eq_true rfl)⟩ ⟨(Nat.le_of_ble_eq_true rfl), (Nat.le_of_ble_eq_true rfl)⟩ (Nat.le_of_ble_eq_true rfl) d_T_perform_52 (fun M2 => ?_)
    refine G_aload_n g (pc := 55) 0 d_T_perform_55 rfl rfl ?_
    refine G_getR g (pc := 56) fa_T_12 (hw.m _ (st_lt0 hp)) (hw.k (st_k0 hp)) (hw.r (st_r0_0 hp rr)) d_T_perform_56 ?_
    refine G_cVI g (pc := 59) (As := []) (st := []) cc_T_129 (c_K_rise l hw (p + 1) (st_in1 hp) M2) (hw.m _ (st_lt1 hp)) (hw.k (st_k1 hp)) rfl (by decide) rfl ⟨(Nat.le_of_ble_eq_true rfl), (Nat.le_of_ble_eq_true rfl)⟩ ⟨(Nat.le_of_ble_eq_true rfl), (Nat.le_of_ble_eq_true rfl)⟩ (Nat.le_of_ble_eq_true rfl) d_T_perform_59 (fun x3 M4 => ?_)
    exact G_ireturn g (pc := 62) hret (Nat.le_of_ble_eq_true rfl) (Nat.le_of_ble_eq_true rfl) d_T_perform_62
  refine G_case (v := (2 : Int32)) ?_ (fun ne2 => ?_)
  · refine G_tabK g (pc := 1) 63 d_T_perform_1 (by decide) (by decide) rfl (by decide) ?_
    refine G_aload_n g (pc := 63) 0 d_T_perform_63 rfl rfl ?_
    refine G_getR g (pc := 64) fa_T_12 (hw.m _ (st_lt0 hp)) (hw.k (st_k0 hp)) (hw.r (st_r0_0 hp rr)) d_T_perform_64 ?_
    refine G_iload_n g (pc := 67) 2 d_T_perform_67 rfl rfl ?_
    refine G_cVI g (pc := 68) (As := [.int a2]) (st := []) cc_T_132 (c_K_lengthen l hw (p + 1) (st_in1 hp) a2 M) (hw.m _ (st_lt1 hp)) (hw.k (st_k1 hp)) rfl (by decide) rfl ⟨(Nat.le_of_ble_eq_true rfl), (Nat.le_of_ble_eq_true rfl)⟩ ⟨(Nat.le_of_ble_eq_true rfl), (Nat.le_of_ble_eq_true rfl)⟩ (Nat.le_of_ble_eq_true rfl) d_T_perform_68 (fun x5 M6 => ?_)
    exact G_ireturn g (pc := 71) hret (Nat.le_of_ble_eq_true rfl) (Nat.le_of_ble_eq_true rfl) d_T_perform_71
  refine G_case (v := (3 : Int32)) ?_ (fun ne3 => ?_)
  · refine G_tabK g (pc := 1) 72 d_T_perform_1 (by decide) (by decide) rfl (by decide) ?_
    refine G_aload_n g (pc := 72) 0 d_T_perform_72 rfl rfl ?_
    refine G_getR g (pc := 73) fa_T_12 (hw.m _ (st_lt0 hp)) (hw.k (st_k0 hp)) (hw.r (st_r0_0 hp rr)) d_T_perform_73 ?_
    refine G_iload_n g (pc := 76) 2 d_T_perform_76 rfl rfl ?_
    refine G_cVI g (pc := 77) (As := [.int a2]) (st := []) cc_T_135 (c_K_shorten l hw (p + 1) (st_in1 hp) a2 M) (hw.m _ (st_lt1 hp)) (hw.k (st_k1 hp)) rfl (by decide) rfl ⟨(Nat.le_of_ble_eq_true rfl), (Nat.le_of_ble_eq_true rfl)⟩ ⟨(Nat.le_of_ble_eq_true rfl), (Nat.le_of_ble_eq_true rfl)⟩ (Nat.le_of_ble_eq_true rfl) d_T_perform_77 (fun x7 M8 => ?_)
    exact G_ireturn g (pc := 80) hret (Nat.le_of_ble_eq_true rfl) (Nat.le_of_ble_eq_true rfl) d_T_perform_80
  refine G_case (v := (4 : Int32)) ?_ (fun ne4 => ?_)
  · refine G_tabK g (pc := 1) 81 d_T_perform_1 (by decide) (by decide) rfl (by decide) ?_
    refine G_aload_n g (pc := 81) 0 d_T_perform_81 rfl rfl ?_
    refine G_getR g (pc := 82) fa_T_12 (hw.m _ (st_lt0 hp)) (hw.k (st_k0 hp)) (hw.r (st_r0_0 hp rr)) d_T_perform_82 ?_
    refine G_iload_n g (pc := 85) 2 d_T_perform_85 rfl rfl ?_
    refine G_iload_n g (pc := 86) 3 d_T_perform_86 rfl rfl ?_
    refine G_cVI g (pc := 87) (As := [.int a2, .int a3]) (st := []) cc_T_138 (c_K_renewBridle l hw (p + 1) (st_in1 hp) a2 a3 M) (hw.m _ (st_lt1 hp)) (hw.k (st_k1 hp)) rfl (by decide) rfl ⟨(Nat.le_of_ble_eq_true rfl), (Nat.le_of_ble_eq_true rfl)⟩ ⟨(Nat.le_of_ble_eq_true rfl), (Nat.le_of_ble_eq_true rfl)⟩ (Nat.le_of_ble_eq_true rfl) d_T_perform_87 (fun x9 M10 => ?_)
    exact G_ireturn g (pc := 90) hret (Nat.le_of_ble_eq_true rfl) (Nat.le_of_ble_eq_true rfl) d_T_perform_90
  refine G_case (v := (5 : Int32)) ?_ (fun ne5 => ?_)
  · refine G_tabK g (pc := 1) 91 d_T_perform_1 (by decide) (by decide) rfl (by decide) ?_
    refine G_aload_n g (pc := 91) 0 d_T_perform_91 rfl rfl ?_
    refine G_iload_n g (pc := 92) 2 d_T_perform_92 rfl rfl ?_
    refine G_cVI g (pc := 93) (As := [.int a2]) (st := []) cc_T_141 (c_T_changeInterval l hw p hp a2 M) (hw.m _ (st_lt0 hp)) (hw.k (st_k0 hp)) rfl (by decide) rfl ⟨(Nat.le_of_ble_eq_true rfl), (Nat.le_of_ble_eq_true rfl)⟩ ⟨(Nat.le_of_ble_eq_true rfl), (Nat.le_of_ble_eq_true rfl)⟩ (Nat.le_of_ble_eq_true rfl) d_T_perform_93 (fun x11 M12 => ?_)
    exact G_ireturn g (pc := 96) hret (Nat.le_of_ble_eq_true rfl) (Nat.le_of_ble_eq_true rfl) d_T_perform_96
  refine G_case (v := (6 : Int32)) ?_ (fun ne6 => ?_)
  · refine G_tabK g (pc := 1) 97 d_T_perform_1 (by decide) (by decide) rfl (by decide) ?_
    refine G_aload_n g (pc := 97) 0 d_T_perform_97 rfl rfl ?_
    refine G_getR g (pc := 98) fa_T_12 (hw.m _ (st_lt0 hp)) (hw.k (st_k0 hp)) (hw.r (st_r0_0 hp rr)) d_T_perform_98 ?_
    refine G_iload_n g (pc := 101) 2 d_T_perform_101 rfl rfl ?_
    refine G_cVI g (pc := 102) (As := [.int a2]) (st := []) cc_T_144 (c_K_searchAt l hw (p + 1) (st_in1 hp) a2 M) (hw.m _ (st_lt1 hp)) (hw.k (st_k1 hp)) rfl (by decide) rfl ⟨(Nat.le_of_ble_eq_true rfl), (Nat.le_of_ble_eq_true rfl)⟩ ⟨(Nat.le_of_ble_eq_true rfl), (Nat.le_of_ble_eq_true rfl)⟩ (Nat.le_of_ble_eq_true rfl) d_T_perform_102 (fun x13 M14 => ?_)
    exact G_ireturn g (pc := 105) hret (Nat.le_of_ble_eq_true rfl) (Nat.le_of_ble_eq_true rfl) d_T_perform_105
  refine G_case (v := (7 : Int32)) ?_ (fun ne7 => ?_)
  · refine G_tabK g (pc := 1) 106 d_T_perform_1 (by decide) (by decide) rfl (by decide) ?_
    refine G_aload_n g (pc := 106) 0 d_T_perform_106 rfl rfl ?_
    refine G_cVI g (pc := 107) (As := []) (st := []) cc_T_147 (c_T_moveSamples l N hw p hp M) (hw.m _ (st_lt0 hp)) (hw.k (st_k0 hp)) rfl (by decide) rfl ⟨(Nat.le_of_ble_eq_true rfl), (Nat.le_of_ble_eq_true rfl)⟩ ⟨(Nat.le_of_ble_eq_true rfl), (Nat.le_of_ble_eq_true rfl)⟩ (Nat.le_of_ble_eq_true rfl) d_T_perform_107 (fun x15 M16 => ?_)
    exact G_ireturn g (pc := 110) hret (Nat.le_of_ble_eq_true rfl) (Nat.le_of_ble_eq_true rfl) d_T_perform_110
  refine G_case (v := (8 : Int32)) ?_ (fun ne8 => ?_)
  · refine G_tabK g (pc := 1) 111 d_T_perform_1 (by decide) (by decide) rfl (by decide) ?_
    refine G_aload_n g (pc := 111) 0 d_T_perform_111 rfl rfl ?_
    refine G_iload_n g (pc := 112) 2 d_T_perform_112 rfl rfl ?_
    refine G_cVI g (pc := 113) (As := [.int a2]) (st := []) cc_T_150 (c_T_passMany l N hw p hp a2 M) (hw.m _ (st_lt0 hp)) (hw.k (st_k0 hp)) rfl (by decide) rfl ⟨(Nat.le_of_ble_eq_true rfl), (Nat.le_of_ble_eq_true rfl)⟩ ⟨(Nat.le_of_ble_eq_true rfl), (Nat.le_of_ble_eq_true rfl)⟩ (Nat.le_of_ble_eq_true rfl) d_T_perform_113 (fun x17 M18 => ?_)
    exact G_ireturn g (pc := 116) hret (Nat.le_of_ble_eq_true rfl) (Nat.le_of_ble_eq_true rfl) d_T_perform_116
  refine G_tabD g (pc := 1) 117 d_T_perform_1 (by have q1 : ¬ a1.toInt = 1 := lv_neT ne1 rfl; have q2 : ¬ a1.toInt = 2 := lv_neT ne2 rfl; have q3 : ¬ a1.toInt = 3 := lv_neT ne3 rfl; have q4 : ¬ a1.toInt = 4 := lv_neT ne4 rfl; have q5 : ¬ a1.toInt = 5 := lv_neT ne5 rfl; have q6 : ¬ a1.toInt = 6 := lv_neT ne6 rfl; have q7 : ¬ a1.toInt = 7 := lv_neT ne7 rfl; have q8 : ¬ a1.toInt = 8 := lv_neT ne8 rfl; omega) (by decide) ?_
  refine G_iconst g (pc := 117) (0 : Int32) d_T_perform_117 rfl ?_
  exact G_ireturn g (pc := 118) hret (Nat.le_of_ble_eq_true rfl) (Nat.le_of_ble_eq_true rfl) d_T_perform_118

theorem d_T_setUp_0 : decode b_T_setUp 0 = .ok (.aload_n 0, 1) := by decide +kernel
theorem d_T_setUp_1 : decode b_T_setUp 1 = .ok (.getfield 12, 3) := by decide +kernel
theorem d_T_setUp_4 : decode b_T_setUp 4 = .ok (.aload_n 1, 1) := by decide +kernel
theorem d_T_setUp_5 : decode b_T_setUp 5 = .ok (.getfield 54, 3) := by decide +kernel
theorem d_T_setUp_8 : decode b_T_setUp 8 = .ok (.aload_n 1, 1) := by decide +kernel
theorem d_T_setUp_9 : decode b_T_setUp 9 = .ok (.getfield 59, 3) := by decide +kernel
theorem d_T_setUp_12 : decode b_T_setUp 12 = .ok (.aload_n 1, 1) := by decide +kernel
theorem d_T_setUp_13 : decode b_T_setUp 13 = .ok (.getfield 62, 3) := by decide +kernel
theorem d_T_setUp_16 : decode b_T_setUp 16 = .ok (.invokevirtual 65, 3) := by decide +kernel
theorem d_T_setUp_19 : decode b_T_setUp 19 = .ok (.aload_n 1, 1) := by decide +kernel
theorem d_T_setUp_20 : decode b_T_setUp 20 = .ok (.getfield 69, 3) := by decide +kernel
theorem d_T_setUp_23 : decode b_T_setUp 23 = .ok (.aload_n 0, 1) := by decide +kernel
theorem d_T_setUp_24 : decode b_T_setUp 24 = .ok (.getfield 18, 3) := by decide +kernel
theorem d_T_setUp_27 : decode b_T_setUp 27 = .ok (.invokestatic 70, 3) := by decide +kernel
theorem d_T_setUp_30 : decode b_T_setUp 30 = .ok (.aload_n 0, 1) := by decide +kernel
theorem d_T_setUp_31 : decode b_T_setUp 31 = .ok (.aload_n 1, 1) := by decide +kernel
theorem d_T_setUp_32 : decode b_T_setUp 32 = .ok (.getfield 74, 3) := by decide +kernel
theorem d_T_setUp_35 : decode b_T_setUp 35 = .ok (.putfield 22, 3) := by decide +kernel
theorem d_T_setUp_38 : decode b_T_setUp 38 = .ok (.aload_n 0, 1) := by decide +kernel
theorem d_T_setUp_39 : decode b_T_setUp 39 = .ok (.getfield 29, 3) := by decide +kernel
theorem d_T_setUp_42 : decode b_T_setUp 42 = .ok (.invokevirtual 75, 3) := by decide +kernel
theorem d_T_setUp_45 : decode b_T_setUp 45 = .ok (.aload_n 0, 1) := by decide +kernel
theorem d_T_setUp_46 : decode b_T_setUp 46 = .ok (.getfield 38, 3) := by decide +kernel
theorem d_T_setUp_49 : decode b_T_setUp 49 = .ok (.invokevirtual 78, 3) := by decide +kernel
theorem d_T_setUp_52 : decode b_T_setUp 52 = .ok (.aload_n 0, 1) := by decide +kernel
theorem d_T_setUp_53 : decode b_T_setUp 53 = .ok (.getfield 42, 3) := by decide +kernel
theorem d_T_setUp_56 : decode b_T_setUp 56 = .ok (.invokevirtual 78, 3) := by decide +kernel
theorem d_T_setUp_59 : decode b_T_setUp 59 = .ok (.aload_n 0, 1) := by decide +kernel
theorem d_T_setUp_60 : decode b_T_setUp 60 = .ok (.aload_n 1, 1) := by decide +kernel
theorem d_T_setUp_61 : decode b_T_setUp 61 = .ok (.getfield 80, 3) := by decide +kernel
theorem d_T_setUp_64 : decode b_T_setUp 64 = .ok (.putfield 45, 3) := by decide +kernel
theorem d_T_setUp_67 : decode b_T_setUp 67 = .ok (.aload_n 0, 1) := by decide +kernel
theorem d_T_setUp_68 : decode b_T_setUp 68 = .ok (.iconst 0, 1) := by decide +kernel
theorem d_T_setUp_69 : decode b_T_setUp 69 = .ok (.putfield 48, 3) := by decide +kernel
theorem d_T_setUp_72 : decode b_T_setUp 72 = .ok (.aload_n 0, 1) := by decide +kernel
theorem d_T_setUp_73 : decode b_T_setUp 73 = .ok (.iconst 0, 1) := by decide +kernel
theorem d_T_setUp_74 : decode b_T_setUp 74 = .ok (.putfield 51, 3) := by decide +kernel
theorem d_T_setUp_77 : decode b_T_setUp 77 = .ok (.return_, 1) := by decide +kernel
theorem cc_T_65 : CV "KiteLogger$Station" 65 y_K_setUp b_K_setUp 4 none 3 := ⟨TT_in (i := 431) (by decide +kernel) (by decide +kernel), TT_in (i := 432) (by decide +kernel) (by decide +kernel), TT_in (i := 433) (by decide +kernel) (by decide +kernel), TT_in (i := 95) (by decide +kernel) (by decide +kernel), TT_in (i := 434) (by decide +kernel) (by decide +kernel), ⟨by decide +kernel, by decide +kernel, by decide +kernel⟩⟩
theorem cc_T_70 : CSN "KiteLogger$Station" 70 "KiteLogger" y_G_copyRow b_G_copyRow 2 none 2 := ⟨NW_in (i := 435) (by decide +kernel) (by decide +kernel), TT_in (i := 174) (by decide +kernel) (by decide +kernel), TT_in (i := 88) (by decide +kernel) (by decide +kernel), TT_in (i := 175) (by decide +kernel) (by decide +kernel), ⟨by decide +kernel, by decide +kernel, by decide +kernel⟩⟩
theorem cc_T_78 : CV "KiteLogger$Station" 78 y_S_setUp b_S_setUp 1 none 0 := ⟨TT_in (i := 440) (by decide +kernel) (by decide +kernel), TT_in (i := 441) (by decide +kernel) (by decide +kernel), TT_in (i := 442) (by decide +kernel) (by decide +kernel), TT_in (i := 97) (by decide +kernel) (by decide +kernel), TT_in (i := 443) (by decide +kernel) (by decide +kernel), ⟨by decide +kernel, by decide +kernel, by decide +kernel⟩⟩
def f_T_setUp (p : Nat) (M : Mem) : Option (Mem) :=
  bndM (f_K_setUp (p + 1) (M 3 0) (M 3 1) (M 3 2) M) fun (M2 : Mem) => bndM (f_G_copyRow 4 (p + 2) M2) fun (M4 : Mem) => nm (put M4 p 2 (M4 3 5)) fun (M5 : Mem) => bndM (f_B_empty (p + 3) M5) fun (M7 : Mem) => bndM (f_S_setUp (p + 5) M7) fun (M9 : Mem) => bndM (f_S_setUp (p + 9) M9) fun (M11 : Mem) => nm (put M11 p 6 (M11 3 3)) fun (M12 : Mem) => nm (put M12 p 7 (0 : Int32)) fun (M13 : Mem) => nm (put M13 p 8 (0 : Int32)) fun (M14 : Mem) => some M14
set_option maxHeartbeats 4000000 in
set_option maxRecDepth 100000 in
theorem c_T_setUp (l : Launch) {w : Wc} {rr : Nat} (hw : WK w rr) (p : Nat) (hp : p ∈ stL) (M : Mem) : Ct QV l y_T_setUp b_T_setUp 2 none (rmL 2) w [.ref (wad w p), .ref (wad w 3)] M (f_T_setUp p M) := by
  refine Ct.go (by decide) (L := [(0, .ref (wad w p)), (1, .ref (wad w 3))]) rfl (Nat.le_of_ble_eq_true rfl) (fun p0 e s m args below meth c g hret => ?_)
  unfold f_T_setUp
  refine G_aload_n g (pc := 0) 0 d_T_setUp_0 rfl rfl ?_
  refine G_getR g (pc := 1) fa_T_12 (hw.m _ (st_lt0 hp)) (hw.k (st_k0 hp)) (hw.r (st_r0_0 hp rr)) d_T_setUp_1 ?_
  refine G_aload_n g (pc := 4) 1 d_T_setUp_4 rfl rfl ?_
  refine G_getN g (pc := 5) fa_T_54 (hw.m 3 (Nat.le_of_ble_eq_true rfl)) (hw.k (zk3 rr)) d_T_setUp_5 ?_
  refine G_aload_n g (pc := 8) 1 d_T_setUp_8 rfl rfl ?_
  refine G_getN g (pc := 9) fa_T_59 (hw.m 3 (Nat.le_of_ble_eq_true rfl)) (hw.k (zk3 rr)) d_T_setUp_9 ?_
  refine G_aload_n g (pc := 12) 1 d_T_setUp_12 rfl rfl ?_
  refine G_getN g (pc := 13) fa_T_62 (hw.m 3 (Nat.le_of_ble_eq_true rfl)) (hw.k (zk3 rr)) d_T_setUp_13 ?_
  refine G_cVV g (pc := 16) (As := [.int (M 3 0), .int (M 3 1), .int (M 3 2)]) (st := []) cc_T_65 (c_K_setUp l hw (p + 1) (st_in1 hp) (M 3 0) (M 3 1) (M 3 2) M) (hw.m _ (st_lt1 hp)) (hw.k (st_k1 hp)) rfl (by decide) rfl ⟨(Nat.le_of_ble_eq_true rfl), (Nat.le_of_ble_eq_true rfl)⟩ ⟨(Nat.le_of_ble_eq_true rfl), (Nat.le_of_ble_eq_true rfl)⟩ (Nat.le_of_ble_eq_true rfl) d_T_setUp_16 (fun M2 => ?_)
  refine G_aload_n g (pc := 19) 1 d_T_setUp_19 rfl rfl ?_
  refine G_getRN g (pc := 20) fa_T_69 (hw.m 3 (Nat.le_of_ble_eq_true rfl)) (hw.k (zk3 rr)) (hw.r (zr3_4 rr)) d_T_setUp_20 ?_
  refine G_aload_n g (pc := 23) 0 d_T_setUp_23 rfl rfl ?_
  refine G_getR g (pc := 24) fa_T_18 (hw.m _ (st_lt0 hp)) (hw.k (st_k0 hp)) (hw.r (st_r0_1 hp rr)) d_T_setUp_24 ?_
  refine G_cSNV g (pc := 27) (As := [.ref (wad w 4), .ref (wad w (p + 2))]) (st := []) cc_T_70 (c_G_copyRow l hw 4 (hw.m 4 (Nat.le_of_ble_eq_true rfl)) (hw.k (zk4 rr)) (p + 2) (hw.m _ (st_lt2 hp)) (hw.k (st_k2 hp)) M2) rfl ⟨(Nat.le_of_ble_eq_true rfl), (Nat.le_of_ble_eq_true rfl)⟩ ⟨(Nat.le_of_ble_eq_true rfl), (Nat.le_of_ble_eq_true rfl)⟩ (Nat.le_of_ble_eq_true rfl) d_T_setUp_27 (fun M4 => ?_)
  refine G_aload_n g (pc := 30) 0 d_T_setUp_30 rfl rfl ?_
  refine G_aload_n g (pc := 31) 1 d_T_setUp_31 rfl rfl ?_
  refine G_getN g (pc := 32) fa_T_74 (hw.m 3 (Nat.le_of_ble_eq_true rfl)) (hw.k (zk3 rr)) d_T_setUp_32 ?_
  refine G_put g (pc := 35) fa_T_22 fw_5_2 rfl rfl (hw.m _ (st_lt0 hp)) (hw.k (st_k0 hp)) d_T_setUp_35 ?_
  refine G_nmM (fun M5 => ?_)
  refine G_aload_n g (pc := 38) 0 d_T_setUp_38 rfl rfl ?_
  refine G_getR g (pc := 39) fa_T_29 (hw.m _ (st_lt0 hp)) (hw.k (st_k0 hp)) (hw.r (st_r0_3 hp rr)) d_T_setUp_39 ?_
  refine G_cVV g (pc := 42) (As := []) (st := []) cc_T_75 (c_B_empty l hw (p + 3) (st_in3 hp) M5) (hw.m _ (st_lt3 hp)) (hw.k (st_k3 hp)) rfl (by decide) rfl ⟨(Nat.le_of_ble_eq_true rfl), (Nat.le_of_ble_eq_true rfl)⟩ ⟨(Nat.le_of_ble_eq_true rfl), (Nat.le_of_ble_eq_true rfl)⟩ (Nat.le_of_ble_eq_true rfl) d_T_setUp_42 (fun M7 => ?_)
  refine G_aload_n g (pc := 45) 0 d_T_setUp_45 rfl rfl ?_
  refine G_getR g (pc := 46) fa_T_38 (hw.m _ (st_lt0 hp)) (hw.k (st_k0 hp)) (hw.r (st_r0_4 hp rr)) d_T_setUp_46 ?_
  refine G_cVV g (pc := 49) (As := []) (st := []) cc_T_78 (c_S_setUp l hw (p + 5) (st_in5 hp) M7) (hw.m _ (st_lt5 hp)) (hw.k (st_k5 hp)) rfl (by decide) rfl ⟨(Nat.le_of_ble_eq_true rfl), (Nat.le_of_ble_eq_true rfl)⟩ ⟨(Nat.le_of_ble_eq_true rfl), (Nat.le_of_ble_eq_true rfl)⟩ (Nat.le_of_ble_eq_true rfl) d_T_setUp_49 (fun M9 => ?_)
  refine G_aload_n g (pc := 52) 0 d_T_setUp_52 rfl rfl ?_
  refine G_getR g (pc := 53) fa_T_42 (hw.m _ (st_lt0 hp)) (hw.k (st_k0 hp)) (hw.r (st_r0_5 hp rr)) d_T_setUp_53 ?_
  refine G_cVV g (pc := 56) (As := []) (st := []) cc_T_78 (c_S_setUp l hw (p + 9) (st_in9 hp) M9) (hw.m _ (st_lt9 hp)) (hw.k (st_k9 hp)) rfl (by decide) rfl ⟨(Nat.le_of_ble_eq_true rfl), (Nat.le_of_ble_eq_true rfl)⟩ ⟨(Nat.le_of_ble_eq_true rfl), (Nat.le_of_ble_eq_true rfl)⟩ (Nat.le_of_ble_eq_true rfl) d_T_setUp_56 (fun M11 => ?_)
  refine G_aload_n g (pc := 59) 0 d_T_setUp_59 rfl rfl ?_
  refine G_aload_n g (pc := 60) 1 d_T_setUp_60 rfl rfl ?_
  refine G_getN g (pc := 61) fa_T_80 (hw.m 3 (Nat.le_of_ble_eq_true rfl)) (hw.k (zk3 rr)) d_T_setUp_61 ?_
  refine G_put g (pc := 64) fa_T_45 fw_5_6 rfl rfl (hw.m _ (st_lt0 hp)) (hw.k (st_k0 hp)) d_T_setUp_64 ?_
  refine G_nmM (fun M12 => ?_)
  refine G_aload_n g (pc := 67) 0 d_T_setUp_67 rfl rfl ?_
  refine G_iconst g (pc := 68) (0 : Int32) d_T_setUp_68 rfl ?_
  refine G_put g (pc := 69) fa_T_48 fw_5_7 rfl rfl (hw.m _ (st_lt0 hp)) (hw.k (st_k0 hp)) d_T_setUp_69 ?_
  refine G_nmM (fun M13 => ?_)
  refine G_aload_n g (pc := 72) 0 d_T_setUp_72 rfl rfl ?_
  refine G_iconst g (pc := 73) (0 : Int32) d_T_setUp_73 rfl ?_
  refine G_put g (pc := 74) fa_T_51 fw_5_8 rfl rfl (hw.m _ (st_lt0 hp)) (hw.k (st_k0 hp)) d_T_setUp_74 ?_
  refine G_nmM (fun M14 => ?_)
  exact G_return g (pc := 77) hret (Nat.le_of_ble_eq_true rfl) (Nat.le_of_ble_eq_true rfl) d_T_setUp_77

theorem d_T_copyFrom_0 : decode b_T_copyFrom 0 = .ok (.aload_n 0, 1) := by decide +kernel
theorem d_T_copyFrom_1 : decode b_T_copyFrom 1 = .ok (.getfield 12, 3) := by decide +kernel
theorem d_T_copyFrom_4 : decode b_T_copyFrom 4 = .ok (.aload_n 1, 1) := by decide +kernel
theorem d_T_copyFrom_5 : decode b_T_copyFrom 5 = .ok (.getfield 12, 3) := by decide +kernel
theorem d_T_copyFrom_8 : decode b_T_copyFrom 8 = .ok (.invokevirtual 81, 3) := by decide +kernel
theorem d_T_copyFrom_11 : decode b_T_copyFrom 11 = .ok (.aload_n 1, 1) := by decide +kernel
theorem d_T_copyFrom_12 : decode b_T_copyFrom 12 = .ok (.getfield 18, 3) := by decide +kernel
theorem d_T_copyFrom_15 : decode b_T_copyFrom 15 = .ok (.aload_n 0, 1) := by decide +kernel
theorem d_T_copyFrom_16 : decode b_T_copyFrom 16 = .ok (.getfield 18, 3) := by decide +kernel
theorem d_T_copyFrom_19 : decode b_T_copyFrom 19 = .ok (.invokestatic 70, 3) := by decide +kernel
theorem d_T_copyFrom_22 : decode b_T_copyFrom 22 = .ok (.aload_n 0, 1) := by decide +kernel
theorem d_T_copyFrom_23 : decode b_T_copyFrom 23 = .ok (.aload_n 1, 1) := by decide +kernel
theorem d_T_copyFrom_24 : decode b_T_copyFrom 24 = .ok (.getfield 22, 3) := by decide +kernel
theorem d_T_copyFrom_27 : decode b_T_copyFrom 27 = .ok (.putfield 22, 3) := by decide +kernel
theorem d_T_copyFrom_30 : decode b_T_copyFrom 30 = .ok (.aload_n 0, 1) := by decide +kernel
theorem d_T_copyFrom_31 : decode b_T_copyFrom 31 = .ok (.getfield 29, 3) := by decide +kernel
theorem d_T_copyFrom_34 : decode b_T_copyFrom 34 = .ok (.aload_n 1, 1) := by decide +kernel
theorem d_T_copyFrom_35 : decode b_T_copyFrom 35 = .ok (.getfield 29, 3) := by decide +kernel
theorem d_T_copyFrom_38 : decode b_T_copyFrom 38 = .ok (.invokevirtual 85, 3) := by decide +kernel
theorem d_T_copyFrom_41 : decode b_T_copyFrom 41 = .ok (.aload_n 0, 1) := by decide +kernel
theorem d_T_copyFrom_42 : decode b_T_copyFrom 42 = .ok (.getfield 38, 3) := by decide +kernel
theorem d_T_copyFrom_45 : decode b_T_copyFrom 45 = .ok (.aload_n 1, 1) := by decide +kernel
theorem d_T_copyFrom_46 : decode b_T_copyFrom 46 = .ok (.getfield 38, 3) := by decide +kernel
theorem d_T_copyFrom_49 : decode b_T_copyFrom 49 = .ok (.invokevirtual 88, 3) := by decide +kernel
theorem d_T_copyFrom_52 : decode b_T_copyFrom 52 = .ok (.aload_n 0, 1) := by decide +kernel
theorem d_T_copyFrom_53 : decode b_T_copyFrom 53 = .ok (.getfield 42, 3) := by decide +kernel
theorem d_T_copyFrom_56 : decode b_T_copyFrom 56 = .ok (.aload_n 1, 1) := by decide +kernel
theorem d_T_copyFrom_57 : decode b_T_copyFrom 57 = .ok (.getfield 42, 3) := by decide +kernel
theorem d_T_copyFrom_60 : decode b_T_copyFrom 60 = .ok (.invokevirtual 88, 3) := by decide +kernel
theorem d_T_copyFrom_63 : decode b_T_copyFrom 63 = .ok (.aload_n 0, 1) := by decide +kernel
theorem d_T_copyFrom_64 : decode b_T_copyFrom 64 = .ok (.aload_n 1, 1) := by decide +kernel
theorem d_T_copyFrom_65 : decode b_T_copyFrom 65 = .ok (.getfield 45, 3) := by decide +kernel
theorem d_T_copyFrom_68 : decode b_T_copyFrom 68 = .ok (.putfield 45, 3) := by decide +kernel
theorem d_T_copyFrom_71 : decode b_T_copyFrom 71 = .ok (.aload_n 0, 1) := by decide +kernel
theorem d_T_copyFrom_72 : decode b_T_copyFrom 72 = .ok (.aload_n 1, 1) := by decide +kernel
theorem d_T_copyFrom_73 : decode b_T_copyFrom 73 = .ok (.getfield 48, 3) := by decide +kernel
theorem d_T_copyFrom_76 : decode b_T_copyFrom 76 = .ok (.putfield 48, 3) := by decide +kernel
theorem d_T_copyFrom_79 : decode b_T_copyFrom 79 = .ok (.aload_n 0, 1) := by decide +kernel
theorem d_T_copyFrom_80 : decode b_T_copyFrom 80 = .ok (.aload_n 1, 1) := by decide +kernel
theorem d_T_copyFrom_81 : decode b_T_copyFrom 81 = .ok (.getfield 51, 3) := by decide +kernel
theorem d_T_copyFrom_84 : decode b_T_copyFrom 84 = .ok (.putfield 51, 3) := by decide +kernel
theorem d_T_copyFrom_87 : decode b_T_copyFrom 87 = .ok (.return_, 1) := by decide +kernel
theorem cc_T_81 : CV "KiteLogger$Station" 81 y_K_copyFrom b_K_copyFrom 2 none 1 := ⟨TT_in (i := 763) (by decide +kernel) (by decide +kernel), TT_in (i := 689) (by decide +kernel) (by decide +kernel), TT_in (i := 690) (by decide +kernel) (by decide +kernel), TT_in (i := 95) (by decide +kernel) (by decide +kernel), TT_in (i := 691) (by decide +kernel) (by decide +kernel), ⟨by decide +kernel, by decide +kernel, by decide +kernel⟩⟩
theorem cc_T_85 : CV "KiteLogger$Station" 85 y_B_copyFrom b_B_copyFrom 2 none 1 := ⟨TT_in (i := 764) (by decide +kernel) (by decide +kernel), TT_in (i := 765) (by decide +kernel) (by decide +kernel), TT_in (i := 766) (by decide +kernel) (by decide +kernel), TT_in (i := 96) (by decide +kernel) (by decide +kernel), TT_in (i := 767) (by decide +kernel) (by decide +kernel), ⟨by decide +kernel, by decide +kernel, by decide +kernel⟩⟩
theorem cc_T_88 : CV "KiteLogger$Station" 88 y_S_copyFrom b_S_copyFrom 2 none 1 := ⟨TT_in (i := 769) (by decide +kernel) (by decide +kernel), TT_in (i := 770) (by decide +kernel) (by decide +kernel), TT_in (i := 771) (by decide +kernel) (by decide +kernel), TT_in (i := 97) (by decide +kernel) (by decide +kernel), TT_in (i := 772) (by decide +kernel) (by decide +kernel), ⟨by decide +kernel, by decide +kernel, by decide +kernel⟩⟩
def f_T_copyFrom (p : Nat) (a1 : Nat) (M : Mem) : Option (Mem) :=
  bndM (f_K_copyFrom (p + 1) (a1 + 1) M) fun (M2 : Mem) => bndM (f_G_copyRow (a1 + 2) (p + 2) M2) fun (M4 : Mem) => nm (put M4 p 2 (M4 a1 2)) fun (M5 : Mem) => bndM (f_B_copyFrom (p + 3) (a1 + 3) M5) fun (M7 : Mem) => bndM (f_S_copyFrom (p + 5) (a1 + 5) M7) fun (M9 : Mem) => bndM (f_S_copyFrom (p + 9) (a1 + 9) M9) fun (M11 : Mem) => nm (put M11 p 6 (M11 a1 6)) fun (M12 : Mem) => nm (put M12 p 7 (M12 a1 7)) fun (M13 : Mem) => nm (put M13 p 8 (M13 a1 8)) fun (M14 : Mem) => some M14
set_option maxHeartbeats 4000000 in
set_option maxRecDepth 100000 in
theorem c_T_copyFrom (l : Launch) {w : Wc} {rr : Nat} (hw : WK w rr) (p : Nat) (hp : p ∈ stL) (a1 : Nat) (ha1 : a1 ∈ stL) (M : Mem) : Ct QV l y_T_copyFrom b_T_copyFrom 2 none (rmL 3) w [.ref (wad w p), .ref (wad w a1)] M (f_T_copyFrom p a1 M) := by
  refine Ct.go (by decide) (L := [(0, .ref (wad w p)), (1, .ref (wad w a1))]) rfl (Nat.le_of_ble_eq_true rfl) (fun p0 e s m args below meth c g hret => ?_)
  unfold f_T_copyFrom
  refine G_aload_n g (pc := 0) 0 d_T_copyFrom_0 rfl rfl ?_
  refine G_getR g (pc := 1) fa_T_12 (hw.m _ (st_lt0 hp)) (hw.k (st_k0 hp)) (hw.r (st_r0_0 hp rr)) d_T_copyFrom_1 ?_
  refine G_aload_n g (pc := 4) 1 d_T_copyFrom_4 rfl rfl ?_
  refine G_getR g (pc := 5) fa_T_12 (hw.m _ (st_lt0 ha1)) (hw.k (st_k0 ha1)) (hw.r (st_r0_0 ha1 rr)) d_T_copyFrom_5 ?_
  refine G_cVV g (pc := 8) (As := [.ref (wad w (a1 + 1))]) (st := []) cc_T_81 (c_K_copyFrom l hw (p + 1) (st_in1 hp) (a1 + 1) (st_in1 ha1) M) (hw.m _ (st_lt1 hp)) (hw.k (st_k1 hp)) rfl (by decide) rfl ⟨(Nat.le_of_ble_eq_true rfl), (Nat.le_of_ble_eq_true rfl)⟩ ⟨(Nat.le_of_ble_eq_true rfl), (Nat.le_of_ble_eq_true rfl)⟩ (Nat.le_of_ble_eq_true rfl) d_T_copyFrom_8 (fun M2 => ?_)
  refine G_aload_n g (pc := 11) 1 d_T_copyFrom_11 rfl rfl ?_
  refine G_getR g (pc := 12) fa_T_18 (hw.m _ (st_lt0 ha1)) (hw.k (st_k0 ha1)) (hw.r (st_r0_1 ha1 rr)) d_T_copyFrom_12 ?_
  refine G_aload_n g (pc := 15) 0 d_T_copyFrom_15 rfl rfl ?_
  refine G_getR g (pc := 16) fa_T_18 (hw.m _ (st_lt0 hp)) (hw.k (st_k0 hp)) (hw.r (st_r0_1 hp rr)) d_T_copyFrom_16 ?_
  refine G_cSNV g (pc := 19) (As := [.ref (wad w (a1 + 2)), .ref (wad w (p + 2))]) (st := []) cc_T_70 (c_G_copyRow l hw (a1 + 2) (hw.m _ (st_lt2 ha1)) (hw.k (st_k2 ha1)) (p + 2) (hw.m _ (st_lt2 hp)) (hw.k (st_k2 hp)) M2) rfl ⟨(Nat.le_of_ble_eq_true rfl), (Nat.le_of_ble_eq_true rfl)⟩ ⟨(Nat.le_of_ble_eq_true rfl), (Nat.le_of_ble_eq_true rfl)⟩ (Nat.le_of_ble_eq_true rfl) d_T_copyFrom_19 (fun M4 => ?_)
  refine G_aload_n g (pc := 22) 0 d_T_copyFrom_22 rfl rfl ?_
  refine G_aload_n g (pc := 23) 1 d_T_copyFrom_23 rfl rfl ?_
  refine G_get g (pc := 24) fa_T_22 (hw.m _ (st_lt0 ha1)) (hw.k (st_k0 ha1)) d_T_copyFrom_24 ?_
  refine G_put g (pc := 27) fa_T_22 fw_5_2 rfl rfl (hw.m _ (st_lt0 hp)) (hw.k (st_k0 hp)) d_T_copyFrom_27 ?_
  refine G_nmM (fun M5 => ?_)
  refine G_aload_n g (pc := 30) 0 d_T_copyFrom_30 rfl rfl ?_
  refine G_getR g (pc := 31) fa_T_29 (hw.m _ (st_lt0 hp)) (hw.k (st_k0 hp)) (hw.r (st_r0_3 hp rr)) d_T_copyFrom_31 ?_
  refine G_aload_n g (pc := 34) 1 d_T_copyFrom_34 rfl rfl ?_
  refine G_getR g (pc := 35) fa_T_29 (hw.m _ (st_lt0 ha1)) (hw.k (st_k0 ha1)) (hw.r (st_r0_3 ha1 rr)) d_T_copyFrom_35 ?_
  refine G_cVV g (pc := 38) (As := [.ref (wad w (a1 + 3))]) (st := []) cc_T_85 (c_B_copyFrom l hw (p + 3) (st_in3 hp) (a1 + 3) (st_in3 ha1) M5) (hw.m _ (st_lt3 hp)) (hw.k (st_k3 hp)) rfl (by decide) rfl ⟨(Nat.le_of_ble_eq_true rfl), (Nat.le_of_ble_eq_true rfl)⟩ ⟨(Nat.le_of_ble_eq_true rfl), (Nat.le_of_ble_eq_true rfl)⟩ (Nat.le_of_ble_eq_true rfl) d_T_copyFrom_38 (fun M7 => ?_)
  refine G_aload_n g (pc := 41) 0 d_T_copyFrom_41 rfl rfl ?_
  refine G_getR g (pc := 42) fa_T_38 (hw.m _ (st_lt0 hp)) (hw.k (st_k0 hp)) (hw.r (st_r0_4 hp rr)) d_T_copyFrom_42 ?_
  refine G_aload_n g (pc := 45) 1 d_T_copyFrom_45 rfl rfl ?_
  refine G_getR g (pc := 46) fa_T_38 (hw.m _ (st_lt0 ha1)) (hw.k (st_k0 ha1)) (hw.r (st_r0_4 ha1 rr)) d_T_copyFrom_46 ?_
  refine G_cVV g (pc := 49) (As := [.ref (wad w (a1 + 5))]) (st := []) cc_T_88 (c_S_copyFrom l hw (p + 5) (st_in5 hp) (a1 + 5) (st_in5 ha1) M7) (hw.m _ (st_lt5 hp)) (hw.k (st_k5 hp)) rfl (by decide) rfl ⟨(Nat.le_of_ble_eq_true rfl), (Nat.le_of_ble_eq_true rfl)⟩ ⟨(Nat.le_of_ble_eq_true rfl), (Nat.le_of_ble_eq_true rfl)⟩ (Nat.le_of_ble_eq_true rfl) d_T_copyFrom_49 (fun M9 => ?_)
  refine G_aload_n g (pc := 52) 0 d_T_copyFrom_52 rfl rfl ?_
  refine G_getR g (pc := 53) fa_T_42 (hw.m _ (st_lt0 hp)) (hw.k (st_k0 hp)) (hw.r (st_r0_5 hp rr)) d_T_copyFrom_53 ?_
  refine G_aload_n g (pc := 56) 1 d_T_copyFrom_56 rfl rfl ?_
  refine G_getR g (pc := 57) fa_T_42 (hw.m _ (st_lt0 ha1)) (hw.k (st_k0 ha1)) (hw.r (st_r0_5 ha1 rr)) d_T_copyFrom_57 ?_
  refine G_cVV g (pc := 60) (As := [.ref (wad w (a1 + 9))]) (st := []) cc_T_88 (c_S_copyFrom l hw (p + 9) (st_in9 hp) (a1 + 9) (st_in9 ha1) M9) (hw.m _ (st_lt9 hp)) (hw.k (st_k9 hp)) rfl (by decide) rfl ⟨(Nat.le_of_ble_eq_true rfl), (Nat.le_of_ble_eq_true rfl)⟩ ⟨(Nat.le_of_ble_eq_true rfl), (Nat.le_of_ble_eq_true rfl)⟩ (Nat.le_of_ble_eq_true rfl) d_T_copyFrom_60 (fun M11 => ?_)
  refine G_aload_n g (pc := 63) 0 d_T_copyFrom_63 rfl rfl ?_
  refine G_aload_n g (pc := 64) 1 d_T_copyFrom_64 rfl rfl ?_
  refine G_get g (pc := 65) fa_T_45 (hw.m _ (st_lt0 ha1)) (hw.k (st_k0 ha1)) d_T_copyFrom_65 ?_
  refine G_put g (pc := 68) fa_T_45 fw_5_6 rfl rfl (hw.m _ (st_lt0 hp)) (hw.k (st_k0 hp)) d_T_copyFrom_68 ?_
  refine G_nmM (fun M12 => ?_)
  refine G_aload_n g (pc := 71) 0 d_T_copyFrom_71 rfl rfl ?_
  refine G_aload_n g (pc := 72) 1 d_T_copyFrom_72 rfl rfl ?_
  refine G_get g (pc := 73) fa_T_48 (hw.m _ (st_lt0 ha1)) (hw.k (st_k0 ha1)) d_T_copyFrom_73 ?_
  refine G_put g (pc := 76) fa_T_48 fw_5_7 rfl rfl (hw.m _ (st_lt0 hp)) (hw.k (st_k0 hp)) d_T_copyFrom_76 ?_
  refine G_nmM (fun M13 => ?_)
  refine G_aload_n g (pc := 79) 0 d_T_copyFrom_79 rfl rfl ?_
  refine G_aload_n g (pc := 80) 1 d_T_copyFrom_80 rfl rfl ?_
  refine G_get g (pc := 81) fa_T_51 (hw.m _ (st_lt0 ha1)) (hw.k (st_k0 ha1)) d_T_copyFrom_81 ?_
  refine G_put g (pc := 84) fa_T_51 fw_5_8 rfl rfl (hw.m _ (st_lt0 hp)) (hw.k (st_k0 hp)) d_T_copyFrom_84 ?_
  refine G_nmM (fun M14 => ?_)
  exact G_return g (pc := 87) hret (Nat.le_of_ble_eq_true rfl) (Nat.le_of_ble_eq_true rfl) d_T_copyFrom_87
end
section
theorem d_H_forget_0 : decode b_H_forget 0 = .ok (.aload_n 0, 1) := by decide +kernel
theorem d_H_forget_1 : decode b_H_forget 1 = .ok (.iconst 0, 1) := by decide +kernel
theorem d_H_forget_2 : decode b_H_forget 2 = .ok (.putfield 17, 3) := by decide +kernel
theorem d_H_forget_5 : decode b_H_forget 5 = .ok (.aload_n 0, 1) := by decide +kernel
theorem d_H_forget_6 : decode b_H_forget 6 = .ok (.iconst 0, 1) := by decide +kernel
theorem d_H_forget_7 : decode b_H_forget 7 = .ok (.putfield 21, 3) := by decide +kernel
theorem d_H_forget_10 : decode b_H_forget 10 = .ok (.return_, 1) := by decide +kernel
def f_H_forget  (M : Mem) : Option (Mem) :=
  nm (put M 24 1 (0 : Int32)) fun (M1 : Mem) => nm (put M1 24 2 (0 : Int32)) fun (M2 : Mem) => some M2
set_option maxHeartbeats 4000000 in
set_option maxRecDepth 100000 in
theorem c_H_forget (l : Launch) {w : Wc} {rr : Nat} (hw : WK w rr)  (M : Mem) : Ct QV l y_H_forget b_H_forget 1 none (rmL 0) w [.ref (wad w 24)] M (f_H_forget  M) := by
  refine Ct.go (by decide) (L := [(0, .ref (wad w 24))]) rfl (Nat.le_of_ble_eq_true rfl) (fun p0 e s m args below meth c g hret => ?_)
  unfold f_H_forget
  refine G_aload_n g (pc := 0) 0 d_H_forget_0 rfl rfl ?_
  refine G_iconst g (pc := 1) (0 : Int32) d_H_forget_1 rfl ?_
  refine G_put g (pc := 2) fa_H_17 fw_0_1 rfl rfl (hw.m 24 (Nat.le_of_ble_eq_true rfl)) (hw.k (zk24 rr)) d_H_forget_2 ?_
  refine G_nmM (fun M1 => ?_)
  refine G_aload_n g (pc := 5) 0 d_H_forget_5 rfl rfl ?_
  refine G_iconst g (pc := 6) (0 : Int32) d_H_forget_6 rfl ?_
  refine G_put g (pc := 7) fa_H_21 fw_0_2 rfl rfl (hw.m 24 (Nat.le_of_ble_eq_true rfl)) (hw.k (zk24 rr)) d_H_forget_7 ?_
  refine G_nmM (fun M2 => ?_)
  exact G_return g (pc := 10) hret (Nat.le_of_ble_eq_true rfl) (Nat.le_of_ble_eq_true rfl) d_H_forget_10

theorem d_H_placeAt_0 : decode b_H_placeAt 0 = .ok (.iload_n 1, 1) := by decide +kernel
theorem d_H_placeAt_1 : decode b_H_placeAt 1 = .ok (.ifCond .lt 21, 3) := by decide +kernel
theorem d_H_placeAt_4 : decode b_H_placeAt 4 = .ok (.iload_n 1, 1) := by decide +kernel
theorem d_H_placeAt_5 : decode b_H_placeAt 5 = .ok (.aload_n 0, 1) := by decide +kernel
theorem d_H_placeAt_6 : decode b_H_placeAt 6 = .ok (.getfield 11, 3) := by decide +kernel
theorem d_H_placeAt_9 : decode b_H_placeAt 9 = .ok (.arraylength, 1) := by decide +kernel
theorem d_H_placeAt_10 : decode b_H_placeAt 10 = .ok (.if_icmp .ge 12, 3) := by decide +kernel
theorem d_H_placeAt_13 : decode b_H_placeAt 13 = .ok (.aload_n 0, 1) := by decide +kernel
theorem d_H_placeAt_14 : decode b_H_placeAt 14 = .ok (.getfield 11, 3) := by decide +kernel
theorem d_H_placeAt_17 : decode b_H_placeAt 17 = .ok (.iload_n 1, 1) := by decide +kernel
theorem d_H_placeAt_18 : decode b_H_placeAt 18 = .ok (.aaload, 1) := by decide +kernel
theorem d_H_placeAt_19 : decode b_H_placeAt 19 = .ok (.goto 4, 3) := by decide +kernel
theorem d_H_placeAt_22 : decode b_H_placeAt 22 = .ok (.aconst_null, 1) := by decide +kernel
theorem d_H_placeAt_23 : decode b_H_placeAt 23 = .ok (.areturn, 1) := by decide +kernel
def f_H_placeAt (rr : Nat) (a1 : Int32) (M : Mem) : Option (Option Nat × Mem) :=
  if a1 < 0 then (some (none, M)) else (if a1 < (8 : Int32) then (grd (inB a1 8) (some ((Z0 rr 25).2.2 a1.toNatClampNeg, M))) else (some (none, M)))
set_option maxHeartbeats 4000000 in
set_option maxRecDepth 100000 in
theorem c_H_placeAt (l : Launch) {w : Wc} {rr : Nat} (hw : WK w rr) (a1 : Int32) (M : Mem) : Ct QR l y_H_placeAt b_H_placeAt 2 (some (.object "KiteLogger$Station")) (rmL 0) w [.ref (wad w 24), .int a1] M (f_H_placeAt rr a1 M) := by
  refine Ct.go (by decide) (L := [(0, .ref (wad w 24)), (1, .int a1)]) rfl (Nat.le_of_ble_eq_true rfl) (fun p0 e s m args below meth c g hret => ?_)
  unfold f_H_placeAt
  refine G_iload_n g (pc := 0) 1 d_H_placeAt_0 rfl rfl ?_
  refine G_if_lt g (pc := 1) 22 d_H_placeAt_1 (by decide) ?_ ?_
  · refine G_null g (pc := 22) d_H_placeAt_22 ?_
    exact G_areturn g (pc := 23) (none) rfl hret (Or.inl ⟨_, rfl⟩) (Nat.le_of_ble_eq_true rfl) (Nat.le_of_ble_eq_true rfl) d_H_placeAt_23
  · refine G_iload_n g (pc := 4) 1 d_H_placeAt_4 rfl rfl ?_
    refine G_aload_n g (pc := 5) 0 d_H_placeAt_5 rfl rfl ?_
    refine G_getR g (pc := 6) fa_H_11 (hw.m 24 (Nat.le_of_ble_eq_true rfl)) (hw.k (zk24 rr)) (hw.r (zr24_0 rr)) d_H_placeAt_6 ?_
    refine G_alenS g (pc := 9) (8 : Int32) (hw.m 25 (Nat.le_of_ble_eq_true rfl)) (hw.k (zk25 rr)) (by rw [(hw.n (zn25 rr))]; rfl) d_H_placeAt_9 ?_
    refine G_icmp_ge g (pc := 10) 22 d_H_placeAt_10 (by decide) ?_ ?_
    · refine G_aload_n g (pc := 13) 0 d_H_placeAt_13 rfl rfl ?_
      refine G_getR g (pc := 14) fa_H_11 (hw.m 24 (Nat.le_of_ble_eq_true rfl)) (hw.k (zk24 rr)) (hw.r (zr24_0 rr)) d_H_placeAt_14 ?_
      refine G_iload_n g (pc := 17) 1 d_H_placeAt_17 rfl rfl ?_
      refine G_aldS g (pc := 18) (nn := 8) (hw.m 25 (Nat.le_of_ble_eq_true rfl)) (hw.k (zk25 rr)) (hw.n (zn25 rr)) d_H_placeAt_18 ?_
      rw [hw.z]
      refine G_goto g (pc := 19) 23 d_H_placeAt_19 (by decide) ?_
      exact G_areturn g (pc := 23) ((Z0 rr 25).2.2 a1.toNatClampNeg) rfl hret (Or.inl ⟨_, rfl⟩) (Nat.le_of_ble_eq_true rfl) (Nat.le_of_ble_eq_true rfl) d_H_placeAt_23
    · refine G_null g (pc := 22) d_H_placeAt_22 ?_
      exact G_areturn g (pc := 23) (none) rfl hret (Or.inl ⟨_, rfl⟩) (Nat.le_of_ble_eq_true rfl) (Nat.le_of_ble_eq_true rfl) d_H_placeAt_23

theorem d_H_remember_0 : decode b_H_remember 0 = .ok (.aload_n 0, 1) := by decide +kernel
theorem d_H_remember_1 : decode b_H_remember 1 = .ok (.aload_n 0, 1) := by decide +kernel
theorem d_H_remember_2 : decode b_H_remember 2 = .ok (.getfield 17, 3) := by decide +kernel
theorem d_H_remember_5 : decode b_H_remember 5 = .ok (.invokevirtual 25, 3) := by decide +kernel
theorem d_H_remember_8 : decode b_H_remember 8 = .ok (.astore_n 2, 1) := by decide +kernel
theorem d_H_remember_9 : decode b_H_remember 9 = .ok (.aload_n 2, 1) := by decide +kernel
theorem d_H_remember_10 : decode b_H_remember 10 = .ok (.ifnull 8, 3) := by decide +kernel
theorem d_H_remember_13 : decode b_H_remember 13 = .ok (.aload_n 2, 1) := by decide +kernel
theorem d_H_remember_14 : decode b_H_remember 14 = .ok (.aload_n 1, 1) := by decide +kernel
theorem d_H_remember_15 : decode b_H_remember 15 = .ok (.invokevirtual 29, 3) := by decide +kernel
theorem d_H_remember_18 : decode b_H_remember 18 = .ok (.aload_n 0, 1) := by decide +kernel
theorem d_H_remember_19 : decode b_H_remember 19 = .ok (.aload_n 0, 1) := by decide +kernel
theorem d_H_remember_20 : decode b_H_remember 20 = .ok (.getfield 17, 3) := by decide +kernel
theorem d_H_remember_23 : decode b_H_remember 23 = .ok (.iconst 1, 1) := by decide +kernel
theorem d_H_remember_24 : decode b_H_remember 24 = .ok (.iadd, 1) := by decide +kernel
theorem d_H_remember_25 : decode b_H_remember 25 = .ok (.bipush 8, 2) := by decide +kernel
theorem d_H_remember_27 : decode b_H_remember 27 = .ok (.irem, 1) := by decide +kernel
theorem d_H_remember_28 : decode b_H_remember 28 = .ok (.putfield 17, 3) := by decide +kernel
theorem d_H_remember_31 : decode b_H_remember 31 = .ok (.aload_n 0, 1) := by decide +kernel
theorem d_H_remember_32 : decode b_H_remember 32 = .ok (.aload_n 0, 1) := by decide +kernel
theorem d_H_remember_33 : decode b_H_remember 33 = .ok (.getfield 21, 3) := by decide +kernel
theorem d_H_remember_36 : decode b_H_remember 36 = .ok (.iconst 1, 1) := by decide +kernel
theorem d_H_remember_37 : decode b_H_remember 37 = .ok (.iadd, 1) := by decide +kernel
theorem d_H_remember_38 : decode b_H_remember 38 = .ok (.bipush 8, 2) := by decide +kernel
theorem d_H_remember_40 : decode b_H_remember 40 = .ok (.invokestatic 33, 3) := by decide +kernel
theorem d_H_remember_43 : decode b_H_remember 43 = .ok (.putfield 21, 3) := by decide +kernel
theorem d_H_remember_46 : decode b_H_remember 46 = .ok (.return_, 1) := by decide +kernel
theorem cc_H_25 : CV "KiteLogger$History" 25 y_H_placeAt b_H_placeAt 2 (some (.object "KiteLogger$Station")) 1 := ⟨TT_in (i := 1134) (by decide +kernel) (by decide +kernel), TT_in (i := 1136) (by decide +kernel) (by decide +kernel), TT_in (i := 14) (by decide +kernel) (by decide +kernel), TT_in (i := 98) (by decide +kernel) (by decide +kernel), TT_in (i := 1137) (by decide +kernel) (by decide +kernel), ⟨by decide +kernel, by decide +kernel, by decide +kernel⟩⟩
theorem ma_H_33 : Cond.methodLink "KiteLogger$History" 33 Lib.Math.min.name ∈ TT ∧ Cond.static Lib.Math.min.name ∈ TT ∧ Cond.initialized "java/lang/Math" ∈ TT ∧ Cond.code Lib.Math.min.name Lib.Math.min.code 2 (some .int) ∈ TT := ⟨TT_in (i := 1139) (by decide +kernel) (by decide +kernel), TT_in (i := 177) (by decide +kernel) (by decide +kernel), TT_in (i := 91) (by decide +kernel) (by decide +kernel), TT_in (i := 178) (by decide +kernel) (by decide +kernel)⟩
theorem cc_H_29 : CV "KiteLogger$History" 29 y_T_copyFrom b_T_copyFrom 2 none 1 := ⟨TT_in (i := 1138) (by decide +kernel) (by decide +kernel), TT_in (i := 760) (by decide +kernel) (by decide +kernel), TT_in (i := 761) (by decide +kernel) (by decide +kernel), TT_in (i := 94) (by decide +kernel) (by decide +kernel), TT_in (i := 762) (by decide +kernel) (by decide +kernel), ⟨by decide +kernel, by decide +kernel, by decide +kernel⟩⟩
def f_H_remember (rr : Nat) (a1 : Nat) (M : Mem) : Option (Mem) :=
  bnd (f_H_placeAt rr (M 24 1) M) fun (x1 : Option Nat) (M2 : Mem) => ocase x1 (nm (put M2 24 1 (irm ((M2 24 1) + (1 : Int32)) (8 : Int32))) fun (M4 : Mem) => nm (put M4 24 2 (imin ((M4 24 2) + (1 : Int32)) (8 : Int32))) fun (M5 : Mem) => some M5) (fun (q3 : Nat) => bndM (f_T_copyFrom q3 a1 M2) fun (M7 : Mem) => nm (put M7 24 1 (irm ((M7 24 1) + (1 : Int32)) (8 : Int32))) fun (M8 : Mem) => nm (put M8 24 2 (imin ((M8 24 2) + (1 : Int32)) (8 : Int32))) fun (M9 : Mem) => some M9)
set_option maxHeartbeats 4000000 in
set_option maxRecDepth 100000 in
theorem c_H_remember (l : Launch) {w : Wc} {rr : Nat} (hw : WK w rr) (a1 : Nat) (ha1 : a1 ∈ stL) (M : Mem) : Ct QV l y_H_remember b_H_remember 3 none (rmL 4) w [.ref (wad w 24), .ref (wad w a1)] M (f_H_remember rr a1 M) := by
  refine Ct.go (by decide) (L := [(0, .ref (wad w 24)), (1, .ref (wad w a1))]) rfl (Nat.le_of_ble_eq_true rfl) (fun p0 e s m args below meth c g hret => ?_)
  unfold f_H_remember
  refine G_aload_n g (pc := 0) 0 d_H_remember_0 rfl rfl ?_
  refine G_aload_n g (pc := 1) 0 d_H_remember_1 rfl rfl ?_
  refine G_get g (pc := 2) fa_H_17 (hw.m 24 (Nat.le_of_ble_eq_true rfl)) (hw.k (zk24 rr)) d_H_remember_2 ?_
  refine G_cVR g (pc := 5) (As := [.int (M 24 1)]) (st := []) cc_H_25 (c_H_placeAt l hw (M 24 1) M) (hw.m 24 (Nat.le_of_ble_eq_true rfl)) (hw.k (zk24 rr)) rfl (by decide) rfl ⟨(Nat.le_of_ble_eq_true rfl), (Nat.le_of_ble_eq_true rfl)⟩ ⟨(Nat.le_of_ble_eq_true rfl), (Nat.le_of_ble_eq_true rfl)⟩ (Nat.le_of_ble_eq_true rfl) d_H_remember_5 (fun x1 M2 => ?_)
  refine G_ocase ?_ (fun q3 hq3 => ?_)
  · refine G_astore_nN g (pc := 8) _ d_H_remember_8 rfl (Nat.le_of_ble_eq_true rfl) rfl ?_
    refine G_aload_nN g (pc := 9) 0 d_H_remember_9 rfl rfl ?_
    refine G_ifnullN g (pc := 10) 18 d_H_remember_10 (by decide) ?_
    refine G_aload_n g (pc := 18) 1 d_H_remember_18 rfl rfl ?_
    refine G_aload_n g (pc := 19) 1 d_H_remember_19 rfl rfl ?_
    refine G_get g (pc := 20) fa_H_17 (hw.m 24 (Nat.le_of_ble_eq_true rfl)) (hw.k (zk24 rr)) d_H_remember_20 ?_
    refine G_iconst g (pc := 23) (1 : Int32) d_H_remember_23 rfl ?_
    refine G_iadd g (pc := 24) d_H_remember_24 ?_
    refine G_bipush g (pc := 25) (8 : Int32) d_H_remember_25 rfl ?_
    refine G_iremK g (pc := 27) (by decide) d_H_remember_27 ?_
    refine G_put g (pc := 28) fa_H_17 fw_0_1 rfl rfl (hw.m 24 (Nat.le_of_ble_eq_true rfl)) (hw.k (zk24 rr)) d_H_remember_28 ?_
    refine G_nmM (fun M4 => ?_)
    refine G_aload_n g (pc := 31) 1 d_H_remember_31 rfl rfl ?_
    refine G_aload_n g (pc := 32) 1 d_H_remember_32 rfl rfl ?_
    refine G_get g (pc := 33) fa_H_21 (hw.m 24 (Nat.le_of_ble_eq_true rfl)) (hw.k (zk24 rr)) d_H_remember_33 ?_
    refine G_iconst g (pc := 36) (1 : Int32) d_H_remember_36 rfl ?_
    refine G_iadd g (pc := 37) d_H_remember_37 ?_
    refine G_bipush g (pc := 38) (8 : Int32) d_H_remember_38 rfl ?_
    refine G_mmin g (pc := 40) ma_H_33 ⟨(Nat.le_of_ble_eq_true rfl), (Nat.le_of_ble_eq_true rfl), (Nat.le_of_ble_eq_true rfl), (Nat.le_of_ble_eq_true rfl)⟩ d_H_remember_40 ?_
    refine G_put g (pc := 43) fa_H_21 fw_0_2 rfl rfl (hw.m 24 (Nat.le_of_ble_eq_true rfl)) (hw.k (zk24 rr)) d_H_remember_43 ?_
    refine G_nmM (fun M5 => ?_)
    exact G_return g (pc := 46) hret (Nat.le_of_ble_eq_true rfl) (Nat.le_of_ble_eq_true rfl) d_H_remember_46
  · refine G_astore_n g (pc := 8) _ d_H_remember_8 rfl (Nat.le_of_ble_eq_true rfl) rfl ?_
    refine G_aload_n g (pc := 9) 0 d_H_remember_9 rfl rfl ?_
    refine G_ifnull g (pc := 10) d_H_remember_10 ?_
    refine G_aload_n g (pc := 13) 0 d_H_remember_13 rfl rfl ?_
    refine G_aload_n g (pc := 14) 2 d_H_remember_14 rfl rfl ?_
    refine G_cVV g (pc := 15) (As := [.ref (wad w a1)]) (st := []) cc_H_29 (c_T_copyFrom l hw q3 hq3 a1 ha1 M2) (hw.m _ (st_lt0 hq3)) (hw.k (st_k0 hq3)) rfl (by decide) rfl ⟨(Nat.le_of_ble_eq_true rfl), (Nat.le_of_ble_eq_true rfl)⟩ ⟨(Nat.le_of_ble_eq_true rfl), (Nat.le_of_ble_eq_true rfl)⟩ (Nat.le_of_ble_eq_true rfl) d_H_remember_15 (fun M7 => ?_)
    refine G_aload_n g (pc := 18) 1 d_H_remember_18 rfl rfl ?_
    refine G_aload_n g (pc := 19) 1 d_H_remember_19 rfl rfl ?_
    refine G_get g (pc := 20) fa_H_17 (hw.m 24 (Nat.le_of_ble_eq_true rfl)) (hw.k (zk24 rr)) d_H_remember_20 ?_
    refine G_iconst g (pc := 23) (1 : Int32) d_H_remember_23 rfl ?_
    refine G_iadd g (pc := 24) d_H_remember_24 ?_
    refine G_bipush g (pc := 25) (8 : Int32) d_H_remember_25 rfl ?_
    refine G_iremK g (pc := 27) (by decide) d_H_remember_27 ?_
    refine G_put g (pc := 28) fa_H_17 fw_0_1 rfl rfl (hw.m 24 (Nat.le_of_ble_eq_true rfl)) (hw.k (zk24 rr)) d_H_remember_28 ?_
    refine G_nmM (fun M8 => ?_)
    refine G_aload_n g (pc := 31) 1 d_H_remember_31 rfl rfl ?_
    refine G_aload_n g (pc := 32) 1 d_H_remember_32 rfl rfl ?_
    refine G_get g (pc := 33) fa_H_21 (hw.m 24 (Nat.le_of_ble_eq_true rfl)) (hw.k (zk24 rr)) d_H_remember_33 ?_
    refine G_iconst g (pc := 36) (1 : Int32) d_H_remember_36 rfl ?_
    refine G_iadd g (pc := 37) d_H_remember_37 ?_
    refine G_bipush g (pc := 38) (8 : Int32) d_H_remember_38 rfl ?_
    refine G_mmin g (pc := 40) ma_H_33 ⟨(Nat.le_of_ble_eq_true rfl), (Nat.le_of_ble_eq_true rfl), (Nat.le_of_ble_eq_true rfl), (Nat.le_of_ble_eq_true rfl)⟩ d_H_remember_40 ?_
    refine G_put g (pc := 43) fa_H_21 fw_0_2 rfl rfl (hw.m 24 (Nat.le_of_ble_eq_true rfl)) (hw.k (zk24 rr)) d_H_remember_43 ?_
    refine G_nmM (fun M9 => ?_)
    exact G_return g (pc := 46) hret (Nat.le_of_ble_eq_true rfl) (Nat.le_of_ble_eq_true rfl) d_H_remember_46

theorem d_H_takeBack_0 : decode b_H_takeBack 0 = .ok (.aload_n 0, 1) := by decide +kernel
theorem d_H_takeBack_1 : decode b_H_takeBack 1 = .ok (.aload_n 0, 1) := by decide +kernel
theorem d_H_takeBack_2 : decode b_H_takeBack 2 = .ok (.getfield 17, 3) := by decide +kernel
theorem d_H_takeBack_5 : decode b_H_takeBack 5 = .ok (.bipush 8, 2) := by decide +kernel
theorem d_H_takeBack_7 : decode b_H_takeBack 7 = .ok (.iadd, 1) := by decide +kernel
theorem d_H_takeBack_8 : decode b_H_takeBack 8 = .ok (.iconst 1, 1) := by decide +kernel
theorem d_H_takeBack_9 : decode b_H_takeBack 9 = .ok (.isub, 1) := by decide +kernel
theorem d_H_takeBack_10 : decode b_H_takeBack 10 = .ok (.bipush 8, 2) := by decide +kernel
theorem d_H_takeBack_12 : decode b_H_takeBack 12 = .ok (.irem, 1) := by decide +kernel
theorem d_H_takeBack_13 : decode b_H_takeBack 13 = .ok (.putfield 17, 3) := by decide +kernel
theorem d_H_takeBack_16 : decode b_H_takeBack 16 = .ok (.aload_n 0, 1) := by decide +kernel
theorem d_H_takeBack_17 : decode b_H_takeBack 17 = .ok (.aload_n 0, 1) := by decide +kernel
theorem d_H_takeBack_18 : decode b_H_takeBack 18 = .ok (.getfield 21, 3) := by decide +kernel
theorem d_H_takeBack_21 : decode b_H_takeBack 21 = .ok (.iconst 1, 1) := by decide +kernel
theorem d_H_takeBack_22 : decode b_H_takeBack 22 = .ok (.isub, 1) := by decide +kernel
theorem d_H_takeBack_23 : decode b_H_takeBack 23 = .ok (.iconst 0, 1) := by decide +kernel
theorem d_H_takeBack_24 : decode b_H_takeBack 24 = .ok (.invokestatic 39, 3) := by decide +kernel
theorem d_H_takeBack_27 : decode b_H_takeBack 27 = .ok (.putfield 21, 3) := by decide +kernel
theorem d_H_takeBack_30 : decode b_H_takeBack 30 = .ok (.aload_n 0, 1) := by decide +kernel
theorem d_H_takeBack_31 : decode b_H_takeBack 31 = .ok (.aload_n 0, 1) := by decide +kernel
theorem d_H_takeBack_32 : decode b_H_takeBack 32 = .ok (.getfield 17, 3) := by decide +kernel
theorem d_H_takeBack_35 : decode b_H_takeBack 35 = .ok (.invokevirtual 25, 3) := by decide +kernel
theorem d_H_takeBack_38 : decode b_H_takeBack 38 = .ok (.astore_n 2, 1) := by decide +kernel
theorem d_H_takeBack_39 : decode b_H_takeBack 39 = .ok (.aload_n 2, 1) := by decide +kernel
theorem d_H_takeBack_40 : decode b_H_takeBack 40 = .ok (.ifnull 8, 3) := by decide +kernel
theorem d_H_takeBack_43 : decode b_H_takeBack 43 = .ok (.aload_n 1, 1) := by decide +kernel
theorem d_H_takeBack_44 : decode b_H_takeBack 44 = .ok (.aload_n 2, 1) := by decide +kernel
theorem d_H_takeBack_45 : decode b_H_takeBack 45 = .ok (.invokevirtual 29, 3) := by decide +kernel
theorem d_H_takeBack_48 : decode b_H_takeBack 48 = .ok (.return_, 1) := by decide +kernel
theorem ma_H_39 : Cond.methodLink "KiteLogger$History" 39 Lib.Math.max.name ∈ TT ∧ Cond.static Lib.Math.max.name ∈ TT ∧ Cond.initialized "java/lang/Math" ∈ TT ∧ Cond.code Lib.Math.max.name Lib.Math.max.code 2 (some .int) ∈ TT := ⟨TT_in (i := 1329) (by decide +kernel) (by decide +kernel), TT_in (i := 327) (by decide +kernel) (by decide +kernel), TT_in (i := 91) (by decide +kernel) (by decide +kernel), TT_in (i := 328) (by decide +kernel) (by decide +kernel)⟩
def f_H_takeBack (rr : Nat) (a1 : Nat) (M : Mem) : Option (Mem) :=
  nm (put M 24 1 (irm (((M 24 1) + (8 : Int32)) - (1 : Int32)) (8 : Int32))) fun (M1 : Mem) => nm (put M1 24 2 (imax ((M1 24 2) - (1 : Int32)) (0 : Int32))) fun (M2 : Mem) => bnd (f_H_placeAt rr (M2 24 1) M2) fun (x3 : Option Nat) (M4 : Mem) => ocase x3 (some M4) (fun (q5 : Nat) => bndM (f_T_copyFrom a1 q5 M4) fun (M7 : Mem) => some M7)
set_option maxHeartbeats 4000000 in
set_option maxRecDepth 100000 in
theorem c_H_takeBack (l : Launch) {w : Wc} {rr : Nat} (hw : WK w rr) (a1 : Nat) (ha1 : a1 ∈ stL) (M : Mem) : Ct QV l y_H_takeBack b_H_takeBack 3 none (rmL 4) w [.ref (wad w 24), .ref (wad w a1)] M (f_H_takeBack rr a1 M) := by
  refine Ct.go (by decide) (L := [(0, .ref (wad w 24)), (1, .ref (wad w a1))]) rfl (Nat.le_of_ble_eq_true rfl) (fun p0 e s m args below meth c g hret => ?_)
  unfold f_H_takeBack
  refine G_aload_n g (pc := 0) 0 d_H_takeBack_0 rfl rfl ?_
  refine G_aload_n g (pc := 1) 0 d_H_takeBack_1 rfl rfl ?_
  refine G_get g (pc := 2) fa_H_17 (hw.m 24 (Nat.le_of_ble_eq_true rfl)) (hw.k (zk24 rr)) d_H_takeBack_2 ?_
  refine G_bipush g (pc := 5) (8 : Int32) d_H_takeBack_5 rfl ?_
  refine G_iadd g (pc := 7) d_H_takeBack_7 ?_
  refine G_iconst g (pc := 8) (1 : Int32) d_H_takeBack_8 rfl ?_
  refine G_isub g (pc := 9) d_H_takeBack_9 ?_
  refine G_bipush g (pc := 10) (8 : Int32) d_H_takeBack_10 rfl ?_
  refine G_iremK g (pc := 12) (by decide) d_H_takeBack_12 ?_
  refine G_put g (pc := 13) fa_H_17 fw_0_1 rfl rfl (hw.m 24 (Nat.le_of_ble_eq_true rfl)) (hw.k (zk24 rr)) d_H_takeBack_13 ?_
  refine G_nmM (fun M1 => ?_)
  refine G_aload_n g (pc := 16) 0 d_H_takeBack_16 rfl rfl ?_
  refine G_aload_n g (pc := 17) 0 d_H_takeBack_17 rfl rfl ?_
  refine G_get g (pc := 18) fa_H_21 (hw.m 24 (Nat.le_of_ble_eq_true rfl)) (hw.k (zk24 rr)) d_H_takeBack_18 ?_
  refine G_iconst g (pc := 21) (1 : Int32) d_H_takeBack_21 rfl ?_
  refine G_isub g (pc := 22) d_H_takeBack_22 ?_
  refine G_iconst g (pc := 23) (0 : Int32) d_H_takeBack_23 rfl ?_
  refine G_mmax g (pc := 24) ma_H_39 ⟨(Nat.le_of_ble_eq_true rfl), (Nat.le_of_ble_eq_true rfl), (Nat.le_of_ble_eq_true rfl), (Nat.le_of_ble_eq_true rfl)⟩ d_H_takeBack_24 ?_
  refine G_put g (pc := 27) fa_H_21 fw_0_2 rfl rfl (hw.m 24 (Nat.le_of_ble_eq_true rfl)) (hw.k (zk24 rr)) d_H_takeBack_27 ?_
  refine G_nmM (fun M2 => ?_)
  refine G_aload_n g (pc := 30) 0 d_H_takeBack_30 rfl rfl ?_
  refine G_aload_n g (pc := 31) 0 d_H_takeBack_31 rfl rfl ?_
  refine G_get g (pc := 32) fa_H_17 (hw.m 24 (Nat.le_of_ble_eq_true rfl)) (hw.k (zk24 rr)) d_H_takeBack_32 ?_
  refine G_cVR g (pc := 35) (As := [.int (M2 24 1)]) (st := []) cc_H_25 (c_H_placeAt l hw (M2 24 1) M2) (hw.m 24 (Nat.le_of_ble_eq_true rfl)) (hw.k (zk24 rr)) rfl (by decide) rfl ⟨(Nat.le_of_ble_eq_true rfl), (Nat.le_of_ble_eq_true rfl)⟩ ⟨(Nat.le_of_ble_eq_true rfl), (Nat.le_of_ble_eq_true rfl)⟩ (Nat.le_of_ble_eq_true rfl) d_H_takeBack_35 (fun x3 M4 => ?_)
  refine G_ocase ?_ (fun q5 hq5 => ?_)
  · refine G_astore_nN g (pc := 38) _ d_H_takeBack_38 rfl (Nat.le_of_ble_eq_true rfl) rfl ?_
    refine G_aload_nN g (pc := 39) 0 d_H_takeBack_39 rfl rfl ?_
    refine G_ifnullN g (pc := 40) 48 d_H_takeBack_40 (by decide) ?_
    exact G_return g (pc := 48) hret (Nat.le_of_ble_eq_true rfl) (Nat.le_of_ble_eq_true rfl) d_H_takeBack_48
  · refine G_astore_n g (pc := 38) _ d_H_takeBack_38 rfl (Nat.le_of_ble_eq_true rfl) rfl ?_
    refine G_aload_n g (pc := 39) 0 d_H_takeBack_39 rfl rfl ?_
    refine G_ifnull g (pc := 40) d_H_takeBack_40 ?_
    refine G_aload_n g (pc := 43) 2 d_H_takeBack_43 rfl rfl ?_
    refine G_aload_n g (pc := 44) 0 d_H_takeBack_44 rfl rfl ?_
    refine G_cVV g (pc := 45) (As := [.ref (wad w q5)]) (st := []) cc_H_29 (c_T_copyFrom l hw a1 ha1 q5 hq5 M4) (hw.m _ (st_lt0 ha1)) (hw.k (st_k0 ha1)) rfl (by decide) rfl ⟨(Nat.le_of_ble_eq_true rfl), (Nat.le_of_ble_eq_true rfl)⟩ ⟨(Nat.le_of_ble_eq_true rfl), (Nat.le_of_ble_eq_true rfl)⟩ (Nat.le_of_ble_eq_true rfl) d_H_takeBack_45 (fun M7 => ?_)
    exact G_return g (pc := 48) hret (Nat.le_of_ble_eq_true rfl) (Nat.le_of_ble_eq_true rfl) d_H_takeBack_48
end
section
theorem d_O_at_0 : decode b_O_at 0 = .ok (.iload_n 1, 1) := by decide +kernel
theorem d_O_at_1 : decode b_O_at 1 = .ok (.ifCond .lt 21, 3) := by decide +kernel
theorem d_O_at_4 : decode b_O_at 4 = .ok (.iload_n 1, 1) := by decide +kernel
theorem d_O_at_5 : decode b_O_at 5 = .ok (.aload_n 0, 1) := by decide +kernel
theorem d_O_at_6 : decode b_O_at 6 = .ok (.getfield 9, 3) := by decide +kernel
theorem d_O_at_9 : decode b_O_at 9 = .ok (.arraylength, 1) := by decide +kernel
theorem d_O_at_10 : decode b_O_at 10 = .ok (.if_icmp .ge 12, 3) := by decide +kernel
theorem d_O_at_13 : decode b_O_at 13 = .ok (.aload_n 0, 1) := by decide +kernel
theorem d_O_at_14 : decode b_O_at 14 = .ok (.getfield 9, 3) := by decide +kernel
theorem d_O_at_17 : decode b_O_at 17 = .ok (.iload_n 1, 1) := by decide +kernel
theorem d_O_at_18 : decode b_O_at 18 = .ok (.baload, 1) := by decide +kernel
theorem d_O_at_19 : decode b_O_at 19 = .ok (.goto 4, 3) := by decide +kernel
theorem d_O_at_22 : decode b_O_at 22 = .ok (.iconst 0, 1) := by decide +kernel
theorem d_O_at_23 : decode b_O_at 23 = .ok (.ireturn, 1) := by decide +kernel
def f_O_at (a1 : Int32) (M : Mem) : Option (Int32 × Mem) :=
  if a1 < 0 then (some ((0 : Int32), M)) else (if a1 < (360 : Int32) then (grd (inB a1 360) (some (M 144 a1.toNatClampNeg, M))) else (some ((0 : Int32), M)))
set_option maxHeartbeats 4000000 in
set_option maxRecDepth 100000 in
theorem c_O_at (l : Launch) {w : Wc} {rr : Nat} (hw : WK w rr) (a1 : Int32) (M : Mem) : Ct QI l y_O_at b_O_at 2 (some .int) (rmL 0) w [.ref (wad w 143), .int a1] M (f_O_at a1 M) := by
  refine Ct.go (by decide) (L := [(0, .ref (wad w 143)), (1, .int a1)]) rfl (Nat.le_of_ble_eq_true rfl) (fun p0 e s m args below meth c g hret => ?_)
  unfold f_O_at
  refine G_iload_n g (pc := 0) 1 d_O_at_0 rfl rfl ?_
  refine G_if_lt g (pc := 1) 22 d_O_at_1 (by decide) ?_ ?_
  · refine G_iconst g (pc := 22) (0 : Int32) d_O_at_22 rfl ?_
    exact G_ireturn g (pc := 23) hret (Nat.le_of_ble_eq_true rfl) (Nat.le_of_ble_eq_true rfl) d_O_at_23
  · refine G_iload_n g (pc := 4) 1 d_O_at_4 rfl rfl ?_
    refine G_aload_n g (pc := 5) 0 d_O_at_5 rfl rfl ?_
    refine G_getR g (pc := 6) fa_O_9 (hw.m 143 (Nat.le_of_ble_eq_true rfl)) (hw.k (zk143 rr)) (hw.r (zr143_0 rr)) d_O_at_6 ?_
    refine G_alenB g (pc := 9) (360 : Int32) (hw.m 144 (Nat.le_of_ble_eq_true rfl)) (hw.k (zk144 rr)) (by rw [(hw.n (zn144 rr))]; rfl) d_O_at_9 ?_
    refine G_icmp_ge g (pc := 10) 22 d_O_at_10 (by decide) ?_ ?_
    · refine G_aload_n g (pc := 13) 0 d_O_at_13 rfl rfl ?_
      refine G_getR g (pc := 14) fa_O_9 (hw.m 143 (Nat.le_of_ble_eq_true rfl)) (hw.k (zk143 rr)) (hw.r (zr143_0 rr)) d_O_at_14 ?_
      refine G_iload_n g (pc := 17) 1 d_O_at_17 rfl rfl ?_
      refine G_bald g (pc := 18) (nn := 360) (hw.m 144 (Nat.le_of_ble_eq_true rfl)) (hw.k (zk144 rr)) (hw.n (zn144 rr)) d_O_at_18 ?_
      refine G_goto g (pc := 19) 23 d_O_at_19 (by decide) ?_
      exact G_ireturn g (pc := 23) hret (Nat.le_of_ble_eq_true rfl) (Nat.le_of_ble_eq_true rfl) d_O_at_23
    · refine G_iconst g (pc := 22) (0 : Int32) d_O_at_22 rfl ?_
      exact G_ireturn g (pc := 23) hret (Nat.le_of_ble_eq_true rfl) (Nat.le_of_ble_eq_true rfl) d_O_at_23

theorem d_O_addSign_0 : decode b_O_addSign 0 = .ok (.aload_n 0, 1) := by decide +kernel
theorem d_O_addSign_1 : decode b_O_addSign 1 = .ok (.getfield 15, 3) := by decide +kernel
theorem d_O_addSign_4 : decode b_O_addSign 4 = .ok (.ifCond .lt 36, 3) := by decide +kernel
theorem d_O_addSign_7 : decode b_O_addSign 7 = .ok (.aload_n 0, 1) := by decide +kernel
theorem d_O_addSign_8 : decode b_O_addSign 8 = .ok (.getfield 15, 3) := by decide +kernel
theorem d_O_addSign_11 : decode b_O_addSign 11 = .ok (.aload_n 0, 1) := by decide +kernel
theorem d_O_addSign_12 : decode b_O_addSign 12 = .ok (.getfield 9, 3) := by decide +kernel
theorem d_O_addSign_15 : decode b_O_addSign 15 = .ok (.arraylength, 1) := by decide +kernel
theorem d_O_addSign_16 : decode b_O_addSign 16 = .ok (.if_icmp .ge 24, 3) := by decide +kernel
theorem d_O_addSign_19 : decode b_O_addSign 19 = .ok (.aload_n 0, 1) := by decide +kernel
theorem d_O_addSign_20 : decode b_O_addSign 20 = .ok (.getfield 9, 3) := by decide +kernel
theorem d_O_addSign_23 : decode b_O_addSign 23 = .ok (.aload_n 0, 1) := by decide +kernel
theorem d_O_addSign_24 : decode b_O_addSign 24 = .ok (.getfield 15, 3) := by decide +kernel
theorem d_O_addSign_27 : decode b_O_addSign 27 = .ok (.iload_n 1, 1) := by decide +kernel
theorem d_O_addSign_28 : decode b_O_addSign 28 = .ok (.i2b, 1) := by decide +kernel
theorem d_O_addSign_29 : decode b_O_addSign 29 = .ok (.bastore, 1) := by decide +kernel
theorem d_O_addSign_30 : decode b_O_addSign 30 = .ok (.aload_n 0, 1) := by decide +kernel
theorem d_O_addSign_31 : decode b_O_addSign 31 = .ok (.dup, 1) := by decide +kernel
theorem d_O_addSign_32 : decode b_O_addSign 32 = .ok (.getfield 15, 3) := by decide +kernel
theorem d_O_addSign_35 : decode b_O_addSign 35 = .ok (.iconst 1, 1) := by decide +kernel
theorem d_O_addSign_36 : decode b_O_addSign 36 = .ok (.iadd, 1) := by decide +kernel
theorem d_O_addSign_37 : decode b_O_addSign 37 = .ok (.putfield 15, 3) := by decide +kernel
theorem d_O_addSign_40 : decode b_O_addSign 40 = .ok (.return_, 1) := by decide +kernel
def f_O_addSign (a1 : Int32) (M : Mem) : Option (Mem) :=
  if (M 143 1) < 0 then (some M) else (if (M 143 1) < (360 : Int32) then (grd (inB (M 143 1) 360) (nm (put M 144 (M 143 1).toNatClampNeg (vp_nar .byte a1.toInt8.toInt32)) fun (M1 : Mem) => nm (put M1 143 1 ((M1 143 1) + (1 : Int32))) fun (M2 : Mem) => some M2)) else (some M))
set_option maxHeartbeats 4000000 in
set_option maxRecDepth 100000 in
theorem c_O_addSign (l : Launch) {w : Wc} {rr : Nat} (hw : WK w rr) (a1 : Int32) (M : Mem) : Ct QV l y_O_addSign b_O_addSign 2 none (rmL 0) w [.ref (wad w 143), .int a1] M (f_O_addSign a1 M) := by
  refine Ct.go (by decide) (L := [(0, .ref (wad w 143)), (1, .int a1)]) rfl (Nat.le_of_ble_eq_true rfl) (fun p0 e s m args below meth c g hret => ?_)
  unfold f_O_addSign
  refine G_aload_n g (pc := 0) 0 d_O_addSign_0 rfl rfl ?_
  refine G_get g (pc := 1) fa_O_15 (hw.m 143 (Nat.le_of_ble_eq_true rfl)) (hw.k (zk143 rr)) d_O_addSign_1 ?_
  refine G_if_lt g (pc := 4) 40 d_O_addSign_4 (by decide) ?_ ?_
  · exact G_return g (pc := 40) hret (Nat.le_of_ble_eq_true rfl) (Nat.le_of_ble_eq_true rfl) d_O_addSign_40
  · refine G_aload_n g (pc := 7) 0 d_O_addSign_7 rfl rfl ?_
    refine G_get g (pc := 8) fa_O_15 (hw.m 143 (Nat.le_of_ble_eq_true rfl)) (hw.k (zk143 rr)) d_O_addSign_8 ?_
    refine G_aload_n g (pc := 11) 0 d_O_addSign_11 rfl rfl ?_
    refine G_getR g (pc := 12) fa_O_9 (hw.m 143 (Nat.le_of_ble_eq_true rfl)) (hw.k (zk143 rr)) (hw.r (zr143_0 rr)) d_O_addSign_12 ?_
    refine G_alenB g (pc := 15) (360 : Int32) (hw.m 144 (Nat.le_of_ble_eq_true rfl)) (hw.k (zk144 rr)) (by rw [(hw.n (zn144 rr))]; rfl) d_O_addSign_15 ?_
    refine G_icmp_ge g (pc := 16) 40 d_O_addSign_16 (by decide) ?_ ?_
    · refine G_aload_n g (pc := 19) 0 d_O_addSign_19 rfl rfl ?_
      refine G_getR g (pc := 20) fa_O_9 (hw.m 143 (Nat.le_of_ble_eq_true rfl)) (hw.k (zk143 rr)) (hw.r (zr143_0 rr)) d_O_addSign_20 ?_
      refine G_aload_n g (pc := 23) 0 d_O_addSign_23 rfl rfl ?_
      refine G_get g (pc := 24) fa_O_15 (hw.m 143 (Nat.le_of_ble_eq_true rfl)) (hw.k (zk143 rr)) d_O_addSign_24 ?_
      refine G_iload_n g (pc := 27) 1 d_O_addSign_27 rfl rfl ?_
      refine G_i2b g (pc := 28) d_O_addSign_28 ?_
      refine G_bast g (pc := 29) (nn := 360) (hw.m 144 (Nat.le_of_ble_eq_true rfl)) (hw.k (zk144 rr)) (hw.n (zn144 rr)) d_O_addSign_29 ?_
      refine G_nmM (fun M1 => ?_)
      refine G_aload_n g (pc := 30) 0 d_O_addSign_30 rfl rfl ?_
      refine G_dup g (pc := 31) d_O_addSign_31 rfl ?_
      refine G_get g (pc := 32) fa_O_15 (hw.m 143 (Nat.le_of_ble_eq_true rfl)) (hw.k (zk143 rr)) d_O_addSign_32 ?_
      refine G_iconst g (pc := 35) (1 : Int32) d_O_addSign_35 rfl ?_
      refine G_iadd g (pc := 36) d_O_addSign_36 ?_
      refine G_put g (pc := 37) fa_O_15 fw_2_1 rfl rfl (hw.m 143 (Nat.le_of_ble_eq_true rfl)) (hw.k (zk143 rr)) d_O_addSign_37 ?_
      refine G_nmM (fun M2 => ?_)
      exact G_return g (pc := 40) hret (Nat.le_of_ble_eq_true rfl) (Nat.le_of_ble_eq_true rfl) d_O_addSign_40
    · exact G_return g (pc := 40) hret (Nat.le_of_ble_eq_true rfl) (Nat.le_of_ble_eq_true rfl) d_O_addSign_40

theorem d_O_addNumber_0 : decode b_O_addNumber 0 = .ok (.iconst 0, 1) := by decide +kernel
theorem d_O_addNumber_1 : decode b_O_addNumber 1 = .ok (.istore_n 2, 1) := by decide +kernel
theorem d_O_addNumber_2 : decode b_O_addNumber 2 = .ok (.sipush 1000, 3) := by decide +kernel
theorem d_O_addNumber_5 : decode b_O_addNumber 5 = .ok (.istore_n 3, 1) := by decide +kernel
theorem d_O_addNumber_6 : decode b_O_addNumber 6 = .ok (.iload_n 3, 1) := by decide +kernel
theorem d_O_addNumber_7 : decode b_O_addNumber 7 = .ok (.ifCond .le 45, 3) := by decide +kernel
theorem d_O_addNumber_10 : decode b_O_addNumber 10 = .ok (.iload_n 1, 1) := by decide +kernel
theorem d_O_addNumber_11 : decode b_O_addNumber 11 = .ok (.iload_n 3, 1) := by decide +kernel
theorem d_O_addNumber_12 : decode b_O_addNumber 12 = .ok (.idiv, 1) := by decide +kernel
theorem d_O_addNumber_13 : decode b_O_addNumber 13 = .ok (.bipush 10, 2) := by decide +kernel
theorem d_O_addNumber_15 : decode b_O_addNumber 15 = .ok (.irem, 1) := by decide +kernel
theorem d_O_addNumber_16 : decode b_O_addNumber 16 = .ok (.istore 4, 2) := by decide +kernel
theorem d_O_addNumber_18 : decode b_O_addNumber 18 = .ok (.iload 4, 2) := by decide +kernel
theorem d_O_addNumber_20 : decode b_O_addNumber 20 = .ok (.ifCond .gt 12, 3) := by decide +kernel
theorem d_O_addNumber_23 : decode b_O_addNumber 23 = .ok (.iload_n 2, 1) := by decide +kernel
theorem d_O_addNumber_24 : decode b_O_addNumber 24 = .ok (.ifCond .ne 8, 3) := by decide +kernel
theorem d_O_addNumber_27 : decode b_O_addNumber 27 = .ok (.iload_n 3, 1) := by decide +kernel
theorem d_O_addNumber_28 : decode b_O_addNumber 28 = .ok (.iconst 1, 1) := by decide +kernel
theorem d_O_addNumber_29 : decode b_O_addNumber 29 = .ok (.if_icmp .ne 15, 3) := by decide +kernel
theorem d_O_addNumber_32 : decode b_O_addNumber 32 = .ok (.aload_n 0, 1) := by decide +kernel
theorem d_O_addNumber_33 : decode b_O_addNumber 33 = .ok (.bipush 48, 2) := by decide +kernel
theorem d_O_addNumber_35 : decode b_O_addNumber 35 = .ok (.iload 4, 2) := by decide +kernel
theorem d_O_addNumber_37 : decode b_O_addNumber 37 = .ok (.iadd, 1) := by decide +kernel
theorem d_O_addNumber_38 : decode b_O_addNumber 38 = .ok (.i2c, 1) := by decide +kernel
theorem d_O_addNumber_39 : decode b_O_addNumber 39 = .ok (.invokevirtual 24, 3) := by decide +kernel
theorem d_O_addNumber_42 : decode b_O_addNumber 42 = .ok (.iconst 1, 1) := by decide +kernel
theorem d_O_addNumber_43 : decode b_O_addNumber 43 = .ok (.istore_n 2, 1) := by decide +kernel
theorem d_O_addNumber_44 : decode b_O_addNumber 44 = .ok (.iload_n 3, 1) := by decide +kernel
theorem d_O_addNumber_45 : decode b_O_addNumber 45 = .ok (.bipush 10, 2) := by decide +kernel
theorem d_O_addNumber_47 : decode b_O_addNumber 47 = .ok (.idiv, 1) := by decide +kernel
theorem d_O_addNumber_48 : decode b_O_addNumber 48 = .ok (.istore_n 3, 1) := by decide +kernel
theorem d_O_addNumber_49 : decode b_O_addNumber 49 = .ok (.goto (-43), 3) := by decide +kernel
theorem d_O_addNumber_52 : decode b_O_addNumber 52 = .ok (.return_, 1) := by decide +kernel
theorem cc_O_24 : CV "KiteLogger$Output" 24 y_O_addSign b_O_addSign 2 none 1 := ⟨TT_in (i := 737) (by decide +kernel) (by decide +kernel), TT_in (i := 739) (by decide +kernel) (by decide +kernel), TT_in (i := 4) (by decide +kernel) (by decide +kernel), TT_in (i := 99) (by decide +kernel) (by decide +kernel), TT_in (i := 740) (by decide +kernel) (by decide +kernel), ⟨by decide +kernel, by decide +kernel, by decide +kernel⟩⟩
def lp_O_addNumber_6 (N0 rr : Nat) (a1 : Int32)  : Nat → Int32 × Int32 → Mem → (Int32 × Int32 → Mem → Option (Mem)) → Option (Mem)
  | 0, _, _, _ => none
  | N + 1, a, M, k => if 0 < a.2 then (grd (nzB a.2) (nm (irm (a1 / a.2) (10 : Int32)) fun (x1 : Int32) => if x1 ≤ 0 then (if a.1 = 0 then (if a.2 = (1 : Int32) then (bndM (f_O_addSign ((((48 : Int32) + x1).toUInt32 % 65536).toInt32) M) fun (M3 : Mem) => nm (a.2 / (10 : Int32)) fun (x4 : Int32) => lp_O_addNumber_6 N0 rr a1 N ((1 : Int32), x4) M3 k) else (nm (a.2 / (10 : Int32)) fun (x5 : Int32) => lp_O_addNumber_6 N0 rr a1 N (a.1, x5) M k)) else (bndM (f_O_addSign ((((48 : Int32) + x1).toUInt32 % 65536).toInt32) M) fun (M7 : Mem) => nm (a.2 / (10 : Int32)) fun (x8 : Int32) => lp_O_addNumber_6 N0 rr a1 N ((1 : Int32), x8) M7 k)) else (bndM (f_O_addSign ((((48 : Int32) + x1).toUInt32 % 65536).toInt32) M) fun (M10 : Mem) => nm (a.2 / (10 : Int32)) fun (x11 : Int32) => lp_O_addNumber_6 N0 rr a1 N ((1 : Int32), x11) M10 k))) else (k (a.1, a.2) M)
def f_O_addNumber (N : Nat) (rr : Nat) (a1 : Int32) (M : Mem) : Option (Mem) :=
  lp_O_addNumber_6 N rr a1 N ((0 : Int32), (1000 : Int32)) M (fun (a13 : Int32 × Int32) (M12 : Mem) => some M12)
set_option maxHeartbeats 4000000 in
set_option maxRecDepth 100000 in
theorem c_O_addNumber (l : Launch) (N : Nat) {w : Wc} {rr : Nat} (hw : WK w rr) (a1 : Int32) (M : Mem) : Ct QV l y_O_addNumber b_O_addNumber 5 none (rmL 1) w [.ref (wad w 143), .int a1] M (f_O_addNumber N rr a1 M) := by
  refine Ct.go (by decide) (L := [(0, .ref (wad w 143)), (1, .int a1)]) rfl (Nat.le_of_ble_eq_true rfl) (fun p0 e s m args below meth c g hret => ?_)
  unfold f_O_addNumber
  refine G_iconst g (pc := 0) (0 : Int32) d_O_addNumber_0 rfl ?_
  refine G_istore_n g (pc := 1) _ d_O_addNumber_1 rfl (Nat.le_of_ble_eq_true rfl) rfl ?_
  refine G_sipush g (pc := 2) (1000 : Int32) d_O_addNumber_2 rfl ?_
  refine G_istore_n g (pc := 5) _ d_O_addNumber_5 rfl (Nat.le_of_ble_eq_true rfl) rfl ?_
  refine G_sub [2, 3, 1, 0] _ rfl ?_
  refine G_loop (F := lp_O_addNumber_6 N rr a1) 6 52 (fun (a : Int32 × Int32) => [(0, .ref (wad w 143)), (1, .int a1), (2, .int a.1), (3, .int a.2)]) (fun (a : Int32 × Int32) => [(0, .ref (wad w 143)), (1, .int a1), (2, .int a.1), (3, .int a.2)]) (fun _ _ _ => rfl) (fun a13 M12 => ?_) (fun k hk Nl ih a M => ?_) N ((0 : Int32), (1000 : Int32)) M
  · exact G_return g (pc := 52) hret (Nat.le_of_ble_eq_true rfl) (Nat.le_of_ble_eq_true rfl) d_O_addNumber_52
  · show Go p0 l e _ s m args below meth c w _ _ _ _ (lp_O_addNumber_6 N rr a1 (Nl + 1) a M k) 6 _ _ M
    unfold lp_O_addNumber_6
    refine G_iload_n g (pc := 6) 3 d_O_addNumber_6 rfl rfl ?_
    refine G_if_le g (pc := 7) 52 d_O_addNumber_7 (by decide) ?_ ?_
    · refine G_iload_n g (pc := 10) 1 d_O_addNumber_10 rfl rfl ?_
      refine G_iload_n g (pc := 11) 3 d_O_addNumber_11 rfl rfl ?_
      refine G_idiv g (pc := 12) d_O_addNumber_12 ?_
      refine G_bipush g (pc := 13) (10 : Int32) d_O_addNumber_13 rfl ?_
      refine G_iremK g (pc := 15) (by decide) d_O_addNumber_15 ?_
      refine G_nmI (fun x1 => ?_)
      refine G_istore g (pc := 16) _ d_O_addNumber_16 (Nat.le_of_ble_eq_true rfl) rfl ?_
      refine G_iload g (pc := 18) 0 d_O_addNumber_18 rfl ?_
      refine G_if_gt g (pc := 20) 32 d_O_addNumber_20 (by decide) ?_ ?_
      · refine G_iload_n g (pc := 23) 3 d_O_addNumber_23 rfl rfl ?_
        refine G_if_ne g (pc := 24) 32 d_O_addNumber_24 (by decide) ?_ ?_
        · refine G_iload_n g (pc := 27) 4 d_O_addNumber_27 rfl rfl ?_
          refine G_iconst g (pc := 28) (1 : Int32) d_O_addNumber_28 rfl ?_
          refine G_icmp_ne g (pc := 29) 44 d_O_addNumber_29 (by decide) ?_ ?_
          · refine G_aload_n g (pc := 32) 1 d_O_addNumber_32 rfl rfl ?_
            refine G_bipush g (pc := 33) (48 : Int32) d_O_addNumber_33 rfl ?_
            refine G_iload g (pc := 35) 0 d_O_addNumber_35 rfl ?_
            refine G_iadd g (pc := 37) d_O_addNumber_37 ?_
            refine G_i2c g (pc := 38) d_O_addNumber_38 ?_
            refine G_cVV g (pc := 39) (As := [.int ((((48 : Int32) + x1).toUInt32 % 65536).toInt32)]) (st := []) cc_O_24 (c_O_addSign l hw ((((48 : Int32) + x1).toUInt32 % 65536).toInt32) M) (hw.m 143 (Nat.le_of_ble_eq_true rfl)) (hw.k (zk143 rr)) rfl (by decide) rfl ⟨(Nat.le_of_ble_eq_true rfl), (Nat.le_of_ble_eq_true rfl)⟩ ⟨(Nat.le_of_ble_eq_true rfl), (Nat.le_of_ble_eq_true rfl)⟩ (Nat.le_of_ble_eq_true rfl) d_O_addNumber_39 (fun M3 => ?_)
            refine G_iconst g (pc := 42) (1 : Int32) d_O_addNumber_42 rfl ?_
            refine G_istore_n g (pc := 43) _ d_O_addNumber_43 rfl (Nat.le_of_ble_eq_true rfl) rfl ?_
            refine G_iload_n g (pc := 44) 4 d_O_addNumber_44 rfl rfl ?_
            refine G_bipush g (pc := 45) (10 : Int32) d_O_addNumber_45 rfl ?_
            refine G_idivK g (pc := 47) (by decide) d_O_addNumber_47 ?_
            refine G_nmI (fun x4 => ?_)
            refine G_istore_n g (pc := 48) _ d_O_addNumber_48 rfl (Nat.le_of_ble_eq_true rfl) rfl ?_
            refine G_goto g (pc := 49) 6 d_O_addNumber_49 (by decide) ?_
            refine G_sub [3, 4, 1, 0] _ rfl ?_
            exact ih ((1 : Int32), x4) M3
          · refine G_iload_n g (pc := 44) 4 d_O_addNumber_44 rfl rfl ?_
            refine G_bipush g (pc := 45) (10 : Int32) d_O_addNumber_45 rfl ?_
            refine G_idivK g (pc := 47) (by decide) d_O_addNumber_47 ?_
            refine G_nmI (fun x5 => ?_)
            refine G_istore_n g (pc := 48) _ d_O_addNumber_48 rfl (Nat.le_of_ble_eq_true rfl) rfl ?_
            refine G_goto g (pc := 49) 6 d_O_addNumber_49 (by decide) ?_
            refine G_sub [2, 3, 4, 0] _ rfl ?_
            exact ih (a.1, x5) M
        · refine G_aload_n g (pc := 32) 1 d_O_addNumber_32 rfl rfl ?_
          refine G_bipush g (pc := 33) (48 : Int32) d_O_addNumber_33 rfl ?_
          refine G_iload g (pc := 35) 0 d_O_addNumber_35 rfl ?_
          refine G_iadd g (pc := 37) d_O_addNumber_37 ?_
          refine G_i2c g (pc := 38) d_O_addNumber_38 ?_
          refine G_cVV g (pc := 39) (As := [.int ((((48 : Int32) + x1).toUInt32 % 65536).toInt32)]) (st := []) cc_O_24 (c_O_addSign l hw ((((48 : Int32) + x1).toUInt32 % 65536).toInt32) M) (hw.m 143 (Nat.le_of_ble_eq_true rfl)) (hw.k (zk143 rr)) rfl (by decide) rfl ⟨(Nat.le_of_ble_eq_true rfl), (Nat.le_of_ble_eq_true rfl)⟩ ⟨(Nat.le_of_ble_eq_true rfl), (Nat.le_of_ble_eq_true rfl)⟩ (Nat.le_of_ble_eq_true rfl) d_O_addNumber_39 (fun M7 => ?_)
          refine G_iconst g (pc := 42) (1 : Int32) d_O_addNumber_42 rfl ?_
          refine G_istore_n g (pc := 43) _ d_O_addNumber_43 rfl (Nat.le_of_ble_eq_true rfl) rfl ?_
          refine G_iload_n g (pc := 44) 4 d_O_addNumber_44 rfl rfl ?_
          refine G_bipush g (pc := 45) (10 : Int32) d_O_addNumber_45 rfl ?_
          refine G_idivK g (pc := 47) (by decide) d_O_addNumber_47 ?_
          refine G_nmI (fun x8 => ?_)
          refine G_istore_n g (pc := 48) _ d_O_addNumber_48 rfl (Nat.le_of_ble_eq_true rfl) rfl ?_
          refine G_goto g (pc := 49) 6 d_O_addNumber_49 (by decide) ?_
          refine G_sub [3, 4, 1, 0] _ rfl ?_
          exact ih ((1 : Int32), x8) M7
      · refine G_aload_n g (pc := 32) 1 d_O_addNumber_32 rfl rfl ?_
        refine G_bipush g (pc := 33) (48 : Int32) d_O_addNumber_33 rfl ?_
        refine G_iload g (pc := 35) 0 d_O_addNumber_35 rfl ?_
        refine G_iadd g (pc := 37) d_O_addNumber_37 ?_
        refine G_i2c g (pc := 38) d_O_addNumber_38 ?_
        refine G_cVV g (pc := 39) (As := [.int ((((48 : Int32) + x1).toUInt32 % 65536).toInt32)]) (st := []) cc_O_24 (c_O_addSign l hw ((((48 : Int32) + x1).toUInt32 % 65536).toInt32) M) (hw.m 143 (Nat.le_of_ble_eq_true rfl)) (hw.k (zk143 rr)) rfl (by decide) rfl ⟨(Nat.le_of_ble_eq_true rfl), (Nat.le_of_ble_eq_true rfl)⟩ ⟨(Nat.le_of_ble_eq_true rfl), (Nat.le_of_ble_eq_true rfl)⟩ (Nat.le_of_ble_eq_true rfl) d_O_addNumber_39 (fun M10 => ?_)
        refine G_iconst g (pc := 42) (1 : Int32) d_O_addNumber_42 rfl ?_
        refine G_istore_n g (pc := 43) _ d_O_addNumber_43 rfl (Nat.le_of_ble_eq_true rfl) rfl ?_
        refine G_iload_n g (pc := 44) 4 d_O_addNumber_44 rfl rfl ?_
        refine G_bipush g (pc := 45) (10 : Int32) d_O_addNumber_45 rfl ?_
        refine G_idivK g (pc := 47) (by decide) d_O_addNumber_47 ?_
        refine G_nmI (fun x11 => ?_)
        refine G_istore_n g (pc := 48) _ d_O_addNumber_48 rfl (Nat.le_of_ble_eq_true rfl) rfl ?_
        refine G_goto g (pc := 49) 6 d_O_addNumber_49 (by decide) ?_
        refine G_sub [3, 4, 1, 0] _ rfl ?_
        exact ih ((1 : Int32), x11) M10
    · refine G_sub [0, 1, 2, 3] _ rfl ?_
      exact hk (a.1, a.2) M

theorem d_O_writeSamples_0 : decode b_O_writeSamples 0 = .ok (.aload_n 0, 1) := by decide +kernel
theorem d_O_writeSamples_1 : decode b_O_writeSamples 1 = .ok (.iconst 0, 1) := by decide +kernel
theorem d_O_writeSamples_2 : decode b_O_writeSamples 2 = .ok (.putfield 15, 3) := by decide +kernel
theorem d_O_writeSamples_5 : decode b_O_writeSamples 5 = .ok (.iconst 0, 1) := by decide +kernel
theorem d_O_writeSamples_6 : decode b_O_writeSamples 6 = .ok (.istore_n 2, 1) := by decide +kernel
theorem d_O_writeSamples_7 : decode b_O_writeSamples 7 = .ok (.iload_n 2, 1) := by decide +kernel
theorem d_O_writeSamples_8 : decode b_O_writeSamples 8 = .ok (.aload_n 1, 1) := by decide +kernel
theorem d_O_writeSamples_9 : decode b_O_writeSamples 9 = .ok (.getfield 19, 3) := by decide +kernel
theorem d_O_writeSamples_12 : decode b_O_writeSamples 12 = .ok (.if_icmp .ge 58, 3) := by decide +kernel
theorem d_O_writeSamples_15 : decode b_O_writeSamples 15 = .ok (.iload_n 2, 1) := by decide +kernel
theorem d_O_writeSamples_16 : decode b_O_writeSamples 16 = .ok (.ifCond .le 9, 3) := by decide +kernel
theorem d_O_writeSamples_19 : decode b_O_writeSamples 19 = .ok (.aload_n 0, 1) := by decide +kernel
theorem d_O_writeSamples_20 : decode b_O_writeSamples 20 = .ok (.bipush 32, 2) := by decide +kernel
theorem d_O_writeSamples_22 : decode b_O_writeSamples 22 = .ok (.invokevirtual 24, 3) := by decide +kernel
theorem d_O_writeSamples_25 : decode b_O_writeSamples 25 = .ok (.aload_n 0, 1) := by decide +kernel
theorem d_O_writeSamples_26 : decode b_O_writeSamples 26 = .ok (.aload_n 1, 1) := by decide +kernel
theorem d_O_writeSamples_27 : decode b_O_writeSamples 27 = .ok (.iload_n 2, 1) := by decide +kernel
theorem d_O_writeSamples_28 : decode b_O_writeSamples 28 = .ok (.invokevirtual 28, 3) := by decide +kernel
theorem d_O_writeSamples_31 : decode b_O_writeSamples 31 = .ok (.invokevirtual 32, 3) := by decide +kernel
theorem d_O_writeSamples_34 : decode b_O_writeSamples 34 = .ok (.aload_n 0, 1) := by decide +kernel
theorem d_O_writeSamples_35 : decode b_O_writeSamples 35 = .ok (.bipush 64, 2) := by decide +kernel
theorem d_O_writeSamples_37 : decode b_O_writeSamples 37 = .ok (.invokevirtual 24, 3) := by decide +kernel
theorem d_O_writeSamples_40 : decode b_O_writeSamples 40 = .ok (.aload_n 0, 1) := by decide +kernel
theorem d_O_writeSamples_41 : decode b_O_writeSamples 41 = .ok (.aload_n 1, 1) := by decide +kernel
theorem d_O_writeSamples_42 : decode b_O_writeSamples 42 = .ok (.iload_n 2, 1) := by decide +kernel
theorem d_O_writeSamples_43 : decode b_O_writeSamples 43 = .ok (.invokevirtual 36, 3) := by decide +kernel
theorem d_O_writeSamples_46 : decode b_O_writeSamples 46 = .ok (.invokevirtual 32, 3) := by decide +kernel
theorem d_O_writeSamples_49 : decode b_O_writeSamples 49 = .ok (.aload_n 0, 1) := by decide +kernel
theorem d_O_writeSamples_50 : decode b_O_writeSamples 50 = .ok (.bipush 44, 2) := by decide +kernel
theorem d_O_writeSamples_52 : decode b_O_writeSamples 52 = .ok (.invokevirtual 24, 3) := by decide +kernel
theorem d_O_writeSamples_55 : decode b_O_writeSamples 55 = .ok (.aload_n 0, 1) := by decide +kernel
theorem d_O_writeSamples_56 : decode b_O_writeSamples 56 = .ok (.aload_n 1, 1) := by decide +kernel
theorem d_O_writeSamples_57 : decode b_O_writeSamples 57 = .ok (.iload_n 2, 1) := by decide +kernel
theorem d_O_writeSamples_58 : decode b_O_writeSamples 58 = .ok (.invokevirtual 39, 3) := by decide +kernel
theorem d_O_writeSamples_61 : decode b_O_writeSamples 61 = .ok (.invokevirtual 32, 3) := by decide +kernel
theorem d_O_writeSamples_64 : decode b_O_writeSamples 64 = .ok (.iinc 2 1, 3) := by decide +kernel
theorem d_O_writeSamples_67 : decode b_O_writeSamples 67 = .ok (.goto (-60), 3) := by decide +kernel
theorem d_O_writeSamples_70 : decode b_O_writeSamples 70 = .ok (.aload_n 0, 1) := by decide +kernel
theorem d_O_writeSamples_71 : decode b_O_writeSamples 71 = .ok (.getfield 15, 3) := by decide +kernel
theorem d_O_writeSamples_74 : decode b_O_writeSamples 74 = .ok (.ireturn, 1) := by decide +kernel
theorem cc_O_28 : CV "KiteLogger$Output" 28 y_S_tickAt b_S_tickAt 2 (some .int) 1 := ⟨TT_in (i := 741) (by decide +kernel) (by decide +kernel), TT_in (i := 653) (by decide +kernel) (by decide +kernel), TT_in (i := 654) (by decide +kernel) (by decide +kernel), TT_in (i := 97) (by decide +kernel) (by decide +kernel), TT_in (i := 655) (by decide +kernel) (by decide +kernel), ⟨by decide +kernel, by decide +kernel, by decide +kernel⟩⟩
theorem cc_O_32 : CV "KiteLogger$Output" 32 y_O_addNumber b_O_addNumber 5 none 1 := ⟨TT_in (i := 742) (by decide +kernel) (by decide +kernel), TT_in (i := 744) (by decide +kernel) (by decide +kernel), TT_in (i := 5) (by decide +kernel) (by decide +kernel), TT_in (i := 99) (by decide +kernel) (by decide +kernel), TT_in (i := 745) (by decide +kernel) (by decide +kernel), ⟨by decide +kernel, by decide +kernel, by decide +kernel⟩⟩
theorem cc_O_36 : CV "KiteLogger$Output" 36 y_S_heightAt b_S_heightAt 2 (some .int) 1 := ⟨TT_in (i := 746) (by decide +kernel) (by decide +kernel), TT_in (i := 625) (by decide +kernel) (by decide +kernel), TT_in (i := 626) (by decide +kernel) (by decide +kernel), TT_in (i := 97) (by decide +kernel) (by decide +kernel), TT_in (i := 627) (by decide +kernel) (by decide +kernel), ⟨by decide +kernel, by decide +kernel, by decide +kernel⟩⟩
theorem cc_O_39 : CV "KiteLogger$Output" 39 y_S_gustAt b_S_gustAt 2 (some .int) 1 := ⟨TT_in (i := 747) (by decide +kernel) (by decide +kernel), TT_in (i := 748) (by decide +kernel) (by decide +kernel), TT_in (i := 749) (by decide +kernel) (by decide +kernel), TT_in (i := 97) (by decide +kernel) (by decide +kernel), TT_in (i := 750) (by decide +kernel) (by decide +kernel), ⟨by decide +kernel, by decide +kernel, by decide +kernel⟩⟩
def lp_O_writeSamples_7 (N0 rr : Nat) (a1 : Nat)  : Nat → Int32 → Mem → (Int32 → Mem → Option (Int32 × Mem)) → Option (Int32 × Mem)
  | 0, _, _, _ => none
  | N + 1, a, M, k => if a < (M a1 5) then (if 0 < a then (bndM (f_O_addSign (32 : Int32) M) fun (M3 : Mem) => bnd (f_S_tickAt a1 a M3) fun (x4 : Int32) (M5 : Mem) => bndM (f_O_addNumber N0 rr x4 M5) fun (M7 : Mem) => bndM (f_O_addSign (64 : Int32) M7) fun (M9 : Mem) => bnd (f_S_heightAt a1 a M9) fun (x10 : Int32) (M11 : Mem) => bndM (f_O_addNumber N0 rr x10 M11) fun (M13 : Mem) => bndM (f_O_addSign (44 : Int32) M13) fun (M15 : Mem) => bnd (f_S_gustAt a1 a M15) fun (x16 : Int32) (M17 : Mem) => bndM (f_O_addNumber N0 rr x16 M17) fun (M19 : Mem) => nm (a + (1 : Int32)) fun (x20 : Int32) => lp_O_writeSamples_7 N0 rr a1 N x20 M19 k) else (bnd (f_S_tickAt a1 a M) fun (x21 : Int32) (M22 : Mem) => bndM (f_O_addNumber N0 rr x21 M22) fun (M24 : Mem) => bndM (f_O_addSign (64 : Int32) M24) fun (M26 : Mem) => bnd (f_S_heightAt a1 a M26) fun (x27 : Int32) (M28 : Mem) => bndM (f_O_addNumber N0 rr x27 M28) fun (M30 : Mem) => bndM (f_O_addSign (44 : Int32) M30) fun (M32 : Mem) => bnd (f_S_gustAt a1 a M32) fun (x33 : Int32) (M34 : Mem) => bndM (f_O_addNumber N0 rr x33 M34) fun (M36 : Mem) => nm (a + (1 : Int32)) fun (x37 : Int32) => lp_O_writeSamples_7 N0 rr a1 N x37 M36 k)) else (k a M)
def f_O_writeSamples (N : Nat) (rr : Nat) (a1 : Nat) (M : Mem) : Option (Int32 × Mem) :=
  nm (put M 143 1 (0 : Int32)) fun (M1 : Mem) => lp_O_writeSamples_7 N rr a1 N (0 : Int32) M1 (fun (a39 : Int32) (M38 : Mem) => some (M38 143 1, M38))
set_option maxHeartbeats 4000000 in
set_option maxRecDepth 100000 in
theorem c_O_writeSamples (l : Launch) (N : Nat) {w : Wc} {rr : Nat} (hw : WK w rr) (a1 : Nat) (ha1 : a1 ∈ saL) (M : Mem) : Ct QI l y_O_writeSamples b_O_writeSamples 3 (some .int) (rmL 2) w [.ref (wad w 143), .ref (wad w a1)] M (f_O_writeSamples N rr a1 M) := by
  refine Ct.go (by decide) (L := [(0, .ref (wad w 143)), (1, .ref (wad w a1))]) rfl (Nat.le_of_ble_eq_true rfl) (fun p0 e s m args below meth c g hret => ?_)
  unfold f_O_writeSamples
  refine G_aload_n g (pc := 0) 0 d_O_writeSamples_0 rfl rfl ?_
  refine G_iconst g (pc := 1) (0 : Int32) d_O_writeSamples_1 rfl ?_
  refine G_put g (pc := 2) fa_O_15 fw_2_1 rfl rfl (hw.m 143 (Nat.le_of_ble_eq_true rfl)) (hw.k (zk143 rr)) d_O_writeSamples_2 ?_
  refine G_nmM (fun M1 => ?_)
  refine G_iconst g (pc := 5) (0 : Int32) d_O_writeSamples_5 rfl ?_
  refine G_istore_n g (pc := 6) _ d_O_writeSamples_6 rfl (Nat.le_of_ble_eq_true rfl) rfl ?_
  refine G_sub [1, 2, 0] _ rfl ?_
  refine G_loop (F := lp_O_writeSamples_7 N rr a1) 7 70 (fun (a : Int32) => [(0, .ref (wad w 143)), (1, .ref (wad w a1)), (2, .int a)]) (fun (a : Int32) => [(0, .ref (wad w 143)), (1, .ref (wad w a1)), (2, .int a)]) (fun _ _ _ => rfl) (fun a39 M38 => ?_) (fun k hk Nl ih a M => ?_) N (0 : Int32) M1
  · refine G_aload_n g (pc := 70) 0 d_O_writeSamples_70 rfl rfl ?_
    refine G_get g (pc := 71) fa_O_15 (hw.m 143 (Nat.le_of_ble_eq_true rfl)) (hw.k (zk143 rr)) d_O_writeSamples_71 ?_
    exact G_ireturn g (pc := 74) hret (Nat.le_of_ble_eq_true rfl) (Nat.le_of_ble_eq_true rfl) d_O_writeSamples_74
  · show Go p0 l e _ s m args below meth c w _ _ _ _ (lp_O_writeSamples_7 N rr a1 (Nl + 1) a M k) 7 _ _ M
    unfold lp_O_writeSamples_7
    refine G_iload_n g (pc := 7) 2 d_O_writeSamples_7 rfl rfl ?_
    refine G_aload_n g (pc := 8) 1 d_O_writeSamples_8 rfl rfl ?_
    refine G_getN g (pc := 9) fa_O_19 (hw.m _ (sa_lt0 ha1)) (hw.k (sa_k0 ha1)) d_O_writeSamples_9 ?_
    refine G_icmp_ge g (pc := 12) 70 d_O_writeSamples_12 (by decide) ?_ ?_
    · refine G_iload_n g (pc := 15) 2 d_O_writeSamples_15 rfl rfl ?_
      refine G_if_le g (pc := 16) 25 d_O_writeSamples_16 (by decide) ?_ ?_
      · refine G_aload_n g (pc := 19) 0 d_O_writeSamples_19 rfl rfl ?_
        refine G_bipush g (pc := 20) (32 : Int32) d_O_writeSamples_20 rfl ?_
        refine G_cVV g (pc := 22) (As := [.int (32 : Int32)]) (st := []) cc_O_24 (c_O_addSign l hw (32 : Int32) M) (hw.m 143 (Nat.le_of_ble_eq_true rfl)) (hw.k (zk143 rr)) rfl (by decide) rfl ⟨(Nat.le_of_ble_eq_true rfl), (Nat.le_of_ble_eq_true rfl)⟩ ⟨(Nat.le_of_ble_eq_true rfl), (Nat.le_of_ble_eq_true rfl)⟩ (Nat.le_of_ble_eq_true rfl) d_O_writeSamples_22 (fun M3 => ?_)
        refine G_aload_n g (pc := 25) 0 d_O_writeSamples_25 rfl rfl ?_
        refine G_aload_n g (pc := 26) 1 d_O_writeSamples_26 rfl rfl ?_
        refine G_iload_n g (pc := 27) 2 d_O_writeSamples_27 rfl rfl ?_
        refine G_cVI g (pc := 28) (As := [.int a]) (st := [.ref (wad w 143)]) cc_O_28 (c_S_tickAt l hw a1 ha1 a M3) (hw.m _ (sa_lt0 ha1)) (hw.k (sa_k0 ha1)) rfl (by decide) rfl ⟨(Nat.le_of_ble_eq_true rfl), (Nat.le_of_ble_eq_true rfl)⟩ ⟨(Nat.le_of_ble_eq_true rfl), (Nat.le_of_ble_eq_true rfl)⟩ (Nat.le_of_ble_eq_true rfl) d_O_writeSamples_28 (fun x4 M5 => ?_)
        refine G_cVV g (pc := 31) (As := [.int x4]) (st := []) cc_O_32 (c_O_addNumber l N hw x4 M5) (hw.m 143 (Nat.le_of_ble_eq_true rfl)) (hw.k (zk143 rr)) rfl (by decide) rfl ⟨(Nat.le_of_ble_eq_true rfl), (Nat.le_of_ble_eq_true rfl)⟩ ⟨(Nat.le_of_ble_eq_true rfl), (Nat.le_of_ble_eq_true rfl)⟩ (Nat.le_of_ble_eq_true rfl) d_O_writeSamples_31 (fun M7 => ?_)
        refine G_aload_n g (pc := 34) 0 d_O_writeSamples_34 rfl rfl ?_
        refine G_bipush g (pc := 35) (64 : Int32) d_O_writeSamples_35 rfl ?_
        refine G_cVV g (pc := 37) (As := [.int (64 : Int32)]) (st := []) cc_O_24 (c_O_addSign l hw (64 : Int32) M7) (hw.m 143 (Nat.le_of_ble_eq_true rfl)) (hw.k (zk143 rr)) rfl (by decide) rfl ⟨(Nat.le_of_ble_eq_true rfl), (Nat.le_of_ble_eq_true rfl)⟩ ⟨(Nat.le_of_ble_eq_true rfl), (Nat.le_of_ble_eq_true rfl)⟩ (Nat.le_of_ble_eq_true rfl) d_O_writeSamples_37 (fun M9 => ?_)
        refine G_aload_n g (pc := 40) 0 d_O_writeSamples_40 rfl rfl ?_
        refine G_aload_n g (pc := 41) 1 d_O_writeSamples_41 rfl rfl ?_
        refine G_iload_n g (pc := 42) 2 d_O_writeSamples_42 rfl rfl ?_
        refine G_cVI g (pc := 43) (As := [.int a]) (st := [.ref (wad w 143)]) cc_O_36 (c_S_heightAt l hw a1 ha1 a M9) (hw.m _ (sa_lt0 ha1)) (hw.k (sa_k0 ha1)) rfl (by decide) rfl ⟨(Nat.le_of_ble_eq_true rfl), (Nat.le_of_ble_eq_true rfl)⟩ ⟨(Nat.le_of_ble_eq_true rfl), (Nat.le_of_ble_eq_true rfl)⟩ (Nat.le_of_ble_eq_true rfl) d_O_writeSamples_43 (fun x10 M11 => ?_)
        refine G_cVV g (pc := 46) (As := [.int x10]) (st := []) cc_O_32 (c_O_addNumber l N hw x10 M11) (hw.m 143 (Nat.le_of_ble_eq_true rfl)) (hw.k (zk143 rr)) rfl (by decide) rfl ⟨(Nat.le_of_ble_eq_true rfl), (Nat.le_of_ble_eq_true rfl)⟩ ⟨(Nat.le_of_ble_eq_true rfl), (Nat.le_of_ble_eq_true rfl)⟩ (Nat.le_of_ble_eq_true rfl) d_O_writeSamples_46 (fun M13 => ?_)
        refine G_aload_n g (pc := 49) 0 d_O_writeSamples_49 rfl rfl ?_
        refine G_bipush g (pc := 50) (44 : Int32) d_O_writeSamples_50 rfl ?_
        refine G_cVV g (pc := 52) (As := [.int (44 : Int32)]) (st := []) cc_O_24 (c_O_addSign l hw (44 : Int32) M13) (hw.m 143 (Nat.le_of_ble_eq_true rfl)) (hw.k (zk143 rr)) rfl (by decide) rfl ⟨(Nat.le_of_ble_eq_true rfl), (Nat.le_of_ble_eq_true rfl)⟩ ⟨(Nat.le_of_ble_eq_true rfl), (Nat.le_of_ble_eq_true rfl)⟩ (Nat.le_of_ble_eq_true rfl) d_O_writeSamples_52 (fun M15 => ?_)
        refine G_aload_n g (pc := 55) 0 d_O_writeSamples_55 rfl rfl ?_
        refine G_aload_n g (pc := 56) 1 d_O_writeSamples_56 rfl rfl ?_
        refine G_iload_n g (pc := 57) 2 d_O_writeSamples_57 rfl rfl ?_
        refine G_cVI g (pc := 58) (As := [.int a]) (st := [.ref (wad w 143)]) cc_O_39 (c_S_gustAt l hw a1 ha1 a M15) (hw.m _ (sa_lt0 ha1)) (hw.k (sa_k0 ha1)) rfl (by decide) rfl ⟨(Nat.le_of_ble_eq_true rfl), (Nat.le_of_ble_eq_true rfl)⟩ ⟨(Nat.le_of_ble_eq_true rfl), (Nat.le_of_ble_eq_true rfl)⟩ (Nat.le_of_ble_eq_true rfl) d_O_writeSamples_58 (fun x16 M17 => ?_)
        refine G_cVV g (pc := 61) (As := [.int x16]) (st := []) cc_O_32 (c_O_addNumber l N hw x16 M17) (hw.m 143 (Nat.le_of_ble_eq_true rfl)) (hw.k (zk143 rr)) rfl (by decide) rfl ⟨(Nat.le_of_ble_eq_true rfl), (Nat.le_of_ble_eq_true rfl)⟩ ⟨(Nat.le_of_ble_eq_true rfl), (Nat.le_of_ble_eq_true rfl)⟩ (Nat.le_of_ble_eq_true rfl) d_O_writeSamples_61 (fun M19 => ?_)
        refine G_nmX (a + (1 : Int32)) (fun x20 e_x20 => ?_)
        refine G_iinc g (pc := 64) x20 _ 2 d_O_writeSamples_64 rfl e_x20.symm (Nat.le_of_ble_eq_true rfl) rfl ?_
        refine G_goto g (pc := 67) 7 d_O_writeSamples_67 (by decide) ?_
        refine G_sub [1, 2, 0] _ rfl ?_
        exact ih x20 M19
      · refine G_aload_n g (pc := 25) 0 d_O_writeSamples_25 rfl rfl ?_
        refine G_aload_n g (pc := 26) 1 d_O_writeSamples_26 rfl rfl ?_
        refine G_iload_n g (pc := 27) 2 d_O_writeSamples_27 rfl rfl ?_
        refine G_cVI g (pc := 28) (As := [.int a]) (st := [.ref (wad w 143)]) cc_O_28 (c_S_tickAt l hw a1 ha1 a M) (hw.m _ (sa_lt0 ha1)) (hw.k (sa_k0 ha1)) rfl (by decide) rfl ⟨(Nat.le_of_ble_eq_true rfl), (Nat.le_of_ble_eq_true rfl)⟩ ⟨(Nat.le_of_ble_eq_true rfl), (Nat.le_of_ble_eq_true rfl)⟩ (Nat.le_of_ble_eq_true rfl) d_O_writeSamples_28 (fun x21 M22 => ?_)
        refine G_cVV g (pc := 31) (As := [.int x21]) (st := []) cc_O_32 (c_O_addNumber l N hw x21 M22) (hw.m 143 (Nat.le_of_ble_eq_true rfl)) (hw.k (zk143 rr)) rfl (by decide) rfl ⟨(Nat.le_of_ble_eq_true rfl), (Nat.le_of_ble_eq_true rfl)⟩ ⟨(Nat.le_of_ble_eq_true rfl), (Nat.le_of_ble_eq_true rfl)⟩ (Nat.le_of_ble_eq_true rfl) d_O_writeSamples_31 (fun M24 => ?_)
        refine G_aload_n g (pc := 34) 0 d_O_writeSamples_34 rfl rfl ?_
        refine G_bipush g (pc := 35) (64 : Int32) d_O_writeSamples_35 rfl ?_
        refine G_cVV g (pc := 37) (As := [.int (64 : Int32)]) (st := []) cc_O_24 (c_O_addSign l hw (64 : Int32) M24) (hw.m 143 (Nat.le_of_ble_eq_true rfl)) (hw.k (zk143 rr)) rfl (by decide) rfl ⟨(Nat.le_of_ble_eq_true rfl), (Nat.le_of_ble_eq_true rfl)⟩ ⟨(Nat.le_of_ble_eq_true rfl), (Nat.le_of_ble_eq_true rfl)⟩ (Nat.le_of_ble_eq_true rfl) d_O_writeSamples_37 (fun M26 => ?_)
        refine G_aload_n g (pc := 40) 0 d_O_writeSamples_40 rfl rfl ?_
        refine G_aload_n g (pc := 41) 1 d_O_writeSamples_41 rfl rfl ?_
        refine G_iload_n g (pc := 42) 2 d_O_writeSamples_42 rfl rfl ?_
        refine G_cVI g (pc := 43) (As := [.int a]) (st := [.ref (wad w 143)]) cc_O_36 (c_S_heightAt l hw a1 ha1 a M26) (hw.m _ (sa_lt0 ha1)) (hw.k (sa_k0 ha1)) rfl (by decide) rfl ⟨(Nat.le_of_ble_eq_true rfl), (Nat.le_of_ble_eq_true rfl)⟩ ⟨(Nat.le_of_ble_eq_true rfl), (Nat.le_of_ble_eq_true rfl)⟩ (Nat.le_of_ble_eq_true rfl) d_O_writeSamples_43 (fun x27 M28 => ?_)
        refine G_cVV g (pc := 46) (As := [.int x27]) (st := []) cc_O_32 (c_O_addNumber l N hw x27 M28) (hw.m 143 (Nat.le_of_ble_eq_true rfl)) (hw.k (zk143 rr)) rfl (by decide) rfl ⟨(Nat.le_of_ble_eq_true rfl), (Nat.le_of_ble_eq_true rfl)⟩ ⟨(Nat.le_of_ble_eq_true rfl), (Nat.le_of_ble_eq_true rfl)⟩ (Nat.le_of_ble_eq_true rfl) d_O_writeSamples_46 (fun M30 => ?_)
        refine G_aload_n g (pc := 49) 0 d_O_writeSamples_49 rfl rfl ?_
        refine G_bipush g (pc := 50) (44 : Int32) d_O_writeSamples_50 rfl ?_
        refine G_cVV g (pc := 52) (As := [.int (44 : Int32)]) (st := []) cc_O_24 (c_O_addSign l hw (44 : Int32) M30) (hw.m 143 (Nat.le_of_ble_eq_true rfl)) (hw.k (zk143 rr)) rfl (by decide) rfl ⟨(Nat.le_of_ble_eq_true rfl), (Nat.le_of_ble_eq_true rfl)⟩ ⟨(Nat.le_of_ble_eq_true rfl), (Nat.le_of_ble_eq_true rfl)⟩ (Nat.le_of_ble_eq_true rfl) d_O_writeSamples_52 (fun M32 => ?_)
        refine G_aload_n g (pc := 55) 0 d_O_writeSamples_55 rfl rfl ?_
        refine G_aload_n g (pc := 56) 1 d_O_writeSamples_56 rfl rfl ?_
        refine G_iload_n g (pc := 57) 2 d_O_writeSamples_57 rfl rfl ?_
        refine G_cVI g (pc := 58) (As := [.int a]) (st := [.ref (wad w 143)]) cc_O_39 (c_S_gustAt l hw a1 ha1 a M32) (hw.m _ (sa_lt0 ha1)) (hw.k (sa_k0 ha1)) rfl (by decide) rfl ⟨(Nat.le_of_ble_eq_true rfl), (Nat.le_of_ble_eq_true rfl)⟩ ⟨(Nat.le_of_ble_eq_true rfl), (Nat.le_of_ble_eq_true rfl)⟩ (Nat.le_of_ble_eq_true rfl) d_O_writeSamples_58 (fun x33 M34 => ?_)
        refine G_cVV g (pc := 61) (As := [.int x33]) (st := []) cc_O_32 (c_O_addNumber l N hw x33 M34) (hw.m 143 (Nat.le_of_ble_eq_true rfl)) (hw.k (zk143 rr)) rfl (by decide) rfl ⟨(Nat.le_of_ble_eq_true rfl), (Nat.le_of_ble_eq_true rfl)⟩ ⟨(Nat.le_of_ble_eq_true rfl), (Nat.le_of_ble_eq_true rfl)⟩ (Nat.le_of_ble_eq_true rfl) d_O_writeSamples_61 (fun M36 => ?_)
        refine G_nmX (a + (1 : Int32)) (fun x37 e_x37 => ?_)
        refine G_iinc g (pc := 64) x37 _ 2 d_O_writeSamples_64 rfl e_x37.symm (Nat.le_of_ble_eq_true rfl) rfl ?_
        refine G_goto g (pc := 67) 7 d_O_writeSamples_67 (by decide) ?_
        refine G_sub [1, 2, 0] _ rfl ?_
        exact ih x37 M36
    · refine G_sub [0, 1, 2] _ rfl ?_
      exact hk a M
end
section
theorem d_X_hasRoomFor_0 : decode b_X_hasRoomFor 0 = .ok (.aload_n 0, 1) := by decide +kernel
theorem d_X_hasRoomFor_1 : decode b_X_hasRoomFor 1 = .ok (.getfield 15, 3) := by decide +kernel
theorem d_X_hasRoomFor_4 : decode b_X_hasRoomFor 4 = .ok (.iload_n 1, 1) := by decide +kernel
theorem d_X_hasRoomFor_5 : decode b_X_hasRoomFor 5 = .ok (.iadd, 1) := by decide +kernel
theorem d_X_hasRoomFor_6 : decode b_X_hasRoomFor 6 = .ok (.sipush 500, 3) := by decide +kernel
theorem d_X_hasRoomFor_9 : decode b_X_hasRoomFor 9 = .ok (.if_icmp .gt 7, 3) := by decide +kernel
theorem d_X_hasRoomFor_12 : decode b_X_hasRoomFor 12 = .ok (.iconst 1, 1) := by decide +kernel
theorem d_X_hasRoomFor_13 : decode b_X_hasRoomFor 13 = .ok (.goto 4, 3) := by decide +kernel
theorem d_X_hasRoomFor_16 : decode b_X_hasRoomFor 16 = .ok (.iconst 0, 1) := by decide +kernel
theorem d_X_hasRoomFor_17 : decode b_X_hasRoomFor 17 = .ok (.ireturn, 1) := by decide +kernel
def f_X_hasRoomFor (a1 : Int32) (M : Mem) : Option (Bool × Mem) :=
  if ((M 1 1) + a1) ≤ (500 : Int32) then (some (true, M)) else (some (false, M))
set_option maxHeartbeats 4000000 in
set_option maxRecDepth 100000 in
theorem c_X_hasRoomFor (l : Launch) {w : Wc} {rr : Nat} (hw : WK w rr) (a1 : Int32) (M : Mem) : Ct QZ l y_X_hasRoomFor b_X_hasRoomFor 2 (some .boolean) (rmL 0) w [.ref (wad w 1), .int a1] M (f_X_hasRoomFor a1 M) := by
  refine Ct.go (by decide) (L := [(0, .ref (wad w 1)), (1, .int a1)]) rfl (Nat.le_of_ble_eq_true rfl) (fun p0 e s m args below meth c g hret => ?_)
  unfold f_X_hasRoomFor
  refine G_aload_n g (pc := 0) 0 d_X_hasRoomFor_0 rfl rfl ?_
  refine G_get g (pc := 1) fa_X_15 (hw.m 1 (Nat.le_of_ble_eq_true rfl)) (hw.k (zk1 rr)) d_X_hasRoomFor_1 ?_
  refine G_iload_n g (pc := 4) 1 d_X_hasRoomFor_4 rfl rfl ?_
  refine G_iadd g (pc := 5) d_X_hasRoomFor_5 ?_
  refine G_sipush g (pc := 6) (500 : Int32) d_X_hasRoomFor_6 rfl ?_
  refine G_icmp_gt g (pc := 9) 16 d_X_hasRoomFor_9 (by decide) ?_ ?_
  · refine G_iconst g (pc := 12) (1 : Int32) d_X_hasRoomFor_12 rfl ?_
    refine G_goto g (pc := 13) 17 d_X_hasRoomFor_13 (by decide) ?_
    exact G_zreturn g (pc := 17) true rfl hret (Nat.le_of_ble_eq_true rfl) (Nat.le_of_ble_eq_true rfl) d_X_hasRoomFor_17
  · refine G_iconst g (pc := 16) (0 : Int32) d_X_hasRoomFor_16 rfl ?_
    exact G_zreturn g (pc := 17) false rfl hret (Nat.le_of_ble_eq_true rfl) (Nat.le_of_ble_eq_true rfl) d_X_hasRoomFor_17

theorem d_X_appendFour_0 : decode b_X_appendFour 0 = .ok (.bipush 24, 2) := by decide +kernel
theorem d_X_appendFour_2 : decode b_X_appendFour 2 = .ok (.istore_n 2, 1) := by decide +kernel
theorem d_X_appendFour_3 : decode b_X_appendFour 3 = .ok (.iload_n 2, 1) := by decide +kernel
theorem d_X_appendFour_4 : decode b_X_appendFour 4 = .ok (.ifCond .lt 51, 3) := by decide +kernel
theorem d_X_appendFour_7 : decode b_X_appendFour 7 = .ok (.aload_n 0, 1) := by decide +kernel
theorem d_X_appendFour_8 : decode b_X_appendFour 8 = .ok (.getfield 15, 3) := by decide +kernel
theorem d_X_appendFour_11 : decode b_X_appendFour 11 = .ok (.ifCond .lt 38, 3) := by decide +kernel
theorem d_X_appendFour_14 : decode b_X_appendFour 14 = .ok (.aload_n 0, 1) := by decide +kernel
theorem d_X_appendFour_15 : decode b_X_appendFour 15 = .ok (.getfield 15, 3) := by decide +kernel
theorem d_X_appendFour_18 : decode b_X_appendFour 18 = .ok (.aload_n 0, 1) := by decide +kernel
theorem d_X_appendFour_19 : decode b_X_appendFour 19 = .ok (.getfield 9, 3) := by decide +kernel
theorem d_X_appendFour_22 : decode b_X_appendFour 22 = .ok (.arraylength, 1) := by decide +kernel
theorem d_X_appendFour_23 : decode b_X_appendFour 23 = .ok (.if_icmp .ge 26, 3) := by decide +kernel
theorem d_X_appendFour_26 : decode b_X_appendFour 26 = .ok (.aload_n 0, 1) := by decide +kernel
theorem d_X_appendFour_27 : decode b_X_appendFour 27 = .ok (.getfield 9, 3) := by decide +kernel
theorem d_X_appendFour_30 : decode b_X_appendFour 30 = .ok (.aload_n 0, 1) := by decide +kernel
theorem d_X_appendFour_31 : decode b_X_appendFour 31 = .ok (.getfield 15, 3) := by decide +kernel
theorem d_X_appendFour_34 : decode b_X_appendFour 34 = .ok (.iload_n 1, 1) := by decide +kernel
theorem d_X_appendFour_35 : decode b_X_appendFour 35 = .ok (.iload_n 2, 1) := by decide +kernel
theorem d_X_appendFour_36 : decode b_X_appendFour 36 = .ok (.iushr, 1) := by decide +kernel
theorem d_X_appendFour_37 : decode b_X_appendFour 37 = .ok (.i2b, 1) := by decide +kernel
theorem d_X_appendFour_38 : decode b_X_appendFour 38 = .ok (.bastore, 1) := by decide +kernel
theorem d_X_appendFour_39 : decode b_X_appendFour 39 = .ok (.aload_n 0, 1) := by decide +kernel
theorem d_X_appendFour_40 : decode b_X_appendFour 40 = .ok (.dup, 1) := by decide +kernel
theorem d_X_appendFour_41 : decode b_X_appendFour 41 = .ok (.getfield 15, 3) := by decide +kernel
theorem d_X_appendFour_44 : decode b_X_appendFour 44 = .ok (.iconst 1, 1) := by decide +kernel
theorem d_X_appendFour_45 : decode b_X_appendFour 45 = .ok (.iadd, 1) := by decide +kernel
theorem d_X_appendFour_46 : decode b_X_appendFour 46 = .ok (.putfield 15, 3) := by decide +kernel
theorem d_X_appendFour_49 : decode b_X_appendFour 49 = .ok (.iinc 2 (-8), 3) := by decide +kernel
theorem d_X_appendFour_52 : decode b_X_appendFour 52 = .ok (.goto (-49), 3) := by decide +kernel
theorem d_X_appendFour_55 : decode b_X_appendFour 55 = .ok (.return_, 1) := by decide +kernel
def lp_X_appendFour_3 (N0 rr : Nat) (a1 : Int32)  : Nat → Int32 → Mem → (Int32 → Mem → Option (Mem)) → Option (Mem)
  | 0, _, _, _ => none
  | N + 1, a, M, k => if a < 0 then (k a M) else (if (M 1 1) < 0 then (nm (a + (-8 : Int32)) fun (x1 : Int32) => lp_X_appendFour_3 N0 rr a1 N x1 M k) else (if (M 1 1) < (500 : Int32) then (grd (inB (M 1 1) 500) (nm (put M 2 (M 1 1).toNatClampNeg (vp_nar .byte (((a1.toUInt32 >>> (a.toUInt32 &&& Int32.toUInt32 31)).toInt32).toInt8.toInt32))) fun (M2 : Mem) => nm (put M2 1 1 ((M2 1 1) + (1 : Int32))) fun (M3 : Mem) => nm (a + (-8 : Int32)) fun (x4 : Int32) => lp_X_appendFour_3 N0 rr a1 N x4 M3 k)) else (nm (a + (-8 : Int32)) fun (x5 : Int32) => lp_X_appendFour_3 N0 rr a1 N x5 M k)))
def f_X_appendFour (N : Nat) (rr : Nat) (a1 : Int32) (M : Mem) : Option (Mem) :=
  lp_X_appendFour_3 N rr a1 N (24 : Int32) M (fun (a7 : Int32) (M6 : Mem) => some M6)
set_option maxHeartbeats 4000000 in
set_option maxRecDepth 100000 in
theorem c_X_appendFour (l : Launch) (N : Nat) {w : Wc} {rr : Nat} (hw : WK w rr) (a1 : Int32) (M : Mem) : Ct QV l y_X_appendFour b_X_appendFour 3 none (rmL 0) w [.ref (wad w 1), .int a1] M (f_X_appendFour N rr a1 M) := by
  refine Ct.go (by decide) (L := [(0, .ref (wad w 1)), (1, .int a1)]) rfl (Nat.le_of_ble_eq_true rfl) (fun p0 e s m args below meth c g hret => ?_)
  unfold f_X_appendFour
  refine G_bipush g (pc := 0) (24 : Int32) d_X_appendFour_0 rfl ?_
  refine G_istore_n g (pc := 2) _ d_X_appendFour_2 rfl (Nat.le_of_ble_eq_true rfl) rfl ?_
  refine G_sub [1, 2, 0] _ rfl ?_
  refine G_loop (F := lp_X_appendFour_3 N rr a1) 3 55 (fun (a : Int32) => [(0, .ref (wad w 1)), (1, .int a1), (2, .int a)]) (fun (a : Int32) => [(0, .ref (wad w 1)), (1, .int a1), (2, .int a)]) (fun _ _ _ => rfl) (fun a7 M6 => ?_) (fun k hk Nl ih a M => ?_) N (24 : Int32) M
  · exact G_return g (pc := 55) hret (Nat.le_of_ble_eq_true rfl) (Nat.le_of_ble_eq_true rfl) d_X_appendFour_55
  · show Go p0 l e _ s m args below meth c w _ _ _ _ (lp_X_appendFour_3 N rr a1 (Nl + 1) a M k) 3 _ _ M
    unfold lp_X_appendFour_3
    refine G_iload_n g (pc := 3) 2 d_X_appendFour_3 rfl rfl ?_
    refine G_if_lt g (pc := 4) 55 d_X_appendFour_4 (by decide) ?_ ?_
    · refine G_sub [0, 1, 2] _ rfl ?_
      exact hk a M
    · refine G_aload_n g (pc := 7) 0 d_X_appendFour_7 rfl rfl ?_
      refine G_get g (pc := 8) fa_X_15 (hw.m 1 (Nat.le_of_ble_eq_true rfl)) (hw.k (zk1 rr)) d_X_appendFour_8 ?_
      refine G_if_lt g (pc := 11) 49 d_X_appendFour_11 (by decide) ?_ ?_
      · refine G_nmX (a + (-8 : Int32)) (fun x1 e_x1 => ?_)
        refine G_iinc g (pc := 49) x1 _ 2 d_X_appendFour_49 rfl e_x1.symm (Nat.le_of_ble_eq_true rfl) rfl ?_
        refine G_goto g (pc := 52) 3 d_X_appendFour_52 (by decide) ?_
        refine G_sub [1, 2, 0] _ rfl ?_
        exact ih x1 M
      · refine G_aload_n g (pc := 14) 0 d_X_appendFour_14 rfl rfl ?_
        refine G_get g (pc := 15) fa_X_15 (hw.m 1 (Nat.le_of_ble_eq_true rfl)) (hw.k (zk1 rr)) d_X_appendFour_15 ?_
        refine G_aload_n g (pc := 18) 0 d_X_appendFour_18 rfl rfl ?_
        refine G_getR g (pc := 19) fa_X_9 (hw.m 1 (Nat.le_of_ble_eq_true rfl)) (hw.k (zk1 rr)) (hw.r (zr1_0 rr)) d_X_appendFour_19 ?_
        refine G_alenB g (pc := 22) (500 : Int32) (hw.m 2 (Nat.le_of_ble_eq_true rfl)) (hw.k (zk2 rr)) (by rw [(hw.n (zn2 rr))]; rfl) d_X_appendFour_22 ?_
        refine G_icmp_ge g (pc := 23) 49 d_X_appendFour_23 (by decide) ?_ ?_
        · refine G_aload_n g (pc := 26) 0 d_X_appendFour_26 rfl rfl ?_
          refine G_getR g (pc := 27) fa_X_9 (hw.m 1 (Nat.le_of_ble_eq_true rfl)) (hw.k (zk1 rr)) (hw.r (zr1_0 rr)) d_X_appendFour_27 ?_
          refine G_aload_n g (pc := 30) 0 d_X_appendFour_30 rfl rfl ?_
          refine G_get g (pc := 31) fa_X_15 (hw.m 1 (Nat.le_of_ble_eq_true rfl)) (hw.k (zk1 rr)) d_X_appendFour_31 ?_
          refine G_iload_n g (pc := 34) 1 d_X_appendFour_34 rfl rfl ?_
          refine G_iload_n g (pc := 35) 2 d_X_appendFour_35 rfl rfl ?_
          refine G_iushr g (pc := 36) d_X_appendFour_36 ?_
          refine G_i2b g (pc := 37) d_X_appendFour_37 ?_
          refine G_bast g (pc := 38) (nn := 500) (hw.m 2 (Nat.le_of_ble_eq_true rfl)) (hw.k (zk2 rr)) (hw.n (zn2 rr)) d_X_appendFour_38 ?_
          refine G_nmM (fun M2 => ?_)
          refine G_aload_n g (pc := 39) 0 d_X_appendFour_39 rfl rfl ?_
          refine G_dup g (pc := 40) d_X_appendFour_40 rfl ?_
          refine G_get g (pc := 41) fa_X_15 (hw.m 1 (Nat.le_of_ble_eq_true rfl)) (hw.k (zk1 rr)) d_X_appendFour_41 ?_
          refine G_iconst g (pc := 44) (1 : Int32) d_X_appendFour_44 rfl ?_
          refine G_iadd g (pc := 45) d_X_appendFour_45 ?_
          refine G_put g (pc := 46) fa_X_15 fw_7_1 rfl rfl (hw.m 1 (Nat.le_of_ble_eq_true rfl)) (hw.k (zk1 rr)) d_X_appendFour_46 ?_
          refine G_nmM (fun M3 => ?_)
          refine G_nmX (a + (-8 : Int32)) (fun x4 e_x4 => ?_)
          refine G_iinc g (pc := 49) x4 _ 2 d_X_appendFour_49 rfl e_x4.symm (Nat.le_of_ble_eq_true rfl) rfl ?_
          refine G_goto g (pc := 52) 3 d_X_appendFour_52 (by decide) ?_
          refine G_sub [1, 2, 0] _ rfl ?_
          exact ih x4 M3
        · refine G_nmX (a + (-8 : Int32)) (fun x5 e_x5 => ?_)
          refine G_iinc g (pc := 49) x5 _ 2 d_X_appendFour_49 rfl e_x5.symm (Nat.le_of_ble_eq_true rfl) rfl ?_
          refine G_goto g (pc := 52) 3 d_X_appendFour_52 (by decide) ?_
          refine G_sub [1, 2, 0] _ rfl ?_
          exact ih x5 M

theorem d_X_byteAt_0 : decode b_X_byteAt 0 = .ok (.iload_n 1, 1) := by decide +kernel
theorem d_X_byteAt_1 : decode b_X_byteAt 1 = .ok (.ifCond .lt 33, 3) := by decide +kernel
theorem d_X_byteAt_4 : decode b_X_byteAt 4 = .ok (.iload_n 1, 1) := by decide +kernel
theorem d_X_byteAt_5 : decode b_X_byteAt 5 = .ok (.aload_n 0, 1) := by decide +kernel
theorem d_X_byteAt_6 : decode b_X_byteAt 6 = .ok (.getfield 19, 3) := by decide +kernel
theorem d_X_byteAt_9 : decode b_X_byteAt 9 = .ok (.if_icmp .ge 25, 3) := by decide +kernel
theorem d_X_byteAt_12 : decode b_X_byteAt 12 = .ok (.iload_n 1, 1) := by decide +kernel
theorem d_X_byteAt_13 : decode b_X_byteAt 13 = .ok (.aload_n 0, 1) := by decide +kernel
theorem d_X_byteAt_14 : decode b_X_byteAt 14 = .ok (.getfield 9, 3) := by decide +kernel
theorem d_X_byteAt_17 : decode b_X_byteAt 17 = .ok (.arraylength, 1) := by decide +kernel
theorem d_X_byteAt_18 : decode b_X_byteAt 18 = .ok (.if_icmp .ge 16, 3) := by decide +kernel
theorem d_X_byteAt_21 : decode b_X_byteAt 21 = .ok (.aload_n 0, 1) := by decide +kernel
theorem d_X_byteAt_22 : decode b_X_byteAt 22 = .ok (.getfield 9, 3) := by decide +kernel
theorem d_X_byteAt_25 : decode b_X_byteAt 25 = .ok (.iload_n 1, 1) := by decide +kernel
theorem d_X_byteAt_26 : decode b_X_byteAt 26 = .ok (.baload, 1) := by decide +kernel
theorem d_X_byteAt_27 : decode b_X_byteAt 27 = .ok (.sipush 255, 3) := by decide +kernel
theorem d_X_byteAt_30 : decode b_X_byteAt 30 = .ok (.iand, 1) := by decide +kernel
theorem d_X_byteAt_31 : decode b_X_byteAt 31 = .ok (.goto 4, 3) := by decide +kernel
theorem d_X_byteAt_34 : decode b_X_byteAt 34 = .ok (.iconst (-1), 1) := by decide +kernel
theorem d_X_byteAt_35 : decode b_X_byteAt 35 = .ok (.ireturn, 1) := by decide +kernel
def f_X_byteAt (a1 : Int32) (M : Mem) : Option (Int32 × Mem) :=
  if a1 < 0 then (some ((-1 : Int32), M)) else (if a1 < (M 1 2) then (if a1 < (500 : Int32) then (grd (inB a1 500) (some ((M 2 a1.toNatClampNeg) &&& (255 : Int32), M))) else (some ((-1 : Int32), M))) else (some ((-1 : Int32), M)))
set_option maxHeartbeats 4000000 in
set_option maxRecDepth 100000 in
theorem c_X_byteAt (l : Launch) {w : Wc} {rr : Nat} (hw : WK w rr) (a1 : Int32) (M : Mem) : Ct QI l y_X_byteAt b_X_byteAt 2 (some .int) (rmL 0) w [.ref (wad w 1), .int a1] M (f_X_byteAt a1 M) := by
  refine Ct.go (by decide) (L := [(0, .ref (wad w 1)), (1, .int a1)]) rfl (Nat.le_of_ble_eq_true rfl) (fun p0 e s m args below meth c g hret => ?_)
  unfold f_X_byteAt
  refine G_iload_n g (pc := 0) 1 d_X_byteAt_0 rfl rfl ?_
  refine G_if_lt g (pc := 1) 34 d_X_byteAt_1 (by decide) ?_ ?_
  · refine G_iconst g (pc := 34) (-1 : Int32) d_X_byteAt_34 rfl ?_
    exact G_ireturn g (pc := 35) hret (Nat.le_of_ble_eq_true rfl) (Nat.le_of_ble_eq_true rfl) d_X_byteAt_35
  · refine G_iload_n g (pc := 4) 1 d_X_byteAt_4 rfl rfl ?_
    refine G_aload_n g (pc := 5) 0 d_X_byteAt_5 rfl rfl ?_
    refine G_get g (pc := 6) fa_X_19 (hw.m 1 (Nat.le_of_ble_eq_true rfl)) (hw.k (zk1 rr)) d_X_byteAt_6 ?_
    refine G_icmp_ge g (pc := 9) 34 d_X_byteAt_9 (by decide) ?_ ?_
    · refine G_iload_n g (pc := 12) 1 d_X_byteAt_12 rfl rfl ?_
      refine G_aload_n g (pc := 13) 0 d_X_byteAt_13 rfl rfl ?_
      refine G_getR g (pc := 14) fa_X_9 (hw.m 1 (Nat.le_of_ble_eq_true rfl)) (hw.k (zk1 rr)) (hw.r (zr1_0 rr)) d_X_byteAt_14 ?_
      refine G_alenB g (pc := 17) (500 : Int32) (hw.m 2 (Nat.le_of_ble_eq_true rfl)) (hw.k (zk2 rr)) (by rw [(hw.n (zn2 rr))]; rfl) d_X_byteAt_17 ?_
      refine G_icmp_ge g (pc := 18) 34 d_X_byteAt_18 (by decide) ?_ ?_
      · refine G_aload_n g (pc := 21) 0 d_X_byteAt_21 rfl rfl ?_
        refine G_getR g (pc := 22) fa_X_9 (hw.m 1 (Nat.le_of_ble_eq_true rfl)) (hw.k (zk1 rr)) (hw.r (zr1_0 rr)) d_X_byteAt_22 ?_
        refine G_iload_n g (pc := 25) 1 d_X_byteAt_25 rfl rfl ?_
        refine G_bald g (pc := 26) (nn := 500) (hw.m 2 (Nat.le_of_ble_eq_true rfl)) (hw.k (zk2 rr)) (hw.n (zn2 rr)) d_X_byteAt_26 ?_
        refine G_sipush g (pc := 27) (255 : Int32) d_X_byteAt_27 rfl ?_
        refine G_iand g (pc := 30) d_X_byteAt_30 ?_
        refine G_goto g (pc := 31) 35 d_X_byteAt_31 (by decide) ?_
        exact G_ireturn g (pc := 35) hret (Nat.le_of_ble_eq_true rfl) (Nat.le_of_ble_eq_true rfl) d_X_byteAt_35
      · refine G_iconst g (pc := 34) (-1 : Int32) d_X_byteAt_34 rfl ?_
        exact G_ireturn g (pc := 35) hret (Nat.le_of_ble_eq_true rfl) (Nat.le_of_ble_eq_true rfl) d_X_byteAt_35
    · refine G_iconst g (pc := 34) (-1 : Int32) d_X_byteAt_34 rfl ?_
      exact G_ireturn g (pc := 35) hret (Nat.le_of_ble_eq_true rfl) (Nat.le_of_ble_eq_true rfl) d_X_byteAt_35

theorem d_X_isBlank_0 : decode b_X_isBlank 0 = .ok (.iload_n 0, 1) := by decide +kernel
theorem d_X_isBlank_1 : decode b_X_isBlank 1 = .ok (.bipush 32, 2) := by decide +kernel
theorem d_X_isBlank_3 : decode b_X_isBlank 3 = .ok (.if_icmp .eq 9, 3) := by decide +kernel
theorem d_X_isBlank_6 : decode b_X_isBlank 6 = .ok (.iload_n 0, 1) := by decide +kernel
theorem d_X_isBlank_7 : decode b_X_isBlank 7 = .ok (.bipush 10, 2) := by decide +kernel
theorem d_X_isBlank_9 : decode b_X_isBlank 9 = .ok (.if_icmp .ne 7, 3) := by decide +kernel
theorem d_X_isBlank_12 : decode b_X_isBlank 12 = .ok (.iconst 1, 1) := by decide +kernel
theorem d_X_isBlank_13 : decode b_X_isBlank 13 = .ok (.goto 4, 3) := by decide +kernel
theorem d_X_isBlank_16 : decode b_X_isBlank 16 = .ok (.iconst 0, 1) := by decide +kernel
theorem d_X_isBlank_17 : decode b_X_isBlank 17 = .ok (.ireturn, 1) := by decide +kernel
def f_X_isBlank (a1 : Int32) (M : Mem) : Option (Bool × Mem) :=
  if a1 = (32 : Int32) then (some (true, M)) else (if a1 = (10 : Int32) then (some (true, M)) else (some (false, M)))
set_option maxHeartbeats 4000000 in
set_option maxRecDepth 100000 in
theorem c_X_isBlank (l : Launch) {w : Wc} {rr : Nat} (hw : WK w rr) (a1 : Int32) (M : Mem) : Ct QZ l y_X_isBlank b_X_isBlank 1 (some .boolean) (rmL 0) w [.int a1] M (f_X_isBlank a1 M) := by
  refine Ct.go (by decide) (L := [(0, .int a1)]) rfl (Nat.le_of_ble_eq_true rfl) (fun p0 e s m args below meth c g hret => ?_)
  unfold f_X_isBlank
  refine G_iload_n g (pc := 0) 0 d_X_isBlank_0 rfl rfl ?_
  refine G_bipush g (pc := 1) (32 : Int32) d_X_isBlank_1 rfl ?_
  refine G_icmp_eq g (pc := 3) 12 d_X_isBlank_3 (by decide) ?_ ?_
  · refine G_iconst g (pc := 12) (1 : Int32) d_X_isBlank_12 rfl ?_
    refine G_goto g (pc := 13) 17 d_X_isBlank_13 (by decide) ?_
    exact G_zreturn g (pc := 17) true rfl hret (Nat.le_of_ble_eq_true rfl) (Nat.le_of_ble_eq_true rfl) d_X_isBlank_17
  · refine G_iload_n g (pc := 6) 0 d_X_isBlank_6 rfl rfl ?_
    refine G_bipush g (pc := 7) (10 : Int32) d_X_isBlank_7 rfl ?_
    refine G_icmp_ne g (pc := 9) 16 d_X_isBlank_9 (by decide) ?_ ?_
    · refine G_iconst g (pc := 12) (1 : Int32) d_X_isBlank_12 rfl ?_
      refine G_goto g (pc := 13) 17 d_X_isBlank_13 (by decide) ?_
      exact G_zreturn g (pc := 17) true rfl hret (Nat.le_of_ble_eq_true rfl) (Nat.le_of_ble_eq_true rfl) d_X_isBlank_17
    · refine G_iconst g (pc := 16) (0 : Int32) d_X_isBlank_16 rfl ?_
      exact G_zreturn g (pc := 17) false rfl hret (Nat.le_of_ble_eq_true rfl) (Nat.le_of_ble_eq_true rfl) d_X_isBlank_17

theorem d_X_kindOf_0 : decode b_X_kindOf 0 = .ok (.iload_n 0, 1) := by decide +kernel
theorem d_X_kindOf_1 : decode b_X_kindOf 1 = .ok (.bipush 97, 2) := by decide +kernel
theorem d_X_kindOf_3 : decode b_X_kindOf 3 = .ok (.if_icmp .lt 11, 3) := by decide +kernel
theorem d_X_kindOf_6 : decode b_X_kindOf 6 = .ok (.iload_n 0, 1) := by decide +kernel
theorem d_X_kindOf_7 : decode b_X_kindOf 7 = .ok (.bipush 122, 2) := by decide +kernel
theorem d_X_kindOf_9 : decode b_X_kindOf 9 = .ok (.if_icmp .gt 5, 3) := by decide +kernel
theorem d_X_kindOf_12 : decode b_X_kindOf 12 = .ok (.iconst 1, 1) := by decide +kernel
theorem d_X_kindOf_13 : decode b_X_kindOf 13 = .ok (.ireturn, 1) := by decide +kernel
theorem d_X_kindOf_14 : decode b_X_kindOf 14 = .ok (.iload_n 0, 1) := by decide +kernel
theorem d_X_kindOf_15 : decode b_X_kindOf 15 = .ok (.bipush 48, 2) := by decide +kernel
theorem d_X_kindOf_17 : decode b_X_kindOf 17 = .ok (.if_icmp .lt 11, 3) := by decide +kernel
theorem d_X_kindOf_20 : decode b_X_kindOf 20 = .ok (.iload_n 0, 1) := by decide +kernel
theorem d_X_kindOf_21 : decode b_X_kindOf 21 = .ok (.bipush 57, 2) := by decide +kernel
theorem d_X_kindOf_23 : decode b_X_kindOf 23 = .ok (.if_icmp .gt 5, 3) := by decide +kernel
theorem d_X_kindOf_26 : decode b_X_kindOf 26 = .ok (.iconst 2, 1) := by decide +kernel
theorem d_X_kindOf_27 : decode b_X_kindOf 27 = .ok (.ireturn, 1) := by decide +kernel
theorem d_X_kindOf_28 : decode b_X_kindOf 28 = .ok (.iload_n 0, 1) := by decide +kernel
theorem d_X_kindOf_29 : decode b_X_kindOf 29 = .ok (.lookupswitch 51 #[(-1, 43), (40, 47), (41, 49), (59, 45)], 43) := by decide +kernel
theorem d_X_kindOf_72 : decode b_X_kindOf 72 = .ok (.iconst 0, 1) := by decide +kernel
theorem d_X_kindOf_73 : decode b_X_kindOf 73 = .ok (.ireturn, 1) := by decide +kernel
theorem d_X_kindOf_74 : decode b_X_kindOf 74 = .ok (.iconst 3, 1) := by decide +kernel
theorem d_X_kindOf_75 : decode b_X_kindOf 75 = .ok (.ireturn, 1) := by decide +kernel
theorem d_X_kindOf_76 : decode b_X_kindOf 76 = .ok (.iconst 4, 1) := by decide +kernel
theorem d_X_kindOf_77 : decode b_X_kindOf 77 = .ok (.ireturn, 1) := by decide +kernel
theorem d_X_kindOf_78 : decode b_X_kindOf 78 = .ok (.iconst 5, 1) := by decide +kernel
theorem d_X_kindOf_79 : decode b_X_kindOf 79 = .ok (.ireturn, 1) := by decide +kernel
theorem d_X_kindOf_80 : decode b_X_kindOf 80 = .ok (.bipush 6, 2) := by decide +kernel
theorem d_X_kindOf_82 : decode b_X_kindOf 82 = .ok (.ireturn, 1) := by decide +kernel
def f_X_kindOf (a1 : Int32) (M : Mem) : Option (Int32 × Mem) :=
  if a1 < (97 : Int32) then (if a1 < (48 : Int32) then (if a1 = (-1 : Int32) then (some ((0 : Int32), M)) else (if a1 = (40 : Int32) then (some ((4 : Int32), M)) else (if a1 = (41 : Int32) then (some ((5 : Int32), M)) else (if a1 = (59 : Int32) then (some ((3 : Int32), M)) else (some ((6 : Int32), M)))))) else (if a1 ≤ (57 : Int32) then (some ((2 : Int32), M)) else (if a1 = (-1 : Int32) then (some ((0 : Int32), M)) else (if a1 = (40 : Int32) then (some ((4 : Int32), M)) else (if a1 = (41 : Int32) then (some ((5 : Int32), M)) else (if a1 = (59 : Int32) then (some ((3 : Int32), M)) else (some ((6 : Int32), M)))))))) else (if a1 ≤ (122 : Int32) then (some ((1 : Int32), M)) else (if a1 < (48 : Int32) then (if a1 = (-1 : Int32) then (some ((0 : Int32), M)) else (if a1 = (40 : Int32) then (some ((4 : Int32), M)) else (if a1 = (41 : Int32) then (some ((5 : Int32), M)) else (if a1 = (59 : Int32) then (some ((3 : Int32), M)) else (some ((6 : Int32), M)))))) else (if a1 ≤ (57 : Int32) then (some ((2 : Int32), M)) else (if a1 = (-1 : Int32) then (some ((0 : Int32), M)) else (if a1 = (40 : Int32) then (some ((4 : Int32), M)) else (if a1 = (41 : Int32) then (some ((5 : Int32), M)) else (if a1 = (59 : Int32) then (some ((3 : Int32), M)) else (some ((6 : Int32), M)))))))))
set_option maxHeartbeats 4000000 in
set_option maxRecDepth 100000 in
theorem c_X_kindOf (l : Launch) {w : Wc} {rr : Nat} (hw : WK w rr) (a1 : Int32) (M : Mem) : Ct QI l y_X_kindOf b_X_kindOf 1 (some .int) (rmL 0) w [.int a1] M (f_X_kindOf a1 M) := by
  refine Ct.go (by decide) (L := [(0, .int a1)]) rfl (Nat.le_of_ble_eq_true rfl) (fun p0 e s m args below meth c g hret => ?_)
  unfold f_X_kindOf
  refine G_iload_n g (pc := 0) 0 d_X_kindOf_0 rfl rfl ?_
  refine G_bipush g (pc := 1) (97 : Int32) d_X_kindOf_1 rfl ?_
  refine G_icmp_lt g (pc := 3) 14 d_X_kindOf_3 (by decide) ?_ ?_
  · refine G_iload_n g (pc := 14) 0 d_X_kindOf_14 rfl rfl ?_
    refine G_bipush g (pc := 15) (48 : Int32) d_X_kindOf_15 rfl ?_
    refine G_icmp_lt g (pc := 17) 28 d_X_kindOf_17 (by decide) ?_ ?_
    · refine G_iload_n g (pc := 28) 0 d_X_kindOf_28 rfl rfl ?_
      refine G_case (v := (-1 : Int32)) ?_ (fun nem1 => ?_)
      · refine G_lkp g (pc := 29) (off := 43) 72 d_X_kindOf_29 (by decide) (by decide) (by decide) ?_
        refine G_iconst g (pc := 72) (0 : Int32) d_X_kindOf_72 rfl ?_
        exact G_ireturn g (pc := 73) hret (Nat.le_of_ble_eq_true rfl) (Nat.le_of_ble_eq_true rfl) d_X_kindOf_73
      refine G_case (v := (40 : Int32)) ?_ (fun ne40 => ?_)
      · refine G_lkp g (pc := 29) (off := 47) 76 d_X_kindOf_29 (by decide) (by decide) (by decide) ?_
        refine G_iconst g (pc := 76) (4 : Int32) d_X_kindOf_76 rfl ?_
        exact G_ireturn g (pc := 77) hret (Nat.le_of_ble_eq_true rfl) (Nat.le_of_ble_eq_true rfl) d_X_kindOf_77
      refine G_case (v := (41 : Int32)) ?_ (fun ne41 => ?_)
      · refine G_lkp g (pc := 29) (off := 49) 78 d_X_kindOf_29 (by decide) (by decide) (by decide) ?_
        refine G_iconst g (pc := 78) (5 : Int32) d_X_kindOf_78 rfl ?_
        exact G_ireturn g (pc := 79) hret (Nat.le_of_ble_eq_true rfl) (Nat.le_of_ble_eq_true rfl) d_X_kindOf_79
      refine G_case (v := (59 : Int32)) ?_ (fun ne59 => ?_)
      · refine G_lkp g (pc := 29) (off := 45) 74 d_X_kindOf_29 (by decide) (by decide) (by decide) ?_
        refine G_iconst g (pc := 74) (3 : Int32) d_X_kindOf_74 rfl ?_
        exact G_ireturn g (pc := 75) hret (Nat.le_of_ble_eq_true rfl) (Nat.le_of_ble_eq_true rfl) d_X_kindOf_75
      refine G_lkp g (pc := 29) (off := 51) 80 d_X_kindOf_29 (by decide) (by show Op.lookupswitch.offset [(-1, 43), (40, 47), (41, 49), (59, 45)] _ _ = _; rw [lv_osw (a := (-1)) nem1 rfl]; rw [lv_osw (a := (40)) ne40 rfl]; rw [lv_osw (a := (41)) ne41 rfl]; rw [lv_osw (a := (59)) ne59 rfl]; rfl) (by decide) ?_
      refine G_bipush g (pc := 80) (6 : Int32) d_X_kindOf_80 rfl ?_
      exact G_ireturn g (pc := 82) hret (Nat.le_of_ble_eq_true rfl) (Nat.le_of_ble_eq_true rfl) d_X_kindOf_82
    · refine G_iload_n g (pc := 20) 0 d_X_kindOf_20 rfl rfl ?_
      refine G_bipush g (pc := 21) (57 : Int32) d_X_kindOf_21 rfl ?_
      refine G_icmp_gt g (pc := 23) 28 d_X_kindOf_23 (by decide) ?_ ?_
      · refine G_iconst g (pc := 26) (2 : Int32) d_X_kindOf_26 rfl ?_
        exact G_ireturn g (pc := 27) hret (Nat.le_of_ble_eq_true rfl) (Nat.le_of_ble_eq_true rfl) d_X_kindOf_27
      · refine G_iload_n g (pc := 28) 0 d_X_kindOf_28 rfl rfl ?_
        refine G_case (v := (-1 : Int32)) ?_ (fun nem1 => ?_)
        · refine G_lkp g (pc := 29) (off := 43) 72 d_X_kindOf_29 (by decide) (by decide) (by decide) ?_
          refine G_iconst g (pc := 72) (0 : Int32) d_X_kindOf_72 rfl ?_
          exact G_ireturn g (pc := 73) hret (Nat.le_of_ble_eq_true rfl) (Nat.le_of_ble_eq_true rfl) d_X_kindOf_73
        refine G_case (v := (40 : Int32)) ?_ (fun ne40 => ?_)
        · refine G_lkp g (pc := 29) (off := 47) 76 d_X_kindOf_29 (by decide) (by decide) (by decide) ?_
          refine G_iconst g (pc := 76) (4 : Int32) d_X_kindOf_76 rfl ?_
          exact G_ireturn g (pc := 77) hret (Nat.le_of_ble_eq_true rfl) (Nat.le_of_ble_eq_true rfl) d_X_kindOf_77
        refine G_case (v := (41 : Int32)) ?_ (fun ne41 => ?_)
        · refine G_lkp g (pc := 29) (off := 49) 78 d_X_kindOf_29 (by decide) (by decide) (by decide) ?_
          refine G_iconst g (pc := 78) (5 : Int32) d_X_kindOf_78 rfl ?_
          exact G_ireturn g (pc := 79) hret (Nat.le_of_ble_eq_true rfl) (Nat.le_of_ble_eq_true rfl) d_X_kindOf_79
        refine G_case (v := (59 : Int32)) ?_ (fun ne59 => ?_)
        · refine G_lkp g (pc := 29) (off := 45) 74 d_X_kindOf_29 (by decide) (by decide) (by decide) ?_
          refine G_iconst g (pc := 74) (3 : Int32) d_X_kindOf_74 rfl ?_
          exact G_ireturn g (pc := 75) hret (Nat.le_of_ble_eq_true rfl) (Nat.le_of_ble_eq_true rfl) d_X_kindOf_75
        refine G_lkp g (pc := 29) (off := 51) 80 d_X_kindOf_29 (by decide) (by show Op.lookupswitch.offset [(-1, 43), (40, 47), (41, 49), (59, 45)] _ _ = _; rw [lv_osw (a := (-1)) nem1 rfl]; rw [lv_osw (a := (40)) ne40 rfl]; rw [lv_osw (a := (41)) ne41 rfl]; rw [lv_osw (a := (59)) ne59 rfl]; rfl) (by decide) ?_
        refine G_bipush g (pc := 80) (6 : Int32) d_X_kindOf_80 rfl ?_
        exact G_ireturn g (pc := 82) hret (Nat.le_of_ble_eq_true rfl) (Nat.le_of_ble_eq_true rfl) d_X_kindOf_82
  · refine G_iload_n g (pc := 6) 0 d_X_kindOf_6 rfl rfl ?_
    refine G_bipush g (pc := 7) (122 : Int32) d_X_kindOf_7 rfl ?_
    refine G_icmp_gt g (pc := 9) 14 d_X_kindOf_9 (by decide) ?_ ?_
    · refine G_iconst g (pc := 12) (1 : Int32) d_X_kindOf_12 rfl ?_
      exact G_ireturn g (pc := 13) hret (Nat.le_of_ble_eq_true rfl) (Nat.le_of_ble_eq_true rfl) d_X_kindOf_13
    · refine G_iload_n g (pc := 14) 0 d_X_kindOf_14 rfl rfl ?_
      refine G_bipush g (pc := 15) (48 : Int32) d_X_kindOf_15 rfl ?_
      refine G_icmp_lt g (pc := 17) 28 d_X_kindOf_17 (by decide) ?_ ?_
      · refine G_iload_n g (pc := 28) 0 d_X_kindOf_28 rfl rfl ?_
        refine G_case (v := (-1 : Int32)) ?_ (fun nem1 => ?_)
        · refine G_lkp g (pc := 29) (off := 43) 72 d_X_kindOf_29 (by decide) (by decide) (by decide) ?_
          refine G_iconst g (pc := 72) (0 : Int32) d_X_kindOf_72 rfl ?_
          exact G_ireturn g (pc := 73) hret (Nat.le_of_ble_eq_true rfl) (Nat.le_of_ble_eq_true rfl) d_X_kindOf_73
        refine G_case (v := (40 : Int32)) ?_ (fun ne40 => ?_)
        · refine G_lkp g (pc := 29) (off := 47) 76 d_X_kindOf_29 (by decide) (by decide) (by decide) ?_
          refine G_iconst g (pc := 76) (4 : Int32) d_X_kindOf_76 rfl ?_
          exact G_ireturn g (pc := 77) hret (Nat.le_of_ble_eq_true rfl) (Nat.le_of_ble_eq_true rfl) d_X_kindOf_77
        refine G_case (v := (41 : Int32)) ?_ (fun ne41 => ?_)
        · refine G_lkp g (pc := 29) (off := 49) 78 d_X_kindOf_29 (by decide) (by decide) (by decide) ?_
          refine G_iconst g (pc := 78) (5 : Int32) d_X_kindOf_78 rfl ?_
          exact G_ireturn g (pc := 79) hret (Nat.le_of_ble_eq_true rfl) (Nat.le_of_ble_eq_true rfl) d_X_kindOf_79
        refine G_case (v := (59 : Int32)) ?_ (fun ne59 => ?_)
        · refine G_lkp g (pc := 29) (off := 45) 74 d_X_kindOf_29 (by decide) (by decide) (by decide) ?_
          refine G_iconst g (pc := 74) (3 : Int32) d_X_kindOf_74 rfl ?_
          exact G_ireturn g (pc := 75) hret (Nat.le_of_ble_eq_true rfl) (Nat.le_of_ble_eq_true rfl) d_X_kindOf_75
        refine G_lkp g (pc := 29) (off := 51) 80 d_X_kindOf_29 (by decide) (by show Op.lookupswitch.offset [(-1, 43), (40, 47), (41, 49), (59, 45)] _ _ = _; rw [lv_osw (a := (-1)) nem1 rfl]; rw [lv_osw (a := (40)) ne40 rfl]; rw [lv_osw (a := (41)) ne41 rfl]; rw [lv_osw (a := (59)) ne59 rfl]; rfl) (by decide) ?_
        refine G_bipush g (pc := 80) (6 : Int32) d_X_kindOf_80 rfl ?_
        exact G_ireturn g (pc := 82) hret (Nat.le_of_ble_eq_true rfl) (Nat.le_of_ble_eq_true rfl) d_X_kindOf_82
      · refine G_iload_n g (pc := 20) 0 d_X_kindOf_20 rfl rfl ?_
        refine G_bipush g (pc := 21) (57 : Int32) d_X_kindOf_21 rfl ?_
        refine G_icmp_gt g (pc := 23) 28 d_X_kindOf_23 (by decide) ?_ ?_
        · refine G_iconst g (pc := 26) (2 : Int32) d_X_kindOf_26 rfl ?_
          exact G_ireturn g (pc := 27) hret (Nat.le_of_ble_eq_true rfl) (Nat.le_of_ble_eq_true rfl) d_X_kindOf_27
        · refine G_iload_n g (pc := 28) 0 d_X_kindOf_28 rfl rfl ?_
          refine G_case (v := (-1 : Int32)) ?_ (fun nem1 => ?_)
          · refine G_lkp g (pc := 29) (off := 43) 72 d_X_kindOf_29 (by decide) (by decide) (by decide) ?_
            refine G_iconst g (pc := 72) (0 : Int32) d_X_kindOf_72 rfl ?_
            exact G_ireturn g (pc := 73) hret (Nat.le_of_ble_eq_true rfl) (Nat.le_of_ble_eq_true rfl) d_X_kindOf_73
          refine G_case (v := (40 : Int32)) ?_ (fun ne40 => ?_)
          · refine G_lkp g (pc := 29) (off := 47) 76 d_X_kindOf_29 (by decide) (by decide) (by decide) ?_
            refine G_iconst g (pc := 76) (4 : Int32) d_X_kindOf_76 rfl ?_
            exact G_ireturn g (pc := 77) hret (Nat.le_of_ble_eq_true rfl) (Nat.le_of_ble_eq_true rfl) d_X_kindOf_77
          refine G_case (v := (41 : Int32)) ?_ (fun ne41 => ?_)
          · refine G_lkp g (pc := 29) (off := 49) 78 d_X_kindOf_29 (by decide) (by decide) (by decide) ?_
            refine G_iconst g (pc := 78) (5 : Int32) d_X_kindOf_78 rfl ?_
            exact G_ireturn g (pc := 79) hret (Nat.le_of_ble_eq_true rfl) (Nat.le_of_ble_eq_true rfl) d_X_kindOf_79
          refine G_case (v := (59 : Int32)) ?_ (fun ne59 => ?_)
          · refine G_lkp g (pc := 29) (off := 45) 74 d_X_kindOf_29 (by decide) (by decide) (by decide) ?_
            refine G_iconst g (pc := 74) (3 : Int32) d_X_kindOf_74 rfl ?_
            exact G_ireturn g (pc := 75) hret (Nat.le_of_ble_eq_true rfl) (Nat.le_of_ble_eq_true rfl) d_X_kindOf_75
          refine G_lkp g (pc := 29) (off := 51) 80 d_X_kindOf_29 (by decide) (by show Op.lookupswitch.offset [(-1, 43), (40, 47), (41, 49), (59, 45)] _ _ = _; rw [lv_osw (a := (-1)) nem1 rfl]; rw [lv_osw (a := (40)) ne40 rfl]; rw [lv_osw (a := (41)) ne41 rfl]; rw [lv_osw (a := (59)) ne59 rfl]; rfl) (by decide) ?_
          refine G_bipush g (pc := 80) (6 : Int32) d_X_kindOf_80 rfl ?_
          exact G_ireturn g (pc := 82) hret (Nat.le_of_ble_eq_true rfl) (Nat.le_of_ble_eq_true rfl) d_X_kindOf_82

theorem d_X_advance_0 : decode b_X_advance 0 = .ok (.aload_n 0, 1) := by decide +kernel
theorem d_X_advance_1 : decode b_X_advance 1 = .ok (.getfield 28, 3) := by decide +kernel
theorem d_X_advance_4 : decode b_X_advance 4 = .ok (.aload_n 0, 1) := by decide +kernel
theorem d_X_advance_5 : decode b_X_advance 5 = .ok (.getfield 19, 3) := by decide +kernel
theorem d_X_advance_8 : decode b_X_advance 8 = .ok (.if_icmp .ge 30, 3) := by decide +kernel
theorem d_X_advance_11 : decode b_X_advance 11 = .ok (.aload_n 0, 1) := by decide +kernel
theorem d_X_advance_12 : decode b_X_advance 12 = .ok (.aload_n 0, 1) := by decide +kernel
theorem d_X_advance_13 : decode b_X_advance 13 = .ok (.getfield 28, 3) := by decide +kernel
theorem d_X_advance_16 : decode b_X_advance 16 = .ok (.invokevirtual 46, 3) := by decide +kernel
theorem d_X_advance_19 : decode b_X_advance 19 = .ok (.invokestatic 50, 3) := by decide +kernel
theorem d_X_advance_22 : decode b_X_advance 22 = .ok (.ifCond .eq 16, 3) := by decide +kernel
theorem d_X_advance_25 : decode b_X_advance 25 = .ok (.aload_n 0, 1) := by decide +kernel
theorem d_X_advance_26 : decode b_X_advance 26 = .ok (.dup, 1) := by decide +kernel
theorem d_X_advance_27 : decode b_X_advance 27 = .ok (.getfield 28, 3) := by decide +kernel
theorem d_X_advance_30 : decode b_X_advance 30 = .ok (.iconst 1, 1) := by decide +kernel
theorem d_X_advance_31 : decode b_X_advance 31 = .ok (.iadd, 1) := by decide +kernel
theorem d_X_advance_32 : decode b_X_advance 32 = .ok (.putfield 28, 3) := by decide +kernel
theorem d_X_advance_35 : decode b_X_advance 35 = .ok (.goto (-35), 3) := by decide +kernel
theorem d_X_advance_38 : decode b_X_advance 38 = .ok (.aload_n 0, 1) := by decide +kernel
theorem d_X_advance_39 : decode b_X_advance 39 = .ok (.aload_n 0, 1) := by decide +kernel
theorem d_X_advance_40 : decode b_X_advance 40 = .ok (.getfield 28, 3) := by decide +kernel
theorem d_X_advance_43 : decode b_X_advance 43 = .ok (.putfield 25, 3) := by decide +kernel
theorem d_X_advance_46 : decode b_X_advance 46 = .ok (.aload_n 0, 1) := by decide +kernel
theorem d_X_advance_47 : decode b_X_advance 47 = .ok (.aload_n 0, 1) := by decide +kernel
theorem d_X_advance_48 : decode b_X_advance 48 = .ok (.aload_n 0, 1) := by decide +kernel
theorem d_X_advance_49 : decode b_X_advance 49 = .ok (.getfield 25, 3) := by decide +kernel
theorem d_X_advance_52 : decode b_X_advance 52 = .ok (.invokevirtual 46, 3) := by decide +kernel
theorem d_X_advance_55 : decode b_X_advance 55 = .ok (.invokestatic 54, 3) := by decide +kernel
theorem d_X_advance_58 : decode b_X_advance 58 = .ok (.putfield 22, 3) := by decide +kernel
theorem d_X_advance_61 : decode b_X_advance 61 = .ok (.aload_n 0, 1) := by decide +kernel
theorem d_X_advance_62 : decode b_X_advance 62 = .ok (.getfield 22, 3) := by decide +kernel
theorem d_X_advance_65 : decode b_X_advance 65 = .ok (.iconst 1, 1) := by decide +kernel
theorem d_X_advance_66 : decode b_X_advance 66 = .ok (.if_icmp .ne 42, 3) := by decide +kernel
theorem d_X_advance_69 : decode b_X_advance 69 = .ok (.aload_n 0, 1) := by decide +kernel
theorem d_X_advance_70 : decode b_X_advance 70 = .ok (.getfield 28, 3) := by decide +kernel
theorem d_X_advance_73 : decode b_X_advance 73 = .ok (.aload_n 0, 1) := by decide +kernel
theorem d_X_advance_74 : decode b_X_advance 74 = .ok (.getfield 19, 3) := by decide +kernel
theorem d_X_advance_77 : decode b_X_advance 77 = .ok (.if_icmp .ge 128, 3) := by decide +kernel
theorem d_X_advance_80 : decode b_X_advance 80 = .ok (.aload_n 0, 1) := by decide +kernel
theorem d_X_advance_81 : decode b_X_advance 81 = .ok (.aload_n 0, 1) := by decide +kernel
theorem d_X_advance_82 : decode b_X_advance 82 = .ok (.getfield 28, 3) := by decide +kernel
theorem d_X_advance_85 : decode b_X_advance 85 = .ok (.invokevirtual 46, 3) := by decide +kernel
theorem d_X_advance_88 : decode b_X_advance 88 = .ok (.invokestatic 54, 3) := by decide +kernel
theorem d_X_advance_91 : decode b_X_advance 91 = .ok (.iconst 1, 1) := by decide +kernel
theorem d_X_advance_92 : decode b_X_advance 92 = .ok (.if_icmp .ne 113, 3) := by decide +kernel
theorem d_X_advance_95 : decode b_X_advance 95 = .ok (.aload_n 0, 1) := by decide +kernel
theorem d_X_advance_96 : decode b_X_advance 96 = .ok (.dup, 1) := by decide +kernel
theorem d_X_advance_97 : decode b_X_advance 97 = .ok (.getfield 28, 3) := by decide +kernel
theorem d_X_advance_100 : decode b_X_advance 100 = .ok (.iconst 1, 1) := by decide +kernel
theorem d_X_advance_101 : decode b_X_advance 101 = .ok (.iadd, 1) := by decide +kernel
theorem d_X_advance_102 : decode b_X_advance 102 = .ok (.putfield 28, 3) := by decide +kernel
theorem d_X_advance_105 : decode b_X_advance 105 = .ok (.goto (-36), 3) := by decide +kernel
theorem d_X_advance_108 : decode b_X_advance 108 = .ok (.aload_n 0, 1) := by decide +kernel
theorem d_X_advance_109 : decode b_X_advance 109 = .ok (.getfield 22, 3) := by decide +kernel
theorem d_X_advance_112 : decode b_X_advance 112 = .ok (.iconst 2, 1) := by decide +kernel
theorem d_X_advance_113 : decode b_X_advance 113 = .ok (.if_icmp .ne 75, 3) := by decide +kernel
theorem d_X_advance_116 : decode b_X_advance 116 = .ok (.aload_n 0, 1) := by decide +kernel
theorem d_X_advance_117 : decode b_X_advance 117 = .ok (.iconst 0, 1) := by decide +kernel
theorem d_X_advance_118 : decode b_X_advance 118 = .ok (.putfield 31, 3) := by decide +kernel
theorem d_X_advance_121 : decode b_X_advance 121 = .ok (.aload_n 0, 1) := by decide +kernel
theorem d_X_advance_122 : decode b_X_advance 122 = .ok (.getfield 28, 3) := by decide +kernel
theorem d_X_advance_125 : decode b_X_advance 125 = .ok (.aload_n 0, 1) := by decide +kernel
theorem d_X_advance_126 : decode b_X_advance 126 = .ok (.getfield 19, 3) := by decide +kernel
theorem d_X_advance_129 : decode b_X_advance 129 = .ok (.if_icmp .ge 76, 3) := by decide +kernel
theorem d_X_advance_132 : decode b_X_advance 132 = .ok (.aload_n 0, 1) := by decide +kernel
theorem d_X_advance_133 : decode b_X_advance 133 = .ok (.aload_n 0, 1) := by decide +kernel
theorem d_X_advance_134 : decode b_X_advance 134 = .ok (.getfield 28, 3) := by decide +kernel
theorem d_X_advance_137 : decode b_X_advance 137 = .ok (.invokevirtual 46, 3) := by decide +kernel
theorem d_X_advance_140 : decode b_X_advance 140 = .ok (.invokestatic 54, 3) := by decide +kernel
theorem d_X_advance_143 : decode b_X_advance 143 = .ok (.iconst 2, 1) := by decide +kernel
theorem d_X_advance_144 : decode b_X_advance 144 = .ok (.if_icmp .ne 61, 3) := by decide +kernel
theorem d_X_advance_147 : decode b_X_advance 147 = .ok (.aload_n 0, 1) := by decide +kernel
theorem d_X_advance_148 : decode b_X_advance 148 = .ok (.aload_n 0, 1) := by decide +kernel
theorem d_X_advance_149 : decode b_X_advance 149 = .ok (.getfield 31, 3) := by decide +kernel
theorem d_X_advance_152 : decode b_X_advance 152 = .ok (.bipush 10, 2) := by decide +kernel
theorem d_X_advance_154 : decode b_X_advance 154 = .ok (.imul, 1) := by decide +kernel
theorem d_X_advance_155 : decode b_X_advance 155 = .ok (.aload_n 0, 1) := by decide +kernel
theorem d_X_advance_156 : decode b_X_advance 156 = .ok (.aload_n 0, 1) := by decide +kernel
theorem d_X_advance_157 : decode b_X_advance 157 = .ok (.getfield 28, 3) := by decide +kernel
theorem d_X_advance_160 : decode b_X_advance 160 = .ok (.invokevirtual 46, 3) := by decide +kernel
theorem d_X_advance_163 : decode b_X_advance 163 = .ok (.iadd, 1) := by decide +kernel
theorem d_X_advance_164 : decode b_X_advance 164 = .ok (.bipush 48, 2) := by decide +kernel
theorem d_X_advance_166 : decode b_X_advance 166 = .ok (.isub, 1) := by decide +kernel
theorem d_X_advance_167 : decode b_X_advance 167 = .ok (.ldc 57, 2) := by decide +kernel
theorem d_X_advance_169 : decode b_X_advance 169 = .ok (.invokestatic 58, 3) := by decide +kernel
theorem d_X_advance_172 : decode b_X_advance 172 = .ok (.putfield 31, 3) := by decide +kernel
theorem d_X_advance_175 : decode b_X_advance 175 = .ok (.aload_n 0, 1) := by decide +kernel
theorem d_X_advance_176 : decode b_X_advance 176 = .ok (.dup, 1) := by decide +kernel
theorem d_X_advance_177 : decode b_X_advance 177 = .ok (.getfield 28, 3) := by decide +kernel
theorem d_X_advance_180 : decode b_X_advance 180 = .ok (.iconst 1, 1) := by decide +kernel
theorem d_X_advance_181 : decode b_X_advance 181 = .ok (.iadd, 1) := by decide +kernel
theorem d_X_advance_182 : decode b_X_advance 182 = .ok (.putfield 28, 3) := by decide +kernel
theorem d_X_advance_185 : decode b_X_advance 185 = .ok (.goto (-64), 3) := by decide +kernel
theorem d_X_advance_188 : decode b_X_advance 188 = .ok (.aload_n 0, 1) := by decide +kernel
theorem d_X_advance_189 : decode b_X_advance 189 = .ok (.getfield 22, 3) := by decide +kernel
theorem d_X_advance_192 : decode b_X_advance 192 = .ok (.ifCond .eq 13, 3) := by decide +kernel
theorem d_X_advance_195 : decode b_X_advance 195 = .ok (.aload_n 0, 1) := by decide +kernel
theorem d_X_advance_196 : decode b_X_advance 196 = .ok (.dup, 1) := by decide +kernel
theorem d_X_advance_197 : decode b_X_advance 197 = .ok (.getfield 28, 3) := by decide +kernel
theorem d_X_advance_200 : decode b_X_advance 200 = .ok (.iconst 1, 1) := by decide +kernel
theorem d_X_advance_201 : decode b_X_advance 201 = .ok (.iadd, 1) := by decide +kernel
theorem d_X_advance_202 : decode b_X_advance 202 = .ok (.putfield 28, 3) := by decide +kernel
theorem d_X_advance_205 : decode b_X_advance 205 = .ok (.return_, 1) := by decide +kernel
theorem cc_X_46 : CV "KiteLogger$TextReader" 46 y_X_byteAt b_X_byteAt 2 (some .int) 1 := ⟨TT_in (i := 865) (by decide +kernel) (by decide +kernel), TT_in (i := 867) (by decide +kernel) (by decide +kernel), TT_in (i := 8) (by decide +kernel) (by decide +kernel), TT_in (i := 89) (by decide +kernel) (by decide +kernel), TT_in (i := 868) (by decide +kernel) (by decide +kernel), ⟨by decide +kernel, by decide +kernel, by decide +kernel⟩⟩
theorem cc_X_50 : CS "KiteLogger$TextReader" 50 y_X_isBlank b_X_isBlank 1 (some .boolean) 1 := ⟨TT_in (i := 869) (by decide +kernel) (by decide +kernel), TT_in (i := 870) (by decide +kernel) (by decide +kernel), TT_in (i := 89) (by decide +kernel) (by decide +kernel), TT_in (i := 871) (by decide +kernel) (by decide +kernel), ⟨by decide +kernel, by decide +kernel, by decide +kernel⟩⟩
theorem cc_X_54 : CS "KiteLogger$TextReader" 54 y_X_kindOf b_X_kindOf 1 (some .int) 1 := ⟨TT_in (i := 872) (by decide +kernel) (by decide +kernel), TT_in (i := 873) (by decide +kernel) (by decide +kernel), TT_in (i := 89) (by decide +kernel) (by decide +kernel), TT_in (i := 874) (by decide +kernel) (by decide +kernel), ⟨by decide +kernel, by decide +kernel, by decide +kernel⟩⟩
theorem ma_X_58 : Cond.methodLink "KiteLogger$TextReader" 58 Lib.Math.min.name ∈ TT ∧ Cond.static Lib.Math.min.name ∈ TT ∧ Cond.initialized "java/lang/Math" ∈ TT ∧ Cond.code Lib.Math.min.name Lib.Math.min.code 2 (some .int) ∈ TT := ⟨TT_in (i := 876) (by decide +kernel) (by decide +kernel), TT_in (i := 177) (by decide +kernel) (by decide +kernel), TT_in (i := 91) (by decide +kernel) (by decide +kernel), TT_in (i := 178) (by decide +kernel) (by decide +kernel)⟩
def lp_X_advance_0 (N0 rr : Nat)   : Nat → Unit → Mem → (Unit → Mem → Option (Mem)) → Option (Mem)
  | 0, _, _, _ => none
  | N + 1, a, M, k => if (M 1 5) < (M 1 2) then (bnd (f_X_byteAt (M 1 5) M) fun (x1 : Int32) (M2 : Mem) => bnd (f_X_isBlank x1 M2) fun (x3 : Bool) (M4 : Mem) => if x3 = true then (nm (put M4 1 5 ((M4 1 5) + (1 : Int32))) fun (M5 : Mem) => lp_X_advance_0 N0 rr N () M5 k) else (k () M4)) else (k () M)
def lp_X_advance_69 (N0 rr : Nat)   : Nat → Unit → Mem → (Unit → Mem → Option (Mem)) → Option (Mem)
  | 0, _, _, _ => none
  | N + 1, a, M, k => if (M 1 5) < (M 1 2) then (bnd (f_X_byteAt (M 1 5) M) fun (x14 : Int32) (M15 : Mem) => bnd (f_X_kindOf x14 M15) fun (x16 : Int32) (M17 : Mem) => if x16 = (1 : Int32) then (nm (put M17 1 5 ((M17 1 5) + (1 : Int32))) fun (M18 : Mem) => lp_X_advance_69 N0 rr N () M18 k) else (k () M17)) else (k () M)
def lp_X_advance_121 (N0 rr : Nat)   : Nat → Unit → Mem → (Unit → Mem → Option (Mem)) → Option (Mem)
  | 0, _, _, _ => none
  | N + 1, a, M, k => if (M 1 5) < (M 1 2) then (bnd (f_X_byteAt (M 1 5) M) fun (x22 : Int32) (M23 : Mem) => bnd (f_X_kindOf x22 M23) fun (x24 : Int32) (M25 : Mem) => if x24 = (2 : Int32) then (bnd (f_X_byteAt (M25 1 5) M25) fun (x26 : Int32) (M27 : Mem) => nm (put M27 1 6 (imin ((((M25 1 6) * (10 : Int32)) + x26) - (48 : Int32)) (1000000 : Int32))) fun (M28 : Mem) => nm (put M28 1 5 ((M28 1 5) + (1 : Int32))) fun (M29 : Mem) => lp_X_advance_121 N0 rr N () M29 k) else (k () M25)) else (k () M)
def f_X_advance (N : Nat) (rr : Nat) (M : Mem) : Option (Mem) :=
  lp_X_advance_0 N rr N () M (fun (a7 : Unit) (M6 : Mem) => nm (put M6 1 4 (M6 1 5)) fun (M8 : Mem) => bnd (f_X_byteAt (M8 1 4) M8) fun (x9 : Int32) (M10 : Mem) => bnd (f_X_kindOf x9 M10) fun (x11 : Int32) (M12 : Mem) => nm (put M12 1 3 x11) fun (M13 : Mem) => if (M13 1 3) = (1 : Int32) then (lp_X_advance_69 N rr N () M13 (fun (a20 : Unit) (M19 : Mem) => some M19)) else (if (M13 1 3) = (2 : Int32) then (nm (put M13 1 6 (0 : Int32)) fun (M21 : Mem) => lp_X_advance_121 N rr N () M21 (fun (a31 : Unit) (M30 : Mem) => some M30)) else (if (M13 1 3) = 0 then (some M13) else (nm (put M13 1 5 ((M13 1 5) + (1 : Int32))) fun (M32 : Mem) => some M32))))
set_option maxHeartbeats 4000000 in
set_option maxRecDepth 100000 in
theorem c_X_advance (l : Launch) (N : Nat) {w : Wc} {rr : Nat} (hw : WK w rr)  (M : Mem) : Ct QV l y_X_advance b_X_advance 1 none (rmL 1) w [.ref (wad w 1)] M (f_X_advance N rr M) := by
  refine Ct.go (by decide) (L := [(0, .ref (wad w 1))]) rfl (Nat.le_of_ble_eq_true rfl) (fun p0 e s m args below meth c g hret => ?_)
  unfold f_X_advance
  refine G_sub [0] _ rfl ?_
  refine G_loop (F := lp_X_advance_0 N rr) 0 38 (fun (a : Unit) => [(0, .ref (wad w 1))]) (fun (a : Unit) => [(0, .ref (wad w 1))]) (fun _ _ _ => rfl) (fun a7 M6 => ?_) (fun k hk Nl ih a M => ?_) N () M
  · refine G_aload_n g (pc := 38) 0 d_X_advance_38 rfl rfl ?_
    refine G_aload_n g (pc := 39) 0 d_X_advance_39 rfl rfl ?_
    refine G_get g (pc := 40) fa_X_28 (hw.m 1 (Nat.le_of_ble_eq_true rfl)) (hw.k (zk1 rr)) d_X_advance_40 ?_
    refine G_put g (pc := 43) fa_X_25 fw_7_4 rfl rfl (hw.m 1 (Nat.le_of_ble_eq_true rfl)) (hw.k (zk1 rr)) d_X_advance_43 ?_
    refine G_nmM (fun M8 => ?_)
    refine G_aload_n g (pc := 46) 0 d_X_advance_46 rfl rfl ?_
    refine G_aload_n g (pc := 47) 0 d_X_advance_47 rfl rfl ?_
    refine G_aload_n g (pc := 48) 0 d_X_advance_48 rfl rfl ?_
    refine G_get g (pc := 49) fa_X_25 (hw.m 1 (Nat.le_of_ble_eq_true rfl)) (hw.k (zk1 rr)) d_X_advance_49 ?_
    refine G_cVI g (pc := 52) (As := [.int (M8 1 4)]) (st := [.ref (wad w 1)]) cc_X_46 (c_X_byteAt l hw (M8 1 4) M8) (hw.m 1 (Nat.le_of_ble_eq_true rfl)) (hw.k (zk1 rr)) rfl (by decide) rfl ⟨(Nat.le_of_ble_eq_true rfl), (Nat.le_of_ble_eq_true rfl)⟩ ⟨(Nat.le_of_ble_eq_true rfl), (Nat.le_of_ble_eq_true rfl)⟩ (Nat.le_of_ble_eq_true rfl) d_X_advance_52 (fun x9 M10 => ?_)
    refine G_cSI g (pc := 55) (As := [.int x9]) (st := [.ref (wad w 1)]) cc_X_54 (c_X_kindOf l hw x9 M10) rfl ⟨(Nat.le_of_ble_eq_true rfl), (Nat.le_of_ble_eq_true rfl)⟩ ⟨(Nat.le_of_ble_eq_true rfl), (Nat.le_of_ble_eq_true rfl)⟩ (Nat.le_of_ble_eq_true rfl) d_X_advance_55 (fun x11 M12 => ?_)
    refine G_put g (pc := 58) fa_X_22 fw_7_3 rfl rfl (hw.m 1 (Nat.le_of_ble_eq_true rfl)) (hw.k (zk1 rr)) d_X_advance_58 ?_
    refine G_nmM (fun M13 => ?_)
    refine G_aload_n g (pc := 61) 0 d_X_advance_61 rfl rfl ?_
    refine G_get g (pc := 62) fa_X_22 (hw.m 1 (Nat.le_of_ble_eq_true rfl)) (hw.k (zk1 rr)) d_X_advance_62 ?_
    refine G_iconst g (pc := 65) (1 : Int32) d_X_advance_65 rfl ?_
    refine G_icmp_ne g (pc := 66) 108 d_X_advance_66 (by decide) ?_ ?_
    · refine G_sub [0] _ rfl ?_
      refine G_loop (F := lp_X_advance_69 N rr) 69 205 (fun (a : Unit) => [(0, .ref (wad w 1))]) (fun (a : Unit) => [(0, .ref (wad w 1))]) (fun _ _ _ => rfl) (fun a20 M19 => ?_) (fun k hk Nl ih a M => ?_) N () M13
      · exact G_return g (pc := 205) hret (Nat.le_of_ble_eq_true rfl) (Nat.le_of_ble_eq_true rfl) d_X_advance_205
      · show Go p0 l e _ s m args below meth c w _ _ _ _ (lp_X_advance_69 N rr (Nl + 1) a M k) 69 _ _ M
        unfold lp_X_advance_69
        refine G_aload_n g (pc := 69) 0 d_X_advance_69 rfl rfl ?_
        refine G_get g (pc := 70) fa_X_28 (hw.m 1 (Nat.le_of_ble_eq_true rfl)) (hw.k (zk1 rr)) d_X_advance_70 ?_
        refine G_aload_n g (pc := 73) 0 d_X_advance_73 rfl rfl ?_
        refine G_get g (pc := 74) fa_X_19 (hw.m 1 (Nat.le_of_ble_eq_true rfl)) (hw.k (zk1 rr)) d_X_advance_74 ?_
        refine G_icmp_ge g (pc := 77) 205 d_X_advance_77 (by decide) ?_ ?_
        · refine G_aload_n g (pc := 80) 0 d_X_advance_80 rfl rfl ?_
          refine G_aload_n g (pc := 81) 0 d_X_advance_81 rfl rfl ?_
          refine G_get g (pc := 82) fa_X_28 (hw.m 1 (Nat.le_of_ble_eq_true rfl)) (hw.k (zk1 rr)) d_X_advance_82 ?_
          refine G_cVI g (pc := 85) (As := [.int (M 1 5)]) (st := []) cc_X_46 (c_X_byteAt l hw (M 1 5) M) (hw.m 1 (Nat.le_of_ble_eq_true rfl)) (hw.k (zk1 rr)) rfl (by decide) rfl ⟨(Nat.le_of_ble_eq_true rfl), (Nat.le_of_ble_eq_true rfl)⟩ ⟨(Nat.le_of_ble_eq_true rfl), (Nat.le_of_ble_eq_true rfl)⟩ (Nat.le_of_ble_eq_true rfl) d_X_advance_85 (fun x14 M15 => ?_)
          refine G_cSI g (pc := 88) (As := [.int x14]) (st := []) cc_X_54 (c_X_kindOf l hw x14 M15) rfl ⟨(Nat.le_of_ble_eq_true rfl), (Nat.le_of_ble_eq_true rfl)⟩ ⟨(Nat.le_of_ble_eq_true rfl), (Nat.le_of_ble_eq_true rfl)⟩ (Nat.le_of_ble_eq_true rfl) d_X_advance_88 (fun x16 M17 => ?_)
          refine G_iconst g (pc := 91) (1 : Int32) d_X_advance_91 rfl ?_
          refine G_icmp_ne g (pc := 92) 205 d_X_advance_92 (by decide) ?_ ?_
          · refine G_aload_n g (pc := 95) 0 d_X_advance_95 rfl rfl ?_
            refine G_dup g (pc := 96) d_X_advance_96 rfl ?_
            refine G_get g (pc := 97) fa_X_28 (hw.m 1 (Nat.le_of_ble_eq_true rfl)) (hw.k (zk1 rr)) d_X_advance_97 ?_
            refine G_iconst g (pc := 100) (1 : Int32) d_X_advance_100 rfl ?_
            refine G_iadd g (pc := 101) d_X_advance_101 ?_
            refine G_put g (pc := 102) fa_X_28 fw_7_5 rfl rfl (hw.m 1 (Nat.le_of_ble_eq_true rfl)) (hw.k (zk1 rr)) d_X_advance_102 ?_
            refine G_nmM (fun M18 => ?_)
            refine G_goto g (pc := 105) 69 d_X_advance_105 (by decide) ?_
            refine G_sub [0] _ rfl ?_
            exact ih () M18
          · refine G_sub [0] _ rfl ?_
            exact hk () M17
        · refine G_sub [0] _ rfl ?_
          exact hk () M
    · refine G_aload_n g (pc := 108) 0 d_X_advance_108 rfl rfl ?_
      refine G_get g (pc := 109) fa_X_22 (hw.m 1 (Nat.le_of_ble_eq_true rfl)) (hw.k (zk1 rr)) d_X_advance_109 ?_
      refine G_iconst g (pc := 112) (2 : Int32) d_X_advance_112 rfl ?_
      refine G_icmp_ne g (pc := 113) 188 d_X_advance_113 (by decide) ?_ ?_
      · refine G_aload_n g (pc := 116) 0 d_X_advance_116 rfl rfl ?_
        refine G_iconst g (pc := 117) (0 : Int32) d_X_advance_117 rfl ?_
        refine G_put g (pc := 118) fa_X_31 fw_7_6 rfl rfl (hw.m 1 (Nat.le_of_ble_eq_true rfl)) (hw.k (zk1 rr)) d_X_advance_118 ?_
        refine G_nmM (fun M21 => ?_)
        refine G_sub [0] _ rfl ?_
        refine G_loop (F := lp_X_advance_121 N rr) 121 205 (fun (a : Unit) => [(0, .ref (wad w 1))]) (fun (a : Unit) => [(0, .ref (wad w 1))]) (fun _ _ _ => rfl) (fun a31 M30 => ?_) (fun k hk Nl ih a M => ?_) N () M21
        · exact G_return g (pc := 205) hret (Nat.le_of_ble_eq_true rfl) (Nat.le_of_ble_eq_true rfl) d_X_advance_205
        · show Go p0 l e _ s m args below meth c w _ _ _ _ (lp_X_advance_121 N rr (Nl + 1) a M k) 121 _ _ M
          unfold lp_X_advance_121
          refine G_aload_n g (pc := 121) 0 d_X_advance_121 rfl rfl ?_
          refine G_get g (pc := 122) fa_X_28 (hw.m 1 (Nat.le_of_ble_eq_true rfl)) (hw.k (zk1 rr)) d_X_advance_122 ?_
          refine G_aload_n g (pc := 125) 0 d_X_advance_125 rfl rfl ?_
          refine G_get g (pc := 126) fa_X_19 (hw.m 1 (Nat.le_of_ble_eq_true rfl)) (hw.k (zk1 rr)) d_X_advance_126 ?_
          refine G_icmp_ge g (pc := 129) 205 d_X_advance_129 (by decide) ?_ ?_
          · refine G_aload_n g (pc := 132) 0 d_X_advance_132 rfl rfl ?_
            refine G_aload_n g (pc := 133) 0 d_X_advance_133 rfl rfl ?_
            refine G_get g (pc := 134) fa_X_28 (hw.m 1 (Nat.le_of_ble_eq_true rfl)) (hw.k (zk1 rr)) d_X_advance_134 ?_
            refine G_cVI g (pc := 137) (As := [.int (M 1 5)]) (st := []) cc_X_46 (c_X_byteAt l hw (M 1 5) M) (hw.m 1 (Nat.le_of_ble_eq_true rfl)) (hw.k (zk1 rr)) rfl (by decide) rfl ⟨(Nat.le_of_ble_eq_true rfl), (Nat.le_of_ble_eq_true rfl)⟩ ⟨(Nat.le_of_ble_eq_true rfl), (Nat.le_of_ble_eq_true rfl)⟩ (Nat.le_of_ble_eq_true rfl) d_X_advance_137 (fun x22 M23 => ?_)
            refine G_cSI g (pc := 140) (As := [.int x22]) (st := []) cc_X_54 (c_X_kindOf l hw x22 M23) rfl ⟨(Nat.le_of_ble_eq_true rfl), (Nat.le_of_ble_eq_true rfl)⟩ ⟨(Nat.le_of_ble_eq_true rfl), (Nat.le_of_ble_eq_true rfl)⟩ (Nat.le_of_ble_eq_true rfl) d_X_advance_140 (fun x24 M25 => ?_)
            refine G_iconst g (pc := 143) (2 : Int32) d_X_advance_143 rfl ?_
            refine G_icmp_ne g (pc := 144) 205 d_X_advance_144 (by decide) ?_ ?_
            · refine G_aload_n g (pc := 147) 0 d_X_advance_147 rfl rfl ?_
              refine G_aload_n g (pc := 148) 0 d_X_advance_148 rfl rfl ?_
              refine G_get g (pc := 149) fa_X_31 (hw.m 1 (Nat.le_of_ble_eq_true rfl)) (hw.k (zk1 rr)) d_X_advance_149 ?_
              refine G_bipush g (pc := 152) (10 : Int32) d_X_advance_152 rfl ?_
              refine G_imul g (pc := 154) d_X_advance_154 ?_
              refine G_aload_n g (pc := 155) 0 d_X_advance_155 rfl rfl ?_
              refine G_aload_n g (pc := 156) 0 d_X_advance_156 rfl rfl ?_
              refine G_get g (pc := 157) fa_X_28 (hw.m 1 (Nat.le_of_ble_eq_true rfl)) (hw.k (zk1 rr)) d_X_advance_157 ?_
              refine G_cVI g (pc := 160) (As := [.int (M25 1 5)]) (st := [.int ((M25 1 6) * (10 : Int32)), .ref (wad w 1)]) cc_X_46 (c_X_byteAt l hw (M25 1 5) M25) (hw.m 1 (Nat.le_of_ble_eq_true rfl)) (hw.k (zk1 rr)) rfl (by decide) rfl ⟨(Nat.le_of_ble_eq_true rfl), (Nat.le_of_ble_eq_true rfl)⟩ ⟨(Nat.le_of_ble_eq_true rfl), (Nat.le_of_ble_eq_true rfl)⟩ (Nat.le_of_ble_eq_true rfl) d_X_advance_160 (fun x26 M27 => ?_)
              refine G_iadd g (pc := 163) d_X_advance_163 ?_
              refine G_bipush g (pc := 164) (48 : Int32) d_X_advance_164 rfl ?_
              refine G_isub g (pc := 166) d_X_advance_166 ?_
              refine G_ldcI g (pc := 167) (own := "KiteLogger$TextReader") (v := (1000000 : Int32)) (TT_in (i := 875) (by decide +kernel) (by decide +kernel)) d_X_advance_167 ?_
              refine G_mmin g (pc := 169) ma_X_58 ⟨(Nat.le_of_ble_eq_true rfl), (Nat.le_of_ble_eq_true rfl), (Nat.le_of_ble_eq_true rfl), (Nat.le_of_ble_eq_true rfl)⟩ d_X_advance_169 ?_
              refine G_put g (pc := 172) fa_X_31 fw_7_6 rfl rfl (hw.m 1 (Nat.le_of_ble_eq_true rfl)) (hw.k (zk1 rr)) d_X_advance_172 ?_
              refine G_nmM (fun M28 => ?_)
              refine G_aload_n g (pc := 175) 0 d_X_advance_175 rfl rfl ?_
              refine G_dup g (pc := 176) d_X_advance_176 rfl ?_
              refine G_get g (pc := 177) fa_X_28 (hw.m 1 (Nat.le_of_ble_eq_true rfl)) (hw.k (zk1 rr)) d_X_advance_177 ?_
              refine G_iconst g (pc := 180) (1 : Int32) d_X_advance_180 rfl ?_
              refine G_iadd g (pc := 181) d_X_advance_181 ?_
              refine G_put g (pc := 182) fa_X_28 fw_7_5 rfl rfl (hw.m 1 (Nat.le_of_ble_eq_true rfl)) (hw.k (zk1 rr)) d_X_advance_182 ?_
              refine G_nmM (fun M29 => ?_)
              refine G_goto g (pc := 185) 121 d_X_advance_185 (by decide) ?_
              refine G_sub [0] _ rfl ?_
              exact ih () M29
            · refine G_sub [0] _ rfl ?_
              exact hk () M25
          · refine G_sub [0] _ rfl ?_
            exact hk () M
      · refine G_aload_n g (pc := 188) 0 d_X_advance_188 rfl rfl ?_
        refine G_get g (pc := 189) fa_X_22 (hw.m 1 (Nat.le_of_ble_eq_true rfl)) (hw.k (zk1 rr)) d_X_advance_189 ?_
        refine G_if_eq g (pc := 192) 205 d_X_advance_192 (by decide) ?_ ?_
        · exact G_return g (pc := 205) hret (Nat.le_of_ble_eq_true rfl) (Nat.le_of_ble_eq_true rfl) d_X_advance_205
        · refine G_aload_n g (pc := 195) 0 d_X_advance_195 rfl rfl ?_
          refine G_dup g (pc := 196) d_X_advance_196 rfl ?_
          refine G_get g (pc := 197) fa_X_28 (hw.m 1 (Nat.le_of_ble_eq_true rfl)) (hw.k (zk1 rr)) d_X_advance_197 ?_
          refine G_iconst g (pc := 200) (1 : Int32) d_X_advance_200 rfl ?_
          refine G_iadd g (pc := 201) d_X_advance_201 ?_
          refine G_put g (pc := 202) fa_X_28 fw_7_5 rfl rfl (hw.m 1 (Nat.le_of_ble_eq_true rfl)) (hw.k (zk1 rr)) d_X_advance_202 ?_
          refine G_nmM (fun M32 => ?_)
          exact G_return g (pc := 205) hret (Nat.le_of_ble_eq_true rfl) (Nat.le_of_ble_eq_true rfl) d_X_advance_205
  · show Go p0 l e _ s m args below meth c w _ _ _ _ (lp_X_advance_0 N rr (Nl + 1) a M k) 0 _ _ M
    unfold lp_X_advance_0
    refine G_aload_n g (pc := 0) 0 d_X_advance_0 rfl rfl ?_
    refine G_get g (pc := 1) fa_X_28 (hw.m 1 (Nat.le_of_ble_eq_true rfl)) (hw.k (zk1 rr)) d_X_advance_1 ?_
    refine G_aload_n g (pc := 4) 0 d_X_advance_4 rfl rfl ?_
    refine G_get g (pc := 5) fa_X_19 (hw.m 1 (Nat.le_of_ble_eq_true rfl)) (hw.k (zk1 rr)) d_X_advance_5 ?_
    refine G_icmp_ge g (pc := 8) 38 d_X_advance_8 (by decide) ?_ ?_
    · refine G_aload_n g (pc := 11) 0 d_X_advance_11 rfl rfl ?_
      refine G_aload_n g (pc := 12) 0 d_X_advance_12 rfl rfl ?_
      refine G_get g (pc := 13) fa_X_28 (hw.m 1 (Nat.le_of_ble_eq_true rfl)) (hw.k (zk1 rr)) d_X_advance_13 ?_
      refine G_cVI g (pc := 16) (As := [.int (M 1 5)]) (st := []) cc_X_46 (c_X_byteAt l hw (M 1 5) M) (hw.m 1 (Nat.le_of_ble_eq_true rfl)) (hw.k (zk1 rr)) rfl (by decide) rfl ⟨(Nat.le_of_ble_eq_true rfl), (Nat.le_of_ble_eq_true rfl)⟩ ⟨(Nat.le_of_ble_eq_true rfl), (Nat.le_of_ble_eq_true rfl)⟩ (Nat.le_of_ble_eq_true rfl) d_X_advance_16 (fun x1 M2 => ?_)
      refine G_cSZ g (pc := 19) (As := [.int x1]) (st := []) cc_X_50 (c_X_isBlank l hw x1 M2) rfl ⟨(Nat.le_of_ble_eq_true rfl), (Nat.le_of_ble_eq_true rfl)⟩ ⟨(Nat.le_of_ble_eq_true rfl), (Nat.le_of_ble_eq_true rfl)⟩ (Nat.le_of_ble_eq_true rfl) d_X_advance_19 (fun x3 M4 => ?_)
      refine G_if_eqB g (pc := 22) 38 d_X_advance_22 (by decide) ?_ ?_
      · refine G_aload_n g (pc := 25) 0 d_X_advance_25 rfl rfl ?_
        refine G_dup g (pc := 26) d_X_advance_26 rfl ?_
        refine G_get g (pc := 27) fa_X_28 (hw.m 1 (Nat.le_of_ble_eq_true rfl)) (hw.k (zk1 rr)) d_X_advance_27 ?_
        refine G_iconst g (pc := 30) (1 : Int32) d_X_advance_30 rfl ?_
        refine G_iadd g (pc := 31) d_X_advance_31 ?_
        refine G_put g (pc := 32) fa_X_28 fw_7_5 rfl rfl (hw.m 1 (Nat.le_of_ble_eq_true rfl)) (hw.k (zk1 rr)) d_X_advance_32 ?_
        refine G_nmM (fun M5 => ?_)
        refine G_goto g (pc := 35) 0 d_X_advance_35 (by decide) ?_
        refine G_sub [0] _ rfl ?_
        exact ih () M5
      · refine G_sub [0] _ rfl ?_
        exact hk () M4
    · refine G_sub [0] _ rfl ?_
      exact hk () M

theorem d_X_begin_0 : decode b_X_begin 0 = .ok (.aload_n 0, 1) := by decide +kernel
theorem d_X_begin_1 : decode b_X_begin 1 = .ok (.iload_n 1, 1) := by decide +kernel
theorem d_X_begin_2 : decode b_X_begin 2 = .ok (.putfield 19, 3) := by decide +kernel
theorem d_X_begin_5 : decode b_X_begin 5 = .ok (.aload_n 0, 1) := by decide +kernel
theorem d_X_begin_6 : decode b_X_begin 6 = .ok (.iconst 0, 1) := by decide +kernel
theorem d_X_begin_7 : decode b_X_begin 7 = .ok (.putfield 28, 3) := by decide +kernel
theorem d_X_begin_10 : decode b_X_begin 10 = .ok (.aload_n 0, 1) := by decide +kernel
theorem d_X_begin_11 : decode b_X_begin 11 = .ok (.iconst 0, 1) := by decide +kernel
theorem d_X_begin_12 : decode b_X_begin 12 = .ok (.putfield 37, 3) := by decide +kernel
theorem d_X_begin_15 : decode b_X_begin 15 = .ok (.aload_n 0, 1) := by decide +kernel
theorem d_X_begin_16 : decode b_X_begin 16 = .ok (.iconst (-1), 1) := by decide +kernel
theorem d_X_begin_17 : decode b_X_begin 17 = .ok (.putfield 40, 3) := by decide +kernel
theorem d_X_begin_20 : decode b_X_begin 20 = .ok (.aload_n 0, 1) := by decide +kernel
theorem d_X_begin_21 : decode b_X_begin 21 = .ok (.invokevirtual 43, 3) := by decide +kernel
theorem d_X_begin_24 : decode b_X_begin 24 = .ok (.return_, 1) := by decide +kernel
theorem cc_X_43 : CV "KiteLogger$TextReader" 43 y_X_advance b_X_advance 1 none 0 := ⟨TT_in (i := 861) (by decide +kernel) (by decide +kernel), TT_in (i := 862) (by decide +kernel) (by decide +kernel), TT_in (i := 863) (by decide +kernel) (by decide +kernel), TT_in (i := 89) (by decide +kernel) (by decide +kernel), TT_in (i := 864) (by decide +kernel) (by decide +kernel), ⟨by decide +kernel, by decide +kernel, by decide +kernel⟩⟩
def f_X_begin (N : Nat) (rr : Nat) (a1 : Int32) (M : Mem) : Option (Mem) :=
  nm (put M 1 2 a1) fun (M1 : Mem) => nm (put M1 1 5 (0 : Int32)) fun (M2 : Mem) => nm (put M2 1 8 (0 : Int32)) fun (M3 : Mem) => nm (put M3 1 9 (-1 : Int32)) fun (M4 : Mem) => bndM (f_X_advance N rr M4) fun (M6 : Mem) => some M6
set_option maxHeartbeats 4000000 in
set_option maxRecDepth 100000 in
theorem c_X_begin (l : Launch) (N : Nat) {w : Wc} {rr : Nat} (hw : WK w rr) (a1 : Int32) (M : Mem) : Ct QV l y_X_begin b_X_begin 2 none (rmL 2) w [.ref (wad w 1), .int a1] M (f_X_begin N rr a1 M) := by
  refine Ct.go (by decide) (L := [(0, .ref (wad w 1)), (1, .int a1)]) rfl (Nat.le_of_ble_eq_true rfl) (fun p0 e s m args below meth c g hret => ?_)
  unfold f_X_begin
  refine G_aload_n g (pc := 0) 0 d_X_begin_0 rfl rfl ?_
  refine G_iload_n g (pc := 1) 1 d_X_begin_1 rfl rfl ?_
  refine G_put g (pc := 2) fa_X_19 fw_7_2 rfl rfl (hw.m 1 (Nat.le_of_ble_eq_true rfl)) (hw.k (zk1 rr)) d_X_begin_2 ?_
  refine G_nmM (fun M1 => ?_)
  refine G_aload_n g (pc := 5) 0 d_X_begin_5 rfl rfl ?_
  refine G_iconst g (pc := 6) (0 : Int32) d_X_begin_6 rfl ?_
  refine G_put g (pc := 7) fa_X_28 fw_7_5 rfl rfl (hw.m 1 (Nat.le_of_ble_eq_true rfl)) (hw.k (zk1 rr)) d_X_begin_7 ?_
  refine G_nmM (fun M2 => ?_)
  refine G_aload_n g (pc := 10) 0 d_X_begin_10 rfl rfl ?_
  refine G_iconst g (pc := 11) (0 : Int32) d_X_begin_11 rfl ?_
  refine G_put g (pc := 12) fa_X_37 fw_7_8 rfl rfl (hw.m 1 (Nat.le_of_ble_eq_true rfl)) (hw.k (zk1 rr)) d_X_begin_12 ?_
  refine G_nmM (fun M3 => ?_)
  refine G_aload_n g (pc := 15) 0 d_X_begin_15 rfl rfl ?_
  refine G_iconst g (pc := 16) (-1 : Int32) d_X_begin_16 rfl ?_
  refine G_put g (pc := 17) fa_X_40 fw_7_9 rfl rfl (hw.m 1 (Nat.le_of_ble_eq_true rfl)) (hw.k (zk1 rr)) d_X_begin_17 ?_
  refine G_nmM (fun M4 => ?_)
  refine G_aload_n g (pc := 20) 0 d_X_begin_20 rfl rfl ?_
  refine G_cVV g (pc := 21) (As := []) (st := []) cc_X_43 (c_X_advance l N hw M4) (hw.m 1 (Nat.le_of_ble_eq_true rfl)) (hw.k (zk1 rr)) rfl (by decide) rfl ⟨(Nat.le_of_ble_eq_true rfl), (Nat.le_of_ble_eq_true rfl)⟩ ⟨(Nat.le_of_ble_eq_true rfl), (Nat.le_of_ble_eq_true rfl)⟩ (Nat.le_of_ble_eq_true rfl) d_X_begin_21 (fun M6 => ?_)
  exact G_return g (pc := 24) hret (Nat.le_of_ble_eq_true rfl) (Nat.le_of_ble_eq_true rfl) d_X_begin_24

theorem d_X_fail_0 : decode b_X_fail 0 = .ok (.aload_n 0, 1) := by decide +kernel
theorem d_X_fail_1 : decode b_X_fail 1 = .ok (.iload_n 1, 1) := by decide +kernel
theorem d_X_fail_2 : decode b_X_fail 2 = .ok (.putfield 37, 3) := by decide +kernel
theorem d_X_fail_5 : decode b_X_fail 5 = .ok (.aload_n 0, 1) := by decide +kernel
theorem d_X_fail_6 : decode b_X_fail 6 = .ok (.aload_n 0, 1) := by decide +kernel
theorem d_X_fail_7 : decode b_X_fail 7 = .ok (.getfield 25, 3) := by decide +kernel
theorem d_X_fail_10 : decode b_X_fail 10 = .ok (.putfield 40, 3) := by decide +kernel
theorem d_X_fail_13 : decode b_X_fail 13 = .ok (.iconst 0, 1) := by decide +kernel
theorem d_X_fail_14 : decode b_X_fail 14 = .ok (.ireturn, 1) := by decide +kernel
def f_X_fail (a1 : Int32) (M : Mem) : Option (Bool × Mem) :=
  nm (put M 1 8 a1) fun (M1 : Mem) => nm (put M1 1 9 (M1 1 4)) fun (M2 : Mem) => some (false, M2)
set_option maxHeartbeats 4000000 in
set_option maxRecDepth 100000 in
theorem c_X_fail (l : Launch) {w : Wc} {rr : Nat} (hw : WK w rr) (a1 : Int32) (M : Mem) : Ct QZ l y_X_fail b_X_fail 2 (some .boolean) (rmL 0) w [.ref (wad w 1), .int a1] M (f_X_fail a1 M) := by
  refine Ct.go (by decide) (L := [(0, .ref (wad w 1)), (1, .int a1)]) rfl (Nat.le_of_ble_eq_true rfl) (fun p0 e s m args below meth c g hret => ?_)
  unfold f_X_fail
  refine G_aload_n g (pc := 0) 0 d_X_fail_0 rfl rfl ?_
  refine G_iload_n g (pc := 1) 1 d_X_fail_1 rfl rfl ?_
  refine G_put g (pc := 2) fa_X_37 fw_7_8 rfl rfl (hw.m 1 (Nat.le_of_ble_eq_true rfl)) (hw.k (zk1 rr)) d_X_fail_2 ?_
  refine G_nmM (fun M1 => ?_)
  refine G_aload_n g (pc := 5) 0 d_X_fail_5 rfl rfl ?_
  refine G_aload_n g (pc := 6) 0 d_X_fail_6 rfl rfl ?_
  refine G_get g (pc := 7) fa_X_25 (hw.m 1 (Nat.le_of_ble_eq_true rfl)) (hw.k (zk1 rr)) d_X_fail_7 ?_
  refine G_put g (pc := 10) fa_X_40 fw_7_9 rfl rfl (hw.m 1 (Nat.le_of_ble_eq_true rfl)) (hw.k (zk1 rr)) d_X_fail_10 ?_
  refine G_nmM (fun M2 => ?_)
  refine G_iconst g (pc := 13) (0 : Int32) d_X_fail_13 rfl ?_
  exact G_zreturn g (pc := 14) false rfl hret (Nat.le_of_ble_eq_true rfl) (Nat.le_of_ble_eq_true rfl) d_X_fail_14

theorem d_X_takeSign_0 : decode b_X_takeSign 0 = .ok (.aload_n 0, 1) := by decide +kernel
theorem d_X_takeSign_1 : decode b_X_takeSign 1 = .ok (.getfield 22, 3) := by decide +kernel
theorem d_X_takeSign_4 : decode b_X_takeSign 4 = .ok (.iload_n 1, 1) := by decide +kernel
theorem d_X_takeSign_5 : decode b_X_takeSign 5 = .ok (.if_icmp .eq 9, 3) := by decide +kernel
theorem d_X_takeSign_8 : decode b_X_takeSign 8 = .ok (.aload_n 0, 1) := by decide +kernel
theorem d_X_takeSign_9 : decode b_X_takeSign 9 = .ok (.iconst 1, 1) := by decide +kernel
theorem d_X_takeSign_10 : decode b_X_takeSign 10 = .ok (.invokevirtual 78, 3) := by decide +kernel
theorem d_X_takeSign_13 : decode b_X_takeSign 13 = .ok (.ireturn, 1) := by decide +kernel
theorem d_X_takeSign_14 : decode b_X_takeSign 14 = .ok (.aload_n 0, 1) := by decide +kernel
theorem d_X_takeSign_15 : decode b_X_takeSign 15 = .ok (.invokevirtual 43, 3) := by decide +kernel
theorem d_X_takeSign_18 : decode b_X_takeSign 18 = .ok (.iconst 1, 1) := by decide +kernel
theorem d_X_takeSign_19 : decode b_X_takeSign 19 = .ok (.ireturn, 1) := by decide +kernel
theorem cc_X_78 : CV "KiteLogger$TextReader" 78 y_X_fail b_X_fail 2 (some .boolean) 1 := ⟨TT_in (i := 938) (by decide +kernel) (by decide +kernel), TT_in (i := 939) (by decide +kernel) (by decide +kernel), TT_in (i := 940) (by decide +kernel) (by decide +kernel), TT_in (i := 89) (by decide +kernel) (by decide +kernel), TT_in (i := 941) (by decide +kernel) (by decide +kernel), ⟨by decide +kernel, by decide +kernel, by decide +kernel⟩⟩
def f_X_takeSign (N : Nat) (rr : Nat) (a1 : Int32) (M : Mem) : Option (Bool × Mem) :=
  if (M 1 3) = a1 then (bndM (f_X_advance N rr M) fun (M2 : Mem) => some (true, M2)) else (bnd (f_X_fail (1 : Int32) M) fun (x3 : Bool) (M4 : Mem) => some (x3, M4))
set_option maxHeartbeats 4000000 in
set_option maxRecDepth 100000 in
theorem c_X_takeSign (l : Launch) (N : Nat) {w : Wc} {rr : Nat} (hw : WK w rr) (a1 : Int32) (M : Mem) : Ct QZ l y_X_takeSign b_X_takeSign 2 (some .boolean) (rmL 2) w [.ref (wad w 1), .int a1] M (f_X_takeSign N rr a1 M) := by
  refine Ct.go (by decide) (L := [(0, .ref (wad w 1)), (1, .int a1)]) rfl (Nat.le_of_ble_eq_true rfl) (fun p0 e s m args below meth c g hret => ?_)
  unfold f_X_takeSign
  refine G_aload_n g (pc := 0) 0 d_X_takeSign_0 rfl rfl ?_
  refine G_get g (pc := 1) fa_X_22 (hw.m 1 (Nat.le_of_ble_eq_true rfl)) (hw.k (zk1 rr)) d_X_takeSign_1 ?_
  refine G_iload_n g (pc := 4) 1 d_X_takeSign_4 rfl rfl ?_
  refine G_icmp_eq g (pc := 5) 14 d_X_takeSign_5 (by decide) ?_ ?_
  · refine G_aload_n g (pc := 14) 0 d_X_takeSign_14 rfl rfl ?_
    refine G_cVV g (pc := 15) (As := []) (st := []) cc_X_43 (c_X_advance l N hw M) (hw.m 1 (Nat.le_of_ble_eq_true rfl)) (hw.k (zk1 rr)) rfl (by decide) rfl ⟨(Nat.le_of_ble_eq_true rfl), (Nat.le_of_ble_eq_true rfl)⟩ ⟨(Nat.le_of_ble_eq_true rfl), (Nat.le_of_ble_eq_true rfl)⟩ (Nat.le_of_ble_eq_true rfl) d_X_takeSign_15 (fun M2 => ?_)
    refine G_iconst g (pc := 18) (1 : Int32) d_X_takeSign_18 rfl ?_
    exact G_zreturn g (pc := 19) true rfl hret (Nat.le_of_ble_eq_true rfl) (Nat.le_of_ble_eq_true rfl) d_X_takeSign_19
  · refine G_aload_n g (pc := 8) 0 d_X_takeSign_8 rfl rfl ?_
    refine G_iconst g (pc := 9) (1 : Int32) d_X_takeSign_9 rfl ?_
    refine G_cVZ g (pc := 10) (As := [.int (1 : Int32)]) (st := []) cc_X_78 (c_X_fail l hw (1 : Int32) M) (hw.m 1 (Nat.le_of_ble_eq_true rfl)) (hw.k (zk1 rr)) rfl (by decide) rfl ⟨(Nat.le_of_ble_eq_true rfl), (Nat.le_of_ble_eq_true rfl)⟩ ⟨(Nat.le_of_ble_eq_true rfl), (Nat.le_of_ble_eq_true rfl)⟩ (Nat.le_of_ble_eq_true rfl) d_X_takeSign_10 (fun x3 M4 => ?_)
    exact G_zreturn g (pc := 13) x3 rfl hret (Nat.le_of_ble_eq_true rfl) (Nat.le_of_ble_eq_true rfl) d_X_takeSign_13

theorem d_X_checkNumber_0 : decode b_X_checkNumber 0 = .ok (.aload_n 0, 1) := by decide +kernel
theorem d_X_checkNumber_1 : decode b_X_checkNumber 1 = .ok (.getfield 22, 3) := by decide +kernel
theorem d_X_checkNumber_4 : decode b_X_checkNumber 4 = .ok (.iconst 2, 1) := by decide +kernel
theorem d_X_checkNumber_5 : decode b_X_checkNumber 5 = .ok (.if_icmp .eq 9, 3) := by decide +kernel
theorem d_X_checkNumber_8 : decode b_X_checkNumber 8 = .ok (.aload_n 0, 1) := by decide +kernel
theorem d_X_checkNumber_9 : decode b_X_checkNumber 9 = .ok (.iconst 1, 1) := by decide +kernel
theorem d_X_checkNumber_10 : decode b_X_checkNumber 10 = .ok (.invokevirtual 78, 3) := by decide +kernel
theorem d_X_checkNumber_13 : decode b_X_checkNumber 13 = .ok (.ireturn, 1) := by decide +kernel
theorem d_X_checkNumber_14 : decode b_X_checkNumber 14 = .ok (.aload_n 0, 1) := by decide +kernel
theorem d_X_checkNumber_15 : decode b_X_checkNumber 15 = .ok (.getfield 31, 3) := by decide +kernel
theorem d_X_checkNumber_18 : decode b_X_checkNumber 18 = .ok (.iload_n 1, 1) := by decide +kernel
theorem d_X_checkNumber_19 : decode b_X_checkNumber 19 = .ok (.iload_n 2, 1) := by decide +kernel
theorem d_X_checkNumber_20 : decode b_X_checkNumber 20 = .ok (.invokestatic 81, 3) := by decide +kernel
theorem d_X_checkNumber_23 : decode b_X_checkNumber 23 = .ok (.ifCond .eq 11, 3) := by decide +kernel
theorem d_X_checkNumber_26 : decode b_X_checkNumber 26 = .ok (.aload_n 0, 1) := by decide +kernel
theorem d_X_checkNumber_27 : decode b_X_checkNumber 27 = .ok (.iconst 2, 1) := by decide +kernel
theorem d_X_checkNumber_28 : decode b_X_checkNumber 28 = .ok (.invokevirtual 78, 3) := by decide +kernel
theorem d_X_checkNumber_31 : decode b_X_checkNumber 31 = .ok (.ifCond .eq 7, 3) := by decide +kernel
theorem d_X_checkNumber_34 : decode b_X_checkNumber 34 = .ok (.iconst 1, 1) := by decide +kernel
theorem d_X_checkNumber_35 : decode b_X_checkNumber 35 = .ok (.goto 4, 3) := by decide +kernel
theorem d_X_checkNumber_38 : decode b_X_checkNumber 38 = .ok (.iconst 0, 1) := by decide +kernel
theorem d_X_checkNumber_39 : decode b_X_checkNumber 39 = .ok (.ireturn, 1) := by decide +kernel
theorem cc_X_81 : CSN "KiteLogger$TextReader" 81 "KiteLogger" y_G_isOutside b_G_isOutside 3 (some .boolean) 3 := ⟨NW_in (i := 950) (by decide +kernel) (by decide +kernel), TT_in (i := 634) (by decide +kernel) (by decide +kernel), TT_in (i := 88) (by decide +kernel) (by decide +kernel), TT_in (i := 635) (by decide +kernel) (by decide +kernel), ⟨by decide +kernel, by decide +kernel, by decide +kernel⟩⟩
def f_X_checkNumber (a1 : Int32) (a2 : Int32) (M : Mem) : Option (Bool × Mem) :=
  if (M 1 3) = (2 : Int32) then (bnd (f_G_isOutside (M 1 6) a1 a2 M) fun (x1 : Bool) (M2 : Mem) => if x1 = true then (bnd (f_X_fail (2 : Int32) M2) fun (x3 : Bool) (M4 : Mem) => if x3 = true then (some (true, M4)) else (some (false, M4))) else (some (true, M2))) else (bnd (f_X_fail (1 : Int32) M) fun (x5 : Bool) (M6 : Mem) => some (x5, M6))
set_option maxHeartbeats 4000000 in
set_option maxRecDepth 100000 in
theorem c_X_checkNumber (l : Launch) {w : Wc} {rr : Nat} (hw : WK w rr) (a1 : Int32) (a2 : Int32) (M : Mem) : Ct QZ l y_X_checkNumber b_X_checkNumber 3 (some .boolean) (rmL 1) w [.ref (wad w 1), .int a1, .int a2] M (f_X_checkNumber a1 a2 M) := by
  refine Ct.go (by decide) (L := [(0, .ref (wad w 1)), (1, .int a1), (2, .int a2)]) rfl (Nat.le_of_ble_eq_true rfl) (fun p0 e s m args below meth c g hret => ?_)
  unfold f_X_checkNumber
  refine G_aload_n g (pc := 0) 0 d_X_checkNumber_0 rfl rfl ?_
  refine G_get g (pc := 1) fa_X_22 (hw.m 1 (Nat.le_of_ble_eq_true rfl)) (hw.k (zk1 rr)) d_X_checkNumber_1 ?_
  refine G_iconst g (pc := 4) (2 : Int32) d_X_checkNumber_4 rfl ?_
  refine G_icmp_eq g (pc := 5) 14 d_X_checkNumber_5 (by decide) ?_ ?_
  · refine G_aload_n g (pc := 14) 0 d_X_checkNumber_14 rfl rfl ?_
    refine G_get g (pc := 15) fa_X_31 (hw.m 1 (Nat.le_of_ble_eq_true rfl)) (hw.k (zk1 rr)) d_X_checkNumber_15 ?_
    refine G_iload_n g (pc := 18) 1 d_X_checkNumber_18 rfl rfl ?_
    refine G_iload_n g (pc := 19) 2 d_X_checkNumber_19 rfl rfl ?_
    refine G_cSNZ g (pc := 20) (As := [.int (M 1 6), .int a1, .int a2]) (st := []) cc_X_81 (c_G_isOutside l hw (M 1 6) a1 a2 M) rfl ⟨(Nat.le_of_ble_eq_true rfl), (Nat.le_of_ble_eq_true rfl)⟩ ⟨(Nat.le_of_ble_eq_true rfl), (Nat.le_of_ble_eq_true rfl)⟩ (Nat.le_of_ble_eq_true rfl) d_X_checkNumber_20 (fun x1 M2 => ?_)
    refine G_if_eqB g (pc := 23) 34 d_X_checkNumber_23 (by decide) ?_ ?_
    · refine G_aload_n g (pc := 26) 0 d_X_checkNumber_26 rfl rfl ?_
      refine G_iconst g (pc := 27) (2 : Int32) d_X_checkNumber_27 rfl ?_
      refine G_cVZ g (pc := 28) (As := [.int (2 : Int32)]) (st := []) cc_X_78 (c_X_fail l hw (2 : Int32) M2) (hw.m 1 (Nat.le_of_ble_eq_true rfl)) (hw.k (zk1 rr)) rfl (by decide) rfl ⟨(Nat.le_of_ble_eq_true rfl), (Nat.le_of_ble_eq_true rfl)⟩ ⟨(Nat.le_of_ble_eq_true rfl), (Nat.le_of_ble_eq_true rfl)⟩ (Nat.le_of_ble_eq_true rfl) d_X_checkNumber_28 (fun x3 M4 => ?_)
      refine G_if_eqB g (pc := 31) 38 d_X_checkNumber_31 (by decide) ?_ ?_
      · refine G_iconst g (pc := 34) (1 : Int32) d_X_checkNumber_34 rfl ?_
        refine G_goto g (pc := 35) 39 d_X_checkNumber_35 (by decide) ?_
        exact G_zreturn g (pc := 39) true rfl hret (Nat.le_of_ble_eq_true rfl) (Nat.le_of_ble_eq_true rfl) d_X_checkNumber_39
      · refine G_iconst g (pc := 38) (0 : Int32) d_X_checkNumber_38 rfl ?_
        exact G_zreturn g (pc := 39) false rfl hret (Nat.le_of_ble_eq_true rfl) (Nat.le_of_ble_eq_true rfl) d_X_checkNumber_39
    · refine G_iconst g (pc := 34) (1 : Int32) d_X_checkNumber_34 rfl ?_
      refine G_goto g (pc := 35) 39 d_X_checkNumber_35 (by decide) ?_
      exact G_zreturn g (pc := 39) true rfl hret (Nat.le_of_ble_eq_true rfl) (Nat.le_of_ble_eq_true rfl) d_X_checkNumber_39
  · refine G_aload_n g (pc := 8) 0 d_X_checkNumber_8 rfl rfl ?_
    refine G_iconst g (pc := 9) (1 : Int32) d_X_checkNumber_9 rfl ?_
    refine G_cVZ g (pc := 10) (As := [.int (1 : Int32)]) (st := []) cc_X_78 (c_X_fail l hw (1 : Int32) M) (hw.m 1 (Nat.le_of_ble_eq_true rfl)) (hw.k (zk1 rr)) rfl (by decide) rfl ⟨(Nat.le_of_ble_eq_true rfl), (Nat.le_of_ble_eq_true rfl)⟩ ⟨(Nat.le_of_ble_eq_true rfl), (Nat.le_of_ble_eq_true rfl)⟩ (Nat.le_of_ble_eq_true rfl) d_X_checkNumber_10 (fun x5 M6 => ?_)
    exact G_zreturn g (pc := 13) x5 rfl hret (Nat.le_of_ble_eq_true rfl) (Nat.le_of_ble_eq_true rfl) d_X_checkNumber_13

theorem d_X_takeNumber_0 : decode b_X_takeNumber 0 = .ok (.aload_n 0, 1) := by decide +kernel
theorem d_X_takeNumber_1 : decode b_X_takeNumber 1 = .ok (.iload_n 1, 1) := by decide +kernel
theorem d_X_takeNumber_2 : decode b_X_takeNumber 2 = .ok (.iload_n 2, 1) := by decide +kernel
theorem d_X_takeNumber_3 : decode b_X_takeNumber 3 = .ok (.invokevirtual 85, 3) := by decide +kernel
theorem d_X_takeNumber_6 : decode b_X_takeNumber 6 = .ok (.ifCond .ne 5, 3) := by decide +kernel
theorem d_X_takeNumber_9 : decode b_X_takeNumber 9 = .ok (.iconst 0, 1) := by decide +kernel
theorem d_X_takeNumber_10 : decode b_X_takeNumber 10 = .ok (.ireturn, 1) := by decide +kernel
theorem d_X_takeNumber_11 : decode b_X_takeNumber 11 = .ok (.aload_n 0, 1) := by decide +kernel
theorem d_X_takeNumber_12 : decode b_X_takeNumber 12 = .ok (.aload_n 0, 1) := by decide +kernel
theorem d_X_takeNumber_13 : decode b_X_takeNumber 13 = .ok (.getfield 31, 3) := by decide +kernel
theorem d_X_takeNumber_16 : decode b_X_takeNumber 16 = .ok (.putfield 34, 3) := by decide +kernel
theorem d_X_takeNumber_19 : decode b_X_takeNumber 19 = .ok (.aload_n 0, 1) := by decide +kernel
theorem d_X_takeNumber_20 : decode b_X_takeNumber 20 = .ok (.invokevirtual 43, 3) := by decide +kernel
theorem d_X_takeNumber_23 : decode b_X_takeNumber 23 = .ok (.iconst 1, 1) := by decide +kernel
theorem d_X_takeNumber_24 : decode b_X_takeNumber 24 = .ok (.ireturn, 1) := by decide +kernel
theorem cc_X_85 : CV "KiteLogger$TextReader" 85 y_X_checkNumber b_X_checkNumber 3 (some .boolean) 2 := ⟨TT_in (i := 946) (by decide +kernel) (by decide +kernel), TT_in (i := 947) (by decide +kernel) (by decide +kernel), TT_in (i := 948) (by decide +kernel) (by decide +kernel), TT_in (i := 89) (by decide +kernel) (by decide +kernel), TT_in (i := 949) (by decide +kernel) (by decide +kernel), ⟨by decide +kernel, by decide +kernel, by decide +kernel⟩⟩
def f_X_takeNumber (N : Nat) (rr : Nat) (a1 : Int32) (a2 : Int32) (M : Mem) : Option (Bool × Mem) :=
  bnd (f_X_checkNumber a1 a2 M) fun (x1 : Bool) (M2 : Mem) => if x1 = true then (nm (put M2 1 7 (M2 1 6)) fun (M3 : Mem) => bndM (f_X_advance N rr M3) fun (M5 : Mem) => some (true, M5)) else (some (false, M2))
set_option maxHeartbeats 4000000 in
set_option maxRecDepth 100000 in
theorem c_X_takeNumber (l : Launch) (N : Nat) {w : Wc} {rr : Nat} (hw : WK w rr) (a1 : Int32) (a2 : Int32) (M : Mem) : Ct QZ l y_X_takeNumber b_X_takeNumber 3 (some .boolean) (rmL 2) w [.ref (wad w 1), .int a1, .int a2] M (f_X_takeNumber N rr a1 a2 M) := by
  refine Ct.go (by decide) (L := [(0, .ref (wad w 1)), (1, .int a1), (2, .int a2)]) rfl (Nat.le_of_ble_eq_true rfl) (fun p0 e s m args below meth c g hret => ?_)
  unfold f_X_takeNumber
  refine G_aload_n g (pc := 0) 0 d_X_takeNumber_0 rfl rfl ?_
  refine G_iload_n g (pc := 1) 1 d_X_takeNumber_1 rfl rfl ?_
  refine G_iload_n g (pc := 2) 2 d_X_takeNumber_2 rfl rfl ?_
  refine G_cVZ g (pc := 3) (As := [.int a1, .int a2]) (st := []) cc_X_85 (c_X_checkNumber l hw a1 a2 M) (hw.m 1 (Nat.le_of_ble_eq_true rfl)) (hw.k (zk1 rr)) rfl (by decide) rfl ⟨(Nat.le_of_ble_eq_true rfl), (Nat.le_of_ble_eq_true rfl)⟩ ⟨(Nat.le_of_ble_eq_true rfl), (Nat.le_of_ble_eq_true rfl)⟩ (Nat.le_of_ble_eq_true rfl) d_X_takeNumber_3 (fun x1 M2 => ?_)
  refine G_if_neB g (pc := 6) 11 d_X_takeNumber_6 (by decide) ?_ ?_
  · refine G_aload_n g (pc := 11) 0 d_X_takeNumber_11 rfl rfl ?_
    refine G_aload_n g (pc := 12) 0 d_X_takeNumber_12 rfl rfl ?_
    refine G_get g (pc := 13) fa_X_31 (hw.m 1 (Nat.le_of_ble_eq_true rfl)) (hw.k (zk1 rr)) d_X_takeNumber_13 ?_
    refine G_put g (pc := 16) fa_X_34 fw_7_7 rfl rfl (hw.m 1 (Nat.le_of_ble_eq_true rfl)) (hw.k (zk1 rr)) d_X_takeNumber_16 ?_
    refine G_nmM (fun M3 => ?_)
    refine G_aload_n g (pc := 19) 0 d_X_takeNumber_19 rfl rfl ?_
    refine G_cVV g (pc := 20) (As := []) (st := []) cc_X_43 (c_X_advance l N hw M3) (hw.m 1 (Nat.le_of_ble_eq_true rfl)) (hw.k (zk1 rr)) rfl (by decide) rfl ⟨(Nat.le_of_ble_eq_true rfl), (Nat.le_of_ble_eq_true rfl)⟩ ⟨(Nat.le_of_ble_eq_true rfl), (Nat.le_of_ble_eq_true rfl)⟩ (Nat.le_of_ble_eq_true rfl) d_X_takeNumber_20 (fun M5 => ?_)
    refine G_iconst g (pc := 23) (1 : Int32) d_X_takeNumber_23 rfl ?_
    exact G_zreturn g (pc := 24) true rfl hret (Nat.le_of_ble_eq_true rfl) (Nat.le_of_ble_eq_true rfl) d_X_takeNumber_24
  · refine G_iconst g (pc := 9) (0 : Int32) d_X_takeNumber_9 rfl ?_
    exact G_zreturn g (pc := 10) false rfl hret (Nat.le_of_ble_eq_true rfl) (Nat.le_of_ble_eq_true rfl) d_X_takeNumber_10
end
