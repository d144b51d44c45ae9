section
-- ===== PART A: goes FIRST, ahead of the names: the tables' words, and 'selects' of the private methods out of them =====
/-- a private method of a class that the tables say can be made, by its rows of tables_1 -/
def lw_okq (q : MethodName × Nat) : Prop := (q.1.cls ≠ "java/lang/invoke/MethodHandle" ∧ q.1.cls ≠ "java/lang/invoke/VarHandle") ∧ Cond.instantiable q.1.cls q.2 ∈ tables_1 ∧ Cond.privateMethod q.1 ∈ tables_1 ∧ Cond.instanceMethod q.1 ∈ tables_1
theorem lw_p0 : lw_okq (⟨"NoseDrum$Tape", "behindBlanks", "(I)I"⟩, 8) := ⟨⟨by decide +kernel, by decide +kernel⟩, List.mem_of_getElem? (i := 30) (by decide +kernel), List.mem_of_getElem? (i := 520) (by decide +kernel), List.mem_of_getElem? (i := 521) (by decide +kernel)⟩
theorem lw_p1 : lw_okq (⟨"NoseDrum$Tape", "byteAt", "(I)I"⟩, 8) := ⟨⟨by decide +kernel, by decide +kernel⟩, List.mem_of_getElem? (i := 30) (by decide +kernel), List.mem_of_getElem? (i := 524) (by decide +kernel), List.mem_of_getElem? (i := 525) (by decide +kernel)⟩
theorem lw_p2 : lw_okq (⟨"NoseDrum$Tape", "behindLetters", "(I)I"⟩, 8) := ⟨⟨by decide +kernel, by decide +kernel⟩, List.mem_of_getElem? (i := 30) (by decide +kernel), List.mem_of_getElem? (i := 531) (by decide +kernel), List.mem_of_getElem? (i := 532) (by decide +kernel)⟩
theorem lw_p3 : lw_okq (⟨"NoseDrum$Tape", "behindDigits", "(I)I"⟩, 8) := ⟨⟨by decide +kernel, by decide +kernel⟩, List.mem_of_getElem? (i := 30) (by decide +kernel), List.mem_of_getElem? (i := 538) (by decide +kernel), List.mem_of_getElem? (i := 539) (by decide +kernel)⟩
theorem lw_p4 : lw_okq (⟨"NoseDrum$Machine", "readLine", "(LNoseDrum$Tape;)V"⟩, 14) := ⟨⟨by decide +kernel, by decide +kernel⟩, List.mem_of_getElem? (i := 217) (by decide +kernel), List.mem_of_getElem? (i := 551) (by decide +kernel), List.mem_of_getElem? (i := 552) (by decide +kernel)⟩
theorem lw_p5 : lw_okq (⟨"NoseDrum$Machine", "readDrumLine", "(LNoseDrum$Tape;)V"⟩, 14) := ⟨⟨by decide +kernel, by decide +kernel⟩, List.mem_of_getElem? (i := 217) (by decide +kernel), List.mem_of_getElem? (i := 555) (by decide +kernel), List.mem_of_getElem? (i := 556) (by decide +kernel)⟩
theorem lw_p6 : lw_okq (⟨"NoseDrum$Machine", "readTrackLine", "(LNoseDrum$Tape;)V"⟩, 14) := ⟨⟨by decide +kernel, by decide +kernel⟩, List.mem_of_getElem? (i := 217) (by decide +kernel), List.mem_of_getElem? (i := 629) (by decide +kernel), List.mem_of_getElem? (i := 630) (by decide +kernel)⟩
theorem lw_p7 : lw_okq (⟨"NoseDrum$Machine", "readGearLine", "(LNoseDrum$Tape;)V"⟩, 14) := ⟨⟨by decide +kernel, by decide +kernel⟩, List.mem_of_getElem? (i := 217) (by decide +kernel), List.mem_of_getElem? (i := 662) (by decide +kernel), List.mem_of_getElem? (i := 663) (by decide +kernel)⟩
theorem lw_p8 : lw_okq (⟨"NoseDrum$Followers", "readLever", "(LNoseDrum$Tape;)V"⟩, 10) := ⟨⟨by decide +kernel, by decide +kernel⟩, List.mem_of_getElem? (i := 273) (by decide +kernel), List.mem_of_getElem? (i := 681) (by decide +kernel), List.mem_of_getElem? (i := 682) (by decide +kernel)⟩
theorem lw_p9 : lw_okq (⟨"NoseDrum$Followers", "readSprung", "(LNoseDrum$Tape;II)V"⟩, 10) := ⟨⟨by decide +kernel, by decide +kernel⟩, List.mem_of_getElem? (i := 273) (by decide +kernel), List.mem_of_getElem? (i := 689) (by decide +kernel), List.mem_of_getElem? (i := 690) (by decide +kernel)⟩
theorem lw_p10 : lw_okq (⟨"NoseDrum$Followers", "below", "(I)I"⟩, 10) := ⟨⟨by decide +kernel, by decide +kernel⟩, List.mem_of_getElem? (i := 273) (by decide +kernel), List.mem_of_getElem? (i := 730) (by decide +kernel), List.mem_of_getElem? (i := 731) (by decide +kernel)⟩
theorem lw_p11 : lw_okq (⟨"NoseDrum$Curves", "fillProfile", "(LNoseDrum$Machine;I)V"⟩, 7) := ⟨⟨by decide +kernel, by decide +kernel⟩, List.mem_of_getElem? (i := 107) (by decide +kernel), List.mem_of_getElem? (i := 734) (by decide +kernel), List.mem_of_getElem? (i := 735) (by decide +kernel)⟩
theorem lw_p12 : lw_okq (⟨"NoseDrum$Curves", "clearProfile", "(LNoseDrum$Machine;)V"⟩, 7) := ⟨⟨by decide +kernel, by decide +kernel⟩, List.mem_of_getElem? (i := 107) (by decide +kernel), List.mem_of_getElem? (i := 738) (by decide +kernel), List.mem_of_getElem? (i := 739) (by decide +kernel)⟩
theorem lw_p13 : lw_okq (⟨"NoseDrum$Curves", "raiseProfile", "(LNoseDrum$Machine;I)V"⟩, 7) := ⟨⟨by decide +kernel, by decide +kernel⟩, List.mem_of_getElem? (i := 107) (by decide +kernel), List.mem_of_getElem? (i := 742) (by decide +kernel), List.mem_of_getElem? (i := 743) (by decide +kernel)⟩
theorem lw_p14 : lw_okq (⟨"NoseDrum$Curves", "settle", "(LNoseDrum$Machine;I)V"⟩, 7) := ⟨⟨by decide +kernel, by decide +kernel⟩, List.mem_of_getElem? (i := 107) (by decide +kernel), List.mem_of_getElem? (i := 761) (by decide +kernel), List.mem_of_getElem? (i := 762) (by decide +kernel)⟩
theorem lw_p15 : lw_okq (⟨"NoseDrum$Curves", "passLever", "(LNoseDrum$Machine;I)V"⟩, 7) := ⟨⟨by decide +kernel, by decide +kernel⟩, List.mem_of_getElem? (i := 107) (by decide +kernel), List.mem_of_getElem? (i := 770) (by decide +kernel), List.mem_of_getElem? (i := 771) (by decide +kernel)⟩
def lw_privs_1 : List (MethodName × Nat) := [(⟨"NoseDrum$Tape", "behindBlanks", "(I)I"⟩, 8), (⟨"NoseDrum$Tape", "byteAt", "(I)I"⟩, 8), (⟨"NoseDrum$Tape", "behindLetters", "(I)I"⟩, 8), (⟨"NoseDrum$Tape", "behindDigits", "(I)I"⟩, 8), (⟨"NoseDrum$Machine", "readLine", "(LNoseDrum$Tape;)V"⟩, 14), (⟨"NoseDrum$Machine", "readDrumLine", "(LNoseDrum$Tape;)V"⟩, 14), (⟨"NoseDrum$Machine", "readTrackLine", "(LNoseDrum$Tape;)V"⟩, 14), (⟨"NoseDrum$Machine", "readGearLine", "(LNoseDrum$Tape;)V"⟩, 14), (⟨"NoseDrum$Followers", "readLever", "(LNoseDrum$Tape;)V"⟩, 10), (⟨"NoseDrum$Followers", "readSprung", "(LNoseDrum$Tape;II)V"⟩, 10), (⟨"NoseDrum$Followers", "below", "(I)I"⟩, 10), (⟨"NoseDrum$Curves", "fillProfile", "(LNoseDrum$Machine;I)V"⟩, 7), (⟨"NoseDrum$Curves", "clearProfile", "(LNoseDrum$Machine;)V"⟩, 7), (⟨"NoseDrum$Curves", "raiseProfile", "(LNoseDrum$Machine;I)V"⟩, 7), (⟨"NoseDrum$Curves", "settle", "(LNoseDrum$Machine;I)V"⟩, 7), (⟨"NoseDrum$Curves", "passLever", "(LNoseDrum$Machine;I)V"⟩, 7)]
theorem lw_r1 : ∀ q ∈ lw_privs_1, lw_okq q := List.forall_mem_cons.mpr ⟨lw_p0, List.forall_mem_cons.mpr ⟨lw_p1, List.forall_mem_cons.mpr ⟨lw_p2, List.forall_mem_cons.mpr ⟨lw_p3, List.forall_mem_cons.mpr ⟨lw_p4, List.forall_mem_cons.mpr ⟨lw_p5, List.forall_mem_cons.mpr ⟨lw_p6, List.forall_mem_cons.mpr ⟨lw_p7, List.forall_mem_cons.mpr ⟨lw_p8, List.forall_mem_cons.mpr ⟨lw_p9, List.forall_mem_cons.mpr ⟨lw_p10, List.forall_mem_cons.mpr ⟨lw_p11, List.forall_mem_cons.mpr ⟨lw_p12, List.forall_mem_cons.mpr ⟨lw_p13, List.forall_mem_cons.mpr ⟨lw_p14, List.forall_mem_cons.mpr ⟨lw_p15, fun _ h => absurd h List.not_mem_nil⟩⟩⟩⟩⟩⟩⟩⟩⟩⟩⟩⟩⟩⟩⟩⟩
theorem lw_p16 : lw_okq (⟨"NoseDrum$Program", "readAct", "(LNoseDrum$Tape;I)V"⟩, 11) := ⟨⟨by decide +kernel, by decide +kernel⟩, List.mem_of_getElem? (i := 66) (by decide +kernel), List.mem_of_getElem? (i := 809) (by decide +kernel), List.mem_of_getElem? (i := 810) (by decide +kernel)⟩
theorem lw_p17 : lw_okq (⟨"NoseDrum$Program", "readMove", "(LNoseDrum$Tape;II)V"⟩, 11) := ⟨⟨by decide +kernel, by decide +kernel⟩, List.mem_of_getElem? (i := 66) (by decide +kernel), List.mem_of_getElem? (i := 815) (by decide +kernel), List.mem_of_getElem? (i := 816) (by decide +kernel)⟩
theorem lw_p18 : lw_okq (⟨"NoseDrum$Program", "add", "(III)V"⟩, 11) := ⟨⟨by decide +kernel, by decide +kernel⟩, List.mem_of_getElem? (i := 66) (by decide +kernel), List.mem_of_getElem? (i := 822) (by decide +kernel), List.mem_of_getElem? (i := 823) (by decide +kernel)⟩
theorem lw_p19 : lw_okq (⟨"NoseDrum$Program", "readOpening", "(LNoseDrum$Tape;III)V"⟩, 11) := ⟨⟨by decide +kernel, by decide +kernel⟩, List.mem_of_getElem? (i := 66) (by decide +kernel), List.mem_of_getElem? (i := 829) (by decide +kernel), List.mem_of_getElem? (i := 830) (by decide +kernel)⟩
theorem lw_p20 : lw_okq (⟨"NoseDrum$Program", "readClosing", "(LNoseDrum$Tape;)V"⟩, 11) := ⟨⟨by decide +kernel, by decide +kernel⟩, List.mem_of_getElem? (i := 66) (by decide +kernel), List.mem_of_getElem? (i := 838) (by decide +kernel), List.mem_of_getElem? (i := 839) (by decide +kernel)⟩
theorem lw_p21 : lw_okq (⟨"NoseDrum$Program", "behindAct", "(LNoseDrum$Machine;LNoseDrum$Curves;I)I"⟩, 11) := ⟨⟨by decide +kernel, by decide +kernel⟩, List.mem_of_getElem? (i := 66) (by decide +kernel), List.mem_of_getElem? (i := 847) (by decide +kernel), List.mem_of_getElem? (i := 848) (by decide +kernel)⟩
theorem lw_p22 : lw_okq (⟨"NoseDrum$Program", "comeOn", "(LNoseDrum$Machine;I)V"⟩, 11) := ⟨⟨by decide +kernel, by decide +kernel⟩, List.mem_of_getElem? (i := 66) (by decide +kernel), List.mem_of_getElem? (i := 851) (by decide +kernel), List.mem_of_getElem? (i := 852) (by decide +kernel)⟩
theorem lw_p23 : lw_okq (⟨"NoseDrum$Program", "enter", "(I)V"⟩, 11) := ⟨⟨by decide +kernel, by decide +kernel⟩, List.mem_of_getElem? (i := 66) (by decide +kernel), List.mem_of_getElem? (i := 856) (by decide +kernel), List.mem_of_getElem? (i := 857) (by decide +kernel)⟩
theorem lw_p24 : lw_okq (⟨"NoseDrum$Program", "behindClosing", "(I)I"⟩, 11) := ⟨⟨by decide +kernel, by decide +kernel⟩, List.mem_of_getElem? (i := 66) (by decide +kernel), List.mem_of_getElem? (i := 861) (by decide +kernel), List.mem_of_getElem? (i := 862) (by decide +kernel)⟩
theorem lw_p25 : lw_okq (⟨"NoseDrum", "firstRise", "([II)I"⟩, 10) := ⟨⟨by decide +kernel, by decide +kernel⟩, List.mem_of_getElem? (i := 22) (by decide +kernel), List.mem_of_getElem? (i := 901) (by decide +kernel), List.mem_of_getElem? (i := 902) (by decide +kernel)⟩
theorem lw_p26 : lw_okq (⟨"NoseDrum$Pawls", "roundByTeeth", "(II)I"⟩, 5) := ⟨⟨by decide +kernel, by decide +kernel⟩, List.mem_of_getElem? (i := 323) (by decide +kernel), List.mem_of_getElem? (i := 952) (by decide +kernel), List.mem_of_getElem? (i := 953) (by decide +kernel)⟩
theorem lw_p27 : lw_okq (⟨"NoseDrum", "firstNotBrought", "(II)I"⟩, 10) := ⟨⟨by decide +kernel, by decide +kernel⟩, List.mem_of_getElem? (i := 22) (by decide +kernel), List.mem_of_getElem? (i := 1070) (by decide +kernel), List.mem_of_getElem? (i := 1071) (by decide +kernel)⟩
theorem lw_p28 : lw_okq (⟨"NoseDrum", "firstUnlike", "([I[I)I"⟩, 10) := ⟨⟨by decide +kernel, by decide +kernel⟩, List.mem_of_getElem? (i := 22) (by decide +kernel), List.mem_of_getElem? (i := 1075) (by decide +kernel), List.mem_of_getElem? (i := 1076) (by decide +kernel)⟩
theorem lw_p29 : lw_okq (⟨"NoseDrum", "firstFall", "([II)I"⟩, 10) := ⟨⟨by decide +kernel, by decide +kernel⟩, List.mem_of_getElem? (i := 22) (by decide +kernel), List.mem_of_getElem? (i := 1087) (by decide +kernel), List.mem_of_getElem? (i := 1088) (by decide +kernel)⟩
theorem lw_p30 : lw_okq (⟨"NoseDrum", "takeMotions", "(I)I"⟩, 10) := ⟨⟨by decide +kernel, by decide +kernel⟩, List.mem_of_getElem? (i := 22) (by decide +kernel), List.mem_of_getElem? (i := 1118) (by decide +kernel), List.mem_of_getElem? (i := 1119) (by decide +kernel)⟩
theorem lw_p31 : lw_okq (⟨"NoseDrum$Room", "clearLoads", "()V"⟩, 4) := ⟨⟨by decide +kernel, by decide +kernel⟩, List.mem_of_getElem? (i := 194) (by decide +kernel), List.mem_of_getElem? (i := 1137) (by decide +kernel), List.mem_of_getElem? (i := 1138) (by decide +kernel)⟩
def lw_privs_2 : List (MethodName × Nat) := [(⟨"NoseDrum$Program", "readAct", "(LNoseDrum$Tape;I)V"⟩, 11), (⟨"NoseDrum$Program", "readMove", "(LNoseDrum$Tape;II)V"⟩, 11), (⟨"NoseDrum$Program", "add", "(III)V"⟩, 11), (⟨"NoseDrum$Program", "readOpening", "(LNoseDrum$Tape;III)V"⟩, 11), (⟨"NoseDrum$Program", "readClosing", "(LNoseDrum$Tape;)V"⟩, 11), (⟨"NoseDrum$Program", "behindAct", "(LNoseDrum$Machine;LNoseDrum$Curves;I)I"⟩, 11), (⟨"NoseDrum$Program", "comeOn", "(LNoseDrum$Machine;I)V"⟩, 11), (⟨"NoseDrum$Program", "enter", "(I)V"⟩, 11), (⟨"NoseDrum$Program", "behindClosing", "(I)I"⟩, 11), (⟨"NoseDrum", "firstRise", "([II)I"⟩, 10), (⟨"NoseDrum$Pawls", "roundByTeeth", "(II)I"⟩, 5), (⟨"NoseDrum", "firstNotBrought", "(II)I"⟩, 10), (⟨"NoseDrum", "firstUnlike", "([I[I)I"⟩, 10), (⟨"NoseDrum", "firstFall", "([II)I"⟩, 10), (⟨"NoseDrum", "takeMotions", "(I)I"⟩, 10), (⟨"NoseDrum$Room", "clearLoads", "()V"⟩, 4)]
theorem lw_r2 : ∀ q ∈ lw_privs_2, lw_okq q := List.forall_mem_cons.mpr ⟨lw_p16, List.forall_mem_cons.mpr ⟨lw_p17, List.forall_mem_cons.mpr ⟨lw_p18, List.forall_mem_cons.mpr ⟨lw_p19, List.forall_mem_cons.mpr ⟨lw_p20, List.forall_mem_cons.mpr ⟨lw_p21, List.forall_mem_cons.mpr ⟨lw_p22, List.forall_mem_cons.mpr ⟨lw_p23, List.forall_mem_cons.mpr ⟨lw_p24, List.forall_mem_cons.mpr ⟨lw_p25, List.forall_mem_cons.mpr ⟨lw_p26, List.forall_mem_cons.mpr ⟨lw_p27, List.forall_mem_cons.mpr ⟨lw_p28, List.forall_mem_cons.mpr ⟨lw_p29, List.forall_mem_cons.mpr ⟨lw_p30, List.forall_mem_cons.mpr ⟨lw_p31, fun _ h => absurd h List.not_mem_nil⟩⟩⟩⟩⟩⟩⟩⟩⟩⟩⟩⟩⟩⟩⟩⟩
theorem lw_p32 : lw_okq (⟨"NoseDrum$Room", "areApart", "(II)Z"⟩, 4) := ⟨⟨by decide +kernel, by decide +kernel⟩, List.mem_of_getElem? (i := 194) (by decide +kernel), List.mem_of_getElem? (i := 1156) (by decide +kernel), List.mem_of_getElem? (i := 1157) (by decide +kernel)⟩
theorem lw_p33 : lw_okq (⟨"NoseDrum", "searchFaults", "(III)I"⟩, 10) := ⟨⟨by decide +kernel, by decide +kernel⟩, List.mem_of_getElem? (i := 22) (by decide +kernel), List.mem_of_getElem? (i := 1183) (by decide +kernel), List.mem_of_getElem? (i := 1184) (by decide +kernel)⟩
theorem lw_p34 : lw_okq (⟨"NoseDrum$Suspects", "tryNose", "(LNoseDrum$Machine;LNoseDrum$Curves;IIJI)V"⟩, 5) := ⟨⟨by decide +kernel, by decide +kernel⟩, List.mem_of_getElem? (i := 144) (by decide +kernel), List.mem_of_getElem? (i := 1198) (by decide +kernel), List.mem_of_getElem? (i := 1199) (by decide +kernel)⟩
theorem lw_p35 : lw_okq (⟨"NoseDrum$Suspects", "suspectBroken", "(I)V"⟩, 5) := ⟨⟨by decide +kernel, by decide +kernel⟩, List.mem_of_getElem? (i := 144) (by decide +kernel), List.mem_of_getElem? (i := 1202) (by decide +kernel), List.mem_of_getElem? (i := 1203) (by decide +kernel)⟩
theorem lw_p36 : lw_okq (⟨"NoseDrum$Suspects", "suspectWorn", "(II)V"⟩, 5) := ⟨⟨by decide +kernel, by decide +kernel⟩, List.mem_of_getElem? (i := 144) (by decide +kernel), List.mem_of_getElem? (i := 1206) (by decide +kernel), List.mem_of_getElem? (i := 1207) (by decide +kernel)⟩
theorem lw_p37 : lw_okq (⟨"NoseDrum$Suspects", "suspectAll", "(II)V"⟩, 5) := ⟨⟨by decide +kernel, by decide +kernel⟩, List.mem_of_getElem? (i := 144) (by decide +kernel), List.mem_of_getElem? (i := 1211) (by decide +kernel), List.mem_of_getElem? (i := 1212) (by decide +kernel)⟩
theorem lw_p38 : lw_okq (⟨"NoseDrumModel", "begins", "()V"⟩, 42) := ⟨⟨by decide +kernel, by decide +kernel⟩, List.mem_of_getElem? (i := 1326) (by decide +kernel), List.mem_of_getElem? (i := 1489) (by decide +kernel), List.mem_of_getElem? (i := 1490) (by decide +kernel)⟩
theorem lw_p39 : lw_okq (⟨"NoseDrumModel", "advance", "()V"⟩, 42) := ⟨⟨by decide +kernel, by decide +kernel⟩, List.mem_of_getElem? (i := 1326) (by decide +kernel), List.mem_of_getElem? (i := 1493) (by decide +kernel), List.mem_of_getElem? (i := 1494) (by decide +kernel)⟩
theorem lw_p40 : lw_okq (⟨"NoseDrumModel", "see", "(I)I"⟩, 42) := ⟨⟨by decide +kernel, by decide +kernel⟩, List.mem_of_getElem? (i := 1326) (by decide +kernel), List.mem_of_getElem? (i := 1497) (by decide +kernel), List.mem_of_getElem? (i := 1498) (by decide +kernel)⟩
theorem lw_p41 : lw_okq (⟨"NoseDrumModel", "good", "()Z"⟩, 42) := ⟨⟨by decide +kernel, by decide +kernel⟩, List.mem_of_getElem? (i := 1326) (by decide +kernel), List.mem_of_getElem? (i := 1507) (by decide +kernel), List.mem_of_getElem? (i := 1508) (by decide +kernel)⟩
theorem lw_p42 : lw_okq (⟨"NoseDrumModel", "readDrum", "()V"⟩, 42) := ⟨⟨by decide +kernel, by decide +kernel⟩, List.mem_of_getElem? (i := 1326) (by decide +kernel), List.mem_of_getElem? (i := 1511) (by decide +kernel), List.mem_of_getElem? (i := 1512) (by decide +kernel)⟩
theorem lw_p43 : lw_okq (⟨"NoseDrumModel", "needs", "(Ljava/lang/String;)V"⟩, 42) := ⟨⟨by decide +kernel, by decide +kernel⟩, List.mem_of_getElem? (i := 1326) (by decide +kernel), List.mem_of_getElem? (i := 1516) (by decide +kernel), List.mem_of_getElem? (i := 1517) (by decide +kernel)⟩
theorem lw_p44 : lw_okq (⟨"NoseDrumModel", "takes", "(Ljava/lang/String;)Z"⟩, 42) := ⟨⟨by decide +kernel, by decide +kernel⟩, List.mem_of_getElem? (i := 1326) (by decide +kernel), List.mem_of_getElem? (i := 1520) (by decide +kernel), List.mem_of_getElem? (i := 1521) (by decide +kernel)⟩
theorem lw_p45 : lw_okq (⟨"NoseDrumModel", "is", "(Ljava/lang/String;)Z"⟩, 42) := ⟨⟨by decide +kernel, by decide +kernel⟩, List.mem_of_getElem? (i := 1326) (by decide +kernel), List.mem_of_getElem? (i := 1524) (by decide +kernel), List.mem_of_getElem? (i := 1525) (by decide +kernel)⟩
theorem lw_p46 : lw_okq (⟨"NoseDrumModel", "errs", "(I)V"⟩, 42) := ⟨⟨by decide +kernel, by decide +kernel⟩, List.mem_of_getElem? (i := 1326) (by decide +kernel), List.mem_of_getElem? (i := 1530) (by decide +kernel), List.mem_of_getElem? (i := 1531) (by decide +kernel)⟩
theorem lw_p47 : lw_okq (⟨"NoseDrumModel", "told", "(Ljava/lang/String;II)I"⟩, 42) := ⟨⟨by decide +kernel, by decide +kernel⟩, List.mem_of_getElem? (i := 1326) (by decide +kernel), List.mem_of_getElem? (i := 1535) (by decide +kernel), List.mem_of_getElem? (i := 1536) (by decide +kernel)⟩
def lw_privs_3 : List (MethodName × Nat) := [(⟨"NoseDrum$Room", "areApart", "(II)Z"⟩, 4), (⟨"NoseDrum", "searchFaults", "(III)I"⟩, 10), (⟨"NoseDrum$Suspects", "tryNose", "(LNoseDrum$Machine;LNoseDrum$Curves;IIJI)V"⟩, 5), (⟨"NoseDrum$Suspects", "suspectBroken", "(I)V"⟩, 5), (⟨"NoseDrum$Suspects", "suspectWorn", "(II)V"⟩, 5), (⟨"NoseDrum$Suspects", "suspectAll", "(II)V"⟩, 5), (⟨"NoseDrumModel", "begins", "()V"⟩, 42), (⟨"NoseDrumModel", "advance", "()V"⟩, 42), (⟨"NoseDrumModel", "see", "(I)I"⟩, 42), (⟨"NoseDrumModel", "good", "()Z"⟩, 42), (⟨"NoseDrumModel", "readDrum", "()V"⟩, 42), (⟨"NoseDrumModel", "needs", "(Ljava/lang/String;)V"⟩, 42), (⟨"NoseDrumModel", "takes", "(Ljava/lang/String;)Z"⟩, 42), (⟨"NoseDrumModel", "is", "(Ljava/lang/String;)Z"⟩, 42), (⟨"NoseDrumModel", "errs", "(I)V"⟩, 42), (⟨"NoseDrumModel", "told", "(Ljava/lang/String;II)I"⟩, 42)]
theorem lw_r3 : ∀ q ∈ lw_privs_3, lw_okq q := List.forall_mem_cons.mpr ⟨lw_p32, List.forall_mem_cons.mpr ⟨lw_p33, List.forall_mem_cons.mpr ⟨lw_p34, List.forall_mem_cons.mpr ⟨lw_p35, List.forall_mem_cons.mpr ⟨lw_p36, List.forall_mem_cons.mpr ⟨lw_p37, List.forall_mem_cons.mpr ⟨lw_p38, List.forall_mem_cons.mpr ⟨lw_p39, List.forall_mem_cons.mpr ⟨lw_p40, List.forall_mem_cons.mpr ⟨lw_p41, List.forall_mem_cons.mpr ⟨lw_p42, List.forall_mem_cons.mpr ⟨lw_p43, List.forall_mem_cons.mpr ⟨lw_p44, List.forall_mem_cons.mpr ⟨lw_p45, List.forall_mem_cons.mpr ⟨lw_p46, List.forall_mem_cons.mpr ⟨lw_p47, fun _ h => absurd h List.not_mem_nil⟩⟩⟩⟩⟩⟩⟩⟩⟩⟩⟩⟩⟩⟩⟩⟩
theorem lw_p48 : lw_okq (⟨"NoseDrumModel", "number", "(II)I"⟩, 42) := ⟨⟨by decide +kernel, by decide +kernel⟩, List.mem_of_getElem? (i := 1326) (by decide +kernel), List.mem_of_getElem? (i := 1539) (by decide +kernel), List.mem_of_getElem? (i := 1540) (by decide +kernel)⟩
theorem lw_p49 : lw_okq (⟨"NoseDrumModel", "readNext", "()V"⟩, 42) := ⟨⟨by decide +kernel, by decide +kernel⟩, List.mem_of_getElem? (i := 1326) (by decide +kernel), List.mem_of_getElem? (i := 1545) (by decide +kernel), List.mem_of_getElem? (i := 1546) (by decide +kernel)⟩
theorem lw_p50 : lw_okq (⟨"NoseDrumModel", "sortOf", "()I"⟩, 42) := ⟨⟨by decide +kernel, by decide +kernel⟩, List.mem_of_getElem? (i := 1326) (by decide +kernel), List.mem_of_getElem? (i := 1549) (by decide +kernel), List.mem_of_getElem? (i := 1550) (by decide +kernel)⟩
theorem lw_p51 : lw_okq (⟨"NoseDrumModel", "readNose", "()V"⟩, 42) := ⟨⟨by decide +kernel, by decide +kernel⟩, List.mem_of_getElem? (i := 1326) (by decide +kernel), List.mem_of_getElem? (i := 1561) (by decide +kernel), List.mem_of_getElem? (i := 1562) (by decide +kernel)⟩
theorem lw_p52 : lw_okq (⟨"NoseDrumModel", "readPawl", "()V"⟩, 42) := ⟨⟨by decide +kernel, by decide +kernel⟩, List.mem_of_getElem? (i := 1326) (by decide +kernel), List.mem_of_getElem? (i := 1570) (by decide +kernel), List.mem_of_getElem? (i := 1571) (by decide +kernel)⟩
theorem lw_p53 : lw_okq (⟨"NoseDrumModel", "readFollower", "(I)V"⟩, 42) := ⟨⟨by decide +kernel, by decide +kernel⟩, List.mem_of_getElem? (i := 1326) (by decide +kernel), List.mem_of_getElem? (i := 1576) (by decide +kernel), List.mem_of_getElem? (i := 1577) (by decide +kernel)⟩
theorem lw_p54 : lw_okq (⟨"NoseDrumModel", "needsToken", "(I)V"⟩, 42) := ⟨⟨by decide +kernel, by decide +kernel⟩, List.mem_of_getElem? (i := 1326) (by decide +kernel), List.mem_of_getElem? (i := 1583) (by decide +kernel), List.mem_of_getElem? (i := 1584) (by decide +kernel)⟩
theorem lw_p55 : lw_okq (⟨"NoseDrumModel", "isDrum", "()Z"⟩, 42) := ⟨⟨by decide +kernel, by decide +kernel⟩, List.mem_of_getElem? (i := 1326) (by decide +kernel), List.mem_of_getElem? (i := 1587) (by decide +kernel), List.mem_of_getElem? (i := 1588) (by decide +kernel)⟩
theorem lw_p56 : lw_okq (⟨"NoseDrumModel", "settles", "()V"⟩, 42) := ⟨⟨by decide +kernel, by decide +kernel⟩, List.mem_of_getElem? (i := 1326) (by decide +kernel), List.mem_of_getElem? (i := 1591) (by decide +kernel), List.mem_of_getElem? (i := 1592) (by decide +kernel)⟩
theorem lw_p57 : lw_okq (⟨"NoseDrumModel", "fillLifts", "()V"⟩, 42) := ⟨⟨by decide +kernel, by decide +kernel⟩, List.mem_of_getElem? (i := 1326) (by decide +kernel), List.mem_of_getElem? (i := 1595) (by decide +kernel), List.mem_of_getElem? (i := 1596) (by decide +kernel)⟩
theorem lw_p58 : lw_okq (⟨"NoseDrumModel", "fillProfiles", "()V"⟩, 42) := ⟨⟨by decide +kernel, by decide +kernel⟩, List.mem_of_getElem? (i := 1326) (by decide +kernel), List.mem_of_getElem? (i := 1599) (by decide +kernel), List.mem_of_getElem? (i := 1600) (by decide +kernel)⟩
theorem lw_p59 : lw_okq (⟨"NoseDrumModel", "profileBut", "(III)I"⟩, 42) := ⟨⟨by decide +kernel, by decide +kernel⟩, List.mem_of_getElem? (i := 1326) (by decide +kernel), List.mem_of_getElem? (i := 1603) (by decide +kernel), List.mem_of_getElem? (i := 1604) (by decide +kernel)⟩
theorem lw_p60 : lw_okq (⟨"NoseDrumModel", "ofNose", "(II)I"⟩, 42) := ⟨⟨by decide +kernel, by decide +kernel⟩, List.mem_of_getElem? (i := 1326) (by decide +kernel), List.mem_of_getElem? (i := 1607) (by decide +kernel), List.mem_of_getElem? (i := 1608) (by decide +kernel)⟩
theorem lw_p61 : lw_okq (⟨"NoseDrumModel", "heightOf", "(II)I"⟩, 42) := ⟨⟨by decide +kernel, by decide +kernel⟩, List.mem_of_getElem? (i := 1326) (by decide +kernel), List.mem_of_getElem? (i := 1611) (by decide +kernel), List.mem_of_getElem? (i := 1612) (by decide +kernel)⟩
theorem lw_p62 : lw_okq (⟨"NoseDrumModel", "round", "(I)I"⟩, 42) := ⟨⟨by decide +kernel, by decide +kernel⟩, List.mem_of_getElem? (i := 1326) (by decide +kernel), List.mem_of_getElem? (i := 1616) (by decide +kernel), List.mem_of_getElem? (i := 1617) (by decide +kernel)⟩
theorem lw_p63 : lw_okq (⟨"NoseDrumModel", "of", "(II)I"⟩, 42) := ⟨⟨by decide +kernel, by decide +kernel⟩, List.mem_of_getElem? (i := 1326) (by decide +kernel), List.mem_of_getElem? (i := 1620) (by decide +kernel), List.mem_of_getElem? (i := 1621) (by decide +kernel)⟩
def lw_privs_4 : List (MethodName × Nat) := [(⟨"NoseDrumModel", "number", "(II)I"⟩, 42), (⟨"NoseDrumModel", "readNext", "()V"⟩, 42), (⟨"NoseDrumModel", "sortOf", "()I"⟩, 42), (⟨"NoseDrumModel", "readNose", "()V"⟩, 42), (⟨"NoseDrumModel", "readPawl", "()V"⟩, 42), (⟨"NoseDrumModel", "readFollower", "(I)V"⟩, 42), (⟨"NoseDrumModel", "needsToken", "(I)V"⟩, 42), (⟨"NoseDrumModel", "isDrum", "()Z"⟩, 42), (⟨"NoseDrumModel", "settles", "()V"⟩, 42), (⟨"NoseDrumModel", "fillLifts", "()V"⟩, 42), (⟨"NoseDrumModel", "fillProfiles", "()V"⟩, 42), (⟨"NoseDrumModel", "profileBut", "(III)I"⟩, 42), (⟨"NoseDrumModel", "ofNose", "(II)I"⟩, 42), (⟨"NoseDrumModel", "heightOf", "(II)I"⟩, 42), (⟨"NoseDrumModel", "round", "(I)I"⟩, 42), (⟨"NoseDrumModel", "of", "(II)I"⟩, 42)]
theorem lw_r4 : ∀ q ∈ lw_privs_4, lw_okq q := List.forall_mem_cons.mpr ⟨lw_p48, List.forall_mem_cons.mpr ⟨lw_p49, List.forall_mem_cons.mpr ⟨lw_p50, List.forall_mem_cons.mpr ⟨lw_p51, List.forall_mem_cons.mpr ⟨lw_p52, List.forall_mem_cons.mpr ⟨lw_p53, List.forall_mem_cons.mpr ⟨lw_p54, List.forall_mem_cons.mpr ⟨lw_p55, List.forall_mem_cons.mpr ⟨lw_p56, List.forall_mem_cons.mpr ⟨lw_p57, List.forall_mem_cons.mpr ⟨lw_p58, List.forall_mem_cons.mpr ⟨lw_p59, List.forall_mem_cons.mpr ⟨lw_p60, List.forall_mem_cons.mpr ⟨lw_p61, List.forall_mem_cons.mpr ⟨lw_p62, List.forall_mem_cons.mpr ⟨lw_p63, fun _ h => absurd h List.not_mem_nil⟩⟩⟩⟩⟩⟩⟩⟩⟩⟩⟩⟩⟩⟩⟩⟩
theorem lw_p64 : lw_okq (⟨"NoseDrumModel", "leverOf", "(II)I"⟩, 42) := ⟨⟨by decide +kernel, by decide +kernel⟩, List.mem_of_getElem? (i := 1326) (by decide +kernel), List.mem_of_getElem? (i := 1624) (by decide +kernel), List.mem_of_getElem? (i := 1625) (by decide +kernel)⟩
theorem lw_p65 : lw_okq (⟨"NoseDrumModel", "liftBy", "(III)I"⟩, 42) := ⟨⟨by decide +kernel, by decide +kernel⟩, List.mem_of_getElem? (i := 1326) (by decide +kernel), List.mem_of_getElem? (i := 1628) (by decide +kernel), List.mem_of_getElem? (i := 1629) (by decide +kernel)⟩
theorem lw_p66 : lw_okq (⟨"NoseDrumModel", "posOf", "(I)I"⟩, 42) := ⟨⟨by decide +kernel, by decide +kernel⟩, List.mem_of_getElem? (i := 1326) (by decide +kernel), List.mem_of_getElem? (i := 1632) (by decide +kernel), List.mem_of_getElem? (i := 1633) (by decide +kernel)⟩
theorem lw_p67 : lw_okq (⟨"NoseDrumModel", "writes", "()V"⟩, 42) := ⟨⟨by decide +kernel, by decide +kernel⟩, List.mem_of_getElem? (i := 1326) (by decide +kernel), List.mem_of_getElem? (i := 1636) (by decide +kernel), List.mem_of_getElem? (i := 1637) (by decide +kernel)⟩
theorem lw_p68 : lw_okq (⟨"NoseDrumModel", "isTrack", "(I)Z"⟩, 42) := ⟨⟨by decide +kernel, by decide +kernel⟩, List.mem_of_getElem? (i := 1326) (by decide +kernel), List.mem_of_getElem? (i := 1644) (by decide +kernel), List.mem_of_getElem? (i := 1645) (by decide +kernel)⟩
theorem lw_p69 : lw_okq (⟨"NoseDrumModel", "isStep", "(I)Z"⟩, 42) := ⟨⟨by decide +kernel, by decide +kernel⟩, List.mem_of_getElem? (i := 1326) (by decide +kernel), List.mem_of_getElem? (i := 1648) (by decide +kernel), List.mem_of_getElem? (i := 1649) (by decide +kernel)⟩
theorem lw_p70 : lw_okq (⟨"NoseDrumModel", "isFollower", "(I)Z"⟩, 42) := ⟨⟨by decide +kernel, by decide +kernel⟩, List.mem_of_getElem? (i := 1326) (by decide +kernel), List.mem_of_getElem? (i := 1656) (by decide +kernel), List.mem_of_getElem? (i := 1657) (by decide +kernel)⟩
theorem lw_p71 : lw_okq (⟨"NoseDrumModel", "steps", "(I)Z"⟩, 42) := ⟨⟨by decide +kernel, by decide +kernel⟩, List.mem_of_getElem? (i := 1326) (by decide +kernel), List.mem_of_getElem? (i := 1680) (by decide +kernel), List.mem_of_getElem? (i := 1681) (by decide +kernel)⟩
theorem lw_p72 : lw_okq (⟨"NoseDrumModel", "jammerAt", "(I)I"⟩, 42) := ⟨⟨by decide +kernel, by decide +kernel⟩, List.mem_of_getElem? (i := 1326) (by decide +kernel), List.mem_of_getElem? (i := 1684) (by decide +kernel), List.mem_of_getElem? (i := 1685) (by decide +kernel)⟩
theorem lw_p73 : lw_okq (⟨"NoseDrumModel", "moves", "(I)V"⟩, 42) := ⟨⟨by decide +kernel, by decide +kernel⟩, List.mem_of_getElem? (i := 1326) (by decide +kernel), List.mem_of_getElem? (i := 1688) (by decide +kernel), List.mem_of_getElem? (i := 1689) (by decide +kernel)⟩
theorem lw_p74 : lw_okq (⟨"NoseDrumModel", "ofPawl", "(II)I"⟩, 42) := ⟨⟨by decide +kernel, by decide +kernel⟩, List.mem_of_getElem? (i := 1326) (by decide +kernel), List.mem_of_getElem? (i := 1692) (by decide +kernel), List.mem_of_getElem? (i := 1693) (by decide +kernel)⟩
theorem lw_p75 : lw_okq (⟨"NoseDrumModel", "secondOf", "(J)I"⟩, 42) := ⟨⟨by decide +kernel, by decide +kernel⟩, List.mem_of_getElem? (i := 1326) (by decide +kernel), List.mem_of_getElem? (i := 1705) (by decide +kernel), List.mem_of_getElem? (i := 1706) (by decide +kernel)⟩
theorem lw_p76 : lw_okq (⟨"NoseDrumModel", "isPawl", "(I)Z"⟩, 42) := ⟨⟨by decide +kernel, by decide +kernel⟩, List.mem_of_getElem? (i := 1326) (by decide +kernel), List.mem_of_getElem? (i := 1713) (by decide +kernel), List.mem_of_getElem? (i := 1714) (by decide +kernel)⟩
theorem lw_p77 : lw_okq (⟨"NoseDrumModel", "fillSteady", "()V"⟩, 42) := ⟨⟨by decide +kernel, by decide +kernel⟩, List.mem_of_getElem? (i := 1326) (by decide +kernel), List.mem_of_getElem? (i := 1721) (by decide +kernel), List.mem_of_getElem? (i := 1722) (by decide +kernel)⟩
theorem lw_p78 : lw_okq (⟨"NoseDrumModel", "steadyAt", "(II)I"⟩, 42) := ⟨⟨by decide +kernel, by decide +kernel⟩, List.mem_of_getElem? (i := 1326) (by decide +kernel), List.mem_of_getElem? (i := 1725) (by decide +kernel), List.mem_of_getElem? (i := 1726) (by decide +kernel)⟩
theorem lw_p79 : lw_okq (⟨"NoseDrumModel", "steadyOf", "(II)I"⟩, 42) := ⟨⟨by decide +kernel, by decide +kernel⟩, List.mem_of_getElem? (i := 1326) (by decide +kernel), List.mem_of_getElem? (i := 1729) (by decide +kernel), List.mem_of_getElem? (i := 1730) (by decide +kernel)⟩
def lw_privs_5 : List (MethodName × Nat) := [(⟨"NoseDrumModel", "leverOf", "(II)I"⟩, 42), (⟨"NoseDrumModel", "liftBy", "(III)I"⟩, 42), (⟨"NoseDrumModel", "posOf", "(I)I"⟩, 42), (⟨"NoseDrumModel", "writes", "()V"⟩, 42), (⟨"NoseDrumModel", "isTrack", "(I)Z"⟩, 42), (⟨"NoseDrumModel", "isStep", "(I)Z"⟩, 42), (⟨"NoseDrumModel", "isFollower", "(I)Z"⟩, 42), (⟨"NoseDrumModel", "steps", "(I)Z"⟩, 42), (⟨"NoseDrumModel", "jammerAt", "(I)I"⟩, 42), (⟨"NoseDrumModel", "moves", "(I)V"⟩, 42), (⟨"NoseDrumModel", "ofPawl", "(II)I"⟩, 42), (⟨"NoseDrumModel", "secondOf", "(J)I"⟩, 42), (⟨"NoseDrumModel", "isPawl", "(I)Z"⟩, 42), (⟨"NoseDrumModel", "fillSteady", "()V"⟩, 42), (⟨"NoseDrumModel", "steadyAt", "(II)I"⟩, 42), (⟨"NoseDrumModel", "steadyOf", "(II)I"⟩, 42)]
theorem lw_r5 : ∀ q ∈ lw_privs_5, lw_okq q := List.forall_mem_cons.mpr ⟨lw_p64, List.forall_mem_cons.mpr ⟨lw_p65, List.forall_mem_cons.mpr ⟨lw_p66, List.forall_mem_cons.mpr ⟨lw_p67, List.forall_mem_cons.mpr ⟨lw_p68, List.forall_mem_cons.mpr ⟨lw_p69, List.forall_mem_cons.mpr ⟨lw_p70, List.forall_mem_cons.mpr ⟨lw_p71, List.forall_mem_cons.mpr ⟨lw_p72, List.forall_mem_cons.mpr ⟨lw_p73, List.forall_mem_cons.mpr ⟨lw_p74, List.forall_mem_cons.mpr ⟨lw_p75, List.forall_mem_cons.mpr ⟨lw_p76, List.forall_mem_cons.mpr ⟨lw_p77, List.forall_mem_cons.mpr ⟨lw_p78, List.forall_mem_cons.mpr ⟨lw_p79, fun _ h => absurd h List.not_mem_nil⟩⟩⟩⟩⟩⟩⟩⟩⟩⟩⟩⟩⟩⟩⟩⟩
theorem lw_p80 : lw_okq (⟨"NoseDrumModel", "clicksOf", "(I)I"⟩, 42) := ⟨⟨by decide +kernel, by decide +kernel⟩, List.mem_of_getElem? (i := 1326) (by decide +kernel), List.mem_of_getElem? (i := 1749) (by decide +kernel), List.mem_of_getElem? (i := 1750) (by decide +kernel)⟩
theorem lw_p81 : lw_okq (⟨"NoseDrumModel", "isSame", "(I)Z"⟩, 42) := ⟨⟨by decide +kernel, by decide +kernel⟩, List.mem_of_getElem? (i := 1326) (by decide +kernel), List.mem_of_getElem? (i := 1757) (by decide +kernel), List.mem_of_getElem? (i := 1758) (by decide +kernel)⟩
theorem lw_p82 : lw_okq (⟨"NoseDrumModel", "isNose", "(I)Z"⟩, 42) := ⟨⟨by decide +kernel, by decide +kernel⟩, List.mem_of_getElem? (i := 1326) (by decide +kernel), List.mem_of_getElem? (i := 1765) (by decide +kernel), List.mem_of_getElem? (i := 1766) (by decide +kernel)⟩
theorem lw_p83 : lw_okq (⟨"NoseDrumModel", "setNose", "(III)V"⟩, 42) := ⟨⟨by decide +kernel, by decide +kernel⟩, List.mem_of_getElem? (i := 1326) (by decide +kernel), List.mem_of_getElem? (i := 1769) (by decide +kernel), List.mem_of_getElem? (i := 1770) (by decide +kernel)⟩
theorem lw_p84 : lw_okq (⟨"NoseDrumModel", "readAct", "()V"⟩, 42) := ⟨⟨by decide +kernel, by decide +kernel⟩, List.mem_of_getElem? (i := 1326) (by decide +kernel), List.mem_of_getElem? (i := 1794) (by decide +kernel), List.mem_of_getElem? (i := 1795) (by decide +kernel)⟩
theorem lw_p85 : lw_okq (⟨"NoseDrumModel", "closes", "()V"⟩, 42) := ⟨⟨by decide +kernel, by decide +kernel⟩, List.mem_of_getElem? (i := 1326) (by decide +kernel), List.mem_of_getElem? (i := 1798) (by decide +kernel), List.mem_of_getElem? (i := 1799) (by decide +kernel)⟩
theorem lw_p86 : lw_okq (⟨"NoseDrumModel", "adds", "(III)V"⟩, 42) := ⟨⟨by decide +kernel, by decide +kernel⟩, List.mem_of_getElem? (i := 1326) (by decide +kernel), List.mem_of_getElem? (i := 1802) (by decide +kernel), List.mem_of_getElem? (i := 1803) (by decide +kernel)⟩
theorem lw_p87 : lw_okq (⟨"NoseDrumModel", "opens", "()V"⟩, 42) := ⟨⟨by decide +kernel, by decide +kernel⟩, List.mem_of_getElem? (i := 1326) (by decide +kernel), List.mem_of_getElem? (i := 1810) (by decide +kernel), List.mem_of_getElem? (i := 1811) (by decide +kernel)⟩
theorem lw_p88 : lw_okq (⟨"NoseDrumModel", "does", "(I)I"⟩, 42) := ⟨⟨by decide +kernel, by decide +kernel⟩, List.mem_of_getElem? (i := 1326) (by decide +kernel), List.mem_of_getElem? (i := 1816) (by decide +kernel), List.mem_of_getElem? (i := 1817) (by decide +kernel)⟩
theorem lw_p89 : lw_okq (⟨"NoseDrumModel", "climbs", "(I)V"⟩, 42) := ⟨⟨by decide +kernel, by decide +kernel⟩, List.mem_of_getElem? (i := 1326) (by decide +kernel), List.mem_of_getElem? (i := 1820) (by decide +kernel), List.mem_of_getElem? (i := 1821) (by decide +kernel)⟩
theorem lw_p90 : lw_okq (⟨"NoseDrumModel", "ends", "(II)I"⟩, 42) := ⟨⟨by decide +kernel, by decide +kernel⟩, List.mem_of_getElem? (i := 1326) (by decide +kernel), List.mem_of_getElem? (i := 1824) (by decide +kernel), List.mem_of_getElem? (i := 1825) (by decide +kernel)⟩
theorem lw_p91 : lw_okq (⟨"NoseDrumModel", "rowOf", "(I)I"⟩, 42) := ⟨⟨by decide +kernel, by decide +kernel⟩, List.mem_of_getElem? (i := 1326) (by decide +kernel), List.mem_of_getElem? (i := 1832) (by decide +kernel), List.mem_of_getElem? (i := 1833) (by decide +kernel)⟩
theorem lw_p92 : lw_okq (⟨"NoseDrumModel", "isCut", "(II)Z"⟩, 42) := ⟨⟨by decide +kernel, by decide +kernel⟩, List.mem_of_getElem? (i := 1326) (by decide +kernel), List.mem_of_getElem? (i := 1840) (by decide +kernel), List.mem_of_getElem? (i := 1841) (by decide +kernel)⟩
theorem lw_p93 : lw_okq (⟨"NoseDrumModel", "cutOf", "(III)I"⟩, 42) := ⟨⟨by decide +kernel, by decide +kernel⟩, List.mem_of_getElem? (i := 1326) (by decide +kernel), List.mem_of_getElem? (i := 1845) (by decide +kernel), List.mem_of_getElem? (i := 1846) (by decide +kernel)⟩
theorem lw_p94 : lw_okq (⟨"NoseDrumModel", "failsAt", "(II)I"⟩, 42) := ⟨⟨by decide +kernel, by decide +kernel⟩, List.mem_of_getElem? (i := 1326) (by decide +kernel), List.mem_of_getElem? (i := 1853) (by decide +kernel), List.mem_of_getElem? (i := 1854) (by decide +kernel)⟩
theorem lw_p95 : lw_okq (⟨"NoseDrumModel", "awayBy", "(II)I"⟩, 42) := ⟨⟨by decide +kernel, by decide +kernel⟩, List.mem_of_getElem? (i := 1326) (by decide +kernel), List.mem_of_getElem? (i := 1873) (by decide +kernel), List.mem_of_getElem? (i := 1874) (by decide +kernel)⟩
def lw_privs_6 : List (MethodName × Nat) := [(⟨"NoseDrumModel", "clicksOf", "(I)I"⟩, 42), (⟨"NoseDrumModel", "isSame", "(I)Z"⟩, 42), (⟨"NoseDrumModel", "isNose", "(I)Z"⟩, 42), (⟨"NoseDrumModel", "setNose", "(III)V"⟩, 42), (⟨"NoseDrumModel", "readAct", "()V"⟩, 42), (⟨"NoseDrumModel", "closes", "()V"⟩, 42), (⟨"NoseDrumModel", "adds", "(III)V"⟩, 42), (⟨"NoseDrumModel", "opens", "()V"⟩, 42), (⟨"NoseDrumModel", "does", "(I)I"⟩, 42), (⟨"NoseDrumModel", "climbs", "(I)V"⟩, 42), (⟨"NoseDrumModel", "ends", "(II)I"⟩, 42), (⟨"NoseDrumModel", "rowOf", "(I)I"⟩, 42), (⟨"NoseDrumModel", "isCut", "(II)Z"⟩, 42), (⟨"NoseDrumModel", "cutOf", "(III)I"⟩, 42), (⟨"NoseDrumModel", "failsAt", "(II)I"⟩, 42), (⟨"NoseDrumModel", "awayBy", "(II)I"⟩, 42)]
theorem lw_r6 : ∀ q ∈ lw_privs_6, lw_okq q := List.forall_mem_cons.mpr ⟨lw_p80, List.forall_mem_cons.mpr ⟨lw_p81, List.forall_mem_cons.mpr ⟨lw_p82, List.forall_mem_cons.mpr ⟨lw_p83, List.forall_mem_cons.mpr ⟨lw_p84, List.forall_mem_cons.mpr ⟨lw_p85, List.forall_mem_cons.mpr ⟨lw_p86, List.forall_mem_cons.mpr ⟨lw_p87, List.forall_mem_cons.mpr ⟨lw_p88, List.forall_mem_cons.mpr ⟨lw_p89, List.forall_mem_cons.mpr ⟨lw_p90, List.forall_mem_cons.mpr ⟨lw_p91, List.forall_mem_cons.mpr ⟨lw_p92, List.forall_mem_cons.mpr ⟨lw_p93, List.forall_mem_cons.mpr ⟨lw_p94, List.forall_mem_cons.mpr ⟨lw_p95, fun _ h => absurd h List.not_mem_nil⟩⟩⟩⟩⟩⟩⟩⟩⟩⟩⟩⟩⟩⟩⟩⟩
theorem lw_p96 : lw_okq (⟨"NoseDrumModel", "asksMotions", "(I)I"⟩, 42) := ⟨⟨by decide +kernel, by decide +kernel⟩, List.mem_of_getElem? (i := 1326) (by decide +kernel), List.mem_of_getElem? (i := 1885) (by decide +kernel), List.mem_of_getElem? (i := 1886) (by decide +kernel)⟩
theorem lw_p97 : lw_okq (⟨"NoseDrumModel", "fillFew", "(I)V"⟩, 42) := ⟨⟨by decide +kernel, by decide +kernel⟩, List.mem_of_getElem? (i := 1326) (by decide +kernel), List.mem_of_getElem? (i := 1893) (by decide +kernel), List.mem_of_getElem? (i := 1894) (by decide +kernel)⟩
theorem lw_p98 : lw_okq (⟨"NoseDrumModel", "canRest", "(III)Z"⟩, 42) := ⟨⟨by decide +kernel, by decide +kernel⟩, List.mem_of_getElem? (i := 1326) (by decide +kernel), List.mem_of_getElem? (i := 1901) (by decide +kernel), List.mem_of_getElem? (i := 1902) (by decide +kernel)⟩
theorem lw_p99 : lw_okq (⟨"NoseDrumModel", "heardOf", "(II)J"⟩, 42) := ⟨⟨by decide +kernel, by decide +kernel⟩, List.mem_of_getElem? (i := 1326) (by decide +kernel), List.mem_of_getElem? (i := 1914) (by decide +kernel), List.mem_of_getElem? (i := 1915) (by decide +kernel)⟩
theorem lw_p100 : lw_okq (⟨"NoseDrumModel", "asksHeard", "(III)I"⟩, 42) := ⟨⟨by decide +kernel, by decide +kernel⟩, List.mem_of_getElem? (i := 1326) (by decide +kernel), List.mem_of_getElem? (i := 1923) (by decide +kernel), List.mem_of_getElem? (i := 1924) (by decide +kernel)⟩
theorem lw_p101 : lw_okq (⟨"NoseDrumModel", "rowSet", "(I)J"⟩, 42) := ⟨⟨by decide +kernel, by decide +kernel⟩, List.mem_of_getElem? (i := 1326) (by decide +kernel), List.mem_of_getElem? (i := 1927) (by decide +kernel), List.mem_of_getElem? (i := 1928) (by decide +kernel)⟩
theorem lw_p102 : lw_okq (⟨"NoseDrumModel", "fillFits", "(IIJ)V"⟩, 42) := ⟨⟨by decide +kernel, by decide +kernel⟩, List.mem_of_getElem? (i := 1326) (by decide +kernel), List.mem_of_getElem? (i := 1931) (by decide +kernel), List.mem_of_getElem? (i := 1932) (by decide +kernel)⟩
theorem lw_p103 : lw_okq (⟨"NoseDrumModel", "wholes", "()V"⟩, 42) := ⟨⟨by decide +kernel, by decide +kernel⟩, List.mem_of_getElem? (i := 1326) (by decide +kernel), List.mem_of_getElem? (i := 1935) (by decide +kernel), List.mem_of_getElem? (i := 1936) (by decide +kernel)⟩
theorem lw_p104 : lw_okq (⟨"NoseDrumModel", "isYears", "(III)Z"⟩, 42) := ⟨⟨by decide +kernel, by decide +kernel⟩, List.mem_of_getElem? (i := 1326) (by decide +kernel), List.mem_of_getElem? (i := 1951) (by decide +kernel), List.mem_of_getElem? (i := 1952) (by decide +kernel)⟩
theorem lw_p105 : lw_okq (⟨"NoseDrumModel", "year", "(I)I"⟩, 42) := ⟨⟨by decide +kernel, by decide +kernel⟩, List.mem_of_getElem? (i := 1326) (by decide +kernel), List.mem_of_getElem? (i := 1957) (by decide +kernel), List.mem_of_getElem? (i := 1958) (by decide +kernel)⟩
theorem lw_p106 : lw_okq (⟨"NoseDrumModel", "draw", "()I"⟩, 42) := ⟨⟨by decide +kernel, by decide +kernel⟩, List.mem_of_getElem? (i := 1326) (by decide +kernel), List.mem_of_getElem? (i := 1961) (by decide +kernel), List.mem_of_getElem? (i := 1962) (by decide +kernel)⟩
def lw_privs_7 : List (MethodName × Nat) := [(⟨"NoseDrumModel", "asksMotions", "(I)I"⟩, 42), (⟨"NoseDrumModel", "fillFew", "(I)V"⟩, 42), (⟨"NoseDrumModel", "canRest", "(III)Z"⟩, 42), (⟨"NoseDrumModel", "heardOf", "(II)J"⟩, 42), (⟨"NoseDrumModel", "asksHeard", "(III)I"⟩, 42), (⟨"NoseDrumModel", "rowSet", "(I)J"⟩, 42), (⟨"NoseDrumModel", "fillFits", "(IIJ)V"⟩, 42), (⟨"NoseDrumModel", "wholes", "()V"⟩, 42), (⟨"NoseDrumModel", "isYears", "(III)Z"⟩, 42), (⟨"NoseDrumModel", "year", "(I)I"⟩, 42), (⟨"NoseDrumModel", "draw", "()I"⟩, 42)]
theorem lw_r7 : ∀ q ∈ lw_privs_7, lw_okq q := List.forall_mem_cons.mpr ⟨lw_p96, List.forall_mem_cons.mpr ⟨lw_p97, List.forall_mem_cons.mpr ⟨lw_p98, List.forall_mem_cons.mpr ⟨lw_p99, List.forall_mem_cons.mpr ⟨lw_p100, List.forall_mem_cons.mpr ⟨lw_p101, List.forall_mem_cons.mpr ⟨lw_p102, List.forall_mem_cons.mpr ⟨lw_p103, List.forall_mem_cons.mpr ⟨lw_p104, List.forall_mem_cons.mpr ⟨lw_p105, List.forall_mem_cons.mpr ⟨lw_p106, fun _ h => absurd h List.not_mem_nil⟩⟩⟩⟩⟩⟩⟩⟩⟩⟩⟩
def lw_privs : List (MethodName × Nat) := lw_privs_1 ++ (lw_privs_2 ++ (lw_privs_3 ++ (lw_privs_4 ++ (lw_privs_5 ++ (lw_privs_6 ++ (lw_privs_7))))))
def lw_tbl : List Cond := k2_sels lw_privs ++ tables_1
theorem lw_privs_ok : ∀ q ∈ lw_privs, lw_okq q := by
  show ∀ q ∈ lw_privs_1 ++ (lw_privs_2 ++ (lw_privs_3 ++ (lw_privs_4 ++ (lw_privs_5 ++ (lw_privs_6 ++ (lw_privs_7)))))), lw_okq q
  exact List.forall_mem_append.mpr ⟨lw_r1, List.forall_mem_append.mpr ⟨lw_r2, List.forall_mem_append.mpr ⟨lw_r3, List.forall_mem_append.mpr ⟨lw_r4, List.forall_mem_append.mpr ⟨lw_r5, List.forall_mem_append.mpr ⟨lw_r6, lw_r7⟩⟩⟩⟩⟩⟩
end
section
def RX0 : String := "NoseDrum$Curves"
def TX0 : u_T := fun k => match k with
  | 0 => ("NoseDrum$Curves", "heights", "[I", true)
  | 1 => ("NoseDrum$Curves", "worn", "[I", true)
  | 2 => ("NoseDrum$Curves", "profile", "[I", true)
  | 3 => ("NoseDrum$Curves", "lift", "[I", true)
  | 4 => ("NoseDrum$Curves", "pos", "[I", true)
  | 5 => ("NoseDrum$Curves", "clicks", "[I", true)
  | _ => ("NoseDrum$Curves", "lifts", "[[I", true)
def tyX0 : Nat → FieldType := fun k => match k with
  | 0 => .array .int
  | 1 => .array .int
  | 2 => .array .int
  | 3 => .array .int
  | 4 => .array .int
  | 5 => .array .int
  | _ => .array (.array .int)
abbrev wsX00 : List Cond := u_ws RX0 TX0 7
theorem nmX0 : ∀ a, a < 7 → ∀ b, b < 7 → a ≠ b → (TX0 a).2.1 ≠ (TX0 b).2.1 := by decide +kernel
theorem tyX0_ok : ∀ k, k < 7 → parseFieldDescriptor (TX0 k).2.2.1 = some (tyX0 k) := by decide +kernel
abbrev cX0_init : ByteArray := prog_2_method_1_code
def yX0_init : MethodName := ⟨RX0, "<init>", "()V"⟩
abbrev cX0_takeHeights : ByteArray := prog_2_method_2_code
def yX0_takeHeights : MethodName := ⟨RX0, "takeHeights", "(LNoseDrum$Noses;[I)V"⟩
abbrev cX0_takeToldHeights : ByteArray := prog_2_method_3_code
def yX0_takeToldHeights : MethodName := ⟨RX0, "takeToldHeights", "(LNoseDrum$Noses;)V"⟩
abbrev cX0_fillProfileAsNow : ByteArray := prog_2_method_4_code
def yX0_fillProfileAsNow : MethodName := ⟨RX0, "fillProfileAsNow", "(LNoseDrum$Machine;I)V"⟩
abbrev cX0_fillProfile : ByteArray := prog_2_method_5_code
def yX0_fillProfile : MethodName := ⟨RX0, "fillProfile", "(LNoseDrum$Machine;I)V"⟩
abbrev cX0_clearProfile : ByteArray := prog_2_method_6_code
def yX0_clearProfile : MethodName := ⟨RX0, "clearProfile", "(LNoseDrum$Machine;)V"⟩
abbrev cX0_raiseProfile : ByteArray := prog_2_method_7_code
def yX0_raiseProfile : MethodName := ⟨RX0, "raiseProfile", "(LNoseDrum$Machine;I)V"⟩
abbrev cX0_doMeet : ByteArray := prog_2_method_8_code
def yX0_doMeet : MethodName := ⟨RX0, "doMeet", "(LNoseDrum$Machine;II)Z"⟩
abbrev cX0_isSpare : ByteArray := prog_2_method_9_code
def yX0_isSpare : MethodName := ⟨RX0, "isSpare", "(LNoseDrum$Machine;I)Z"⟩
abbrev cX0_spread : ByteArray := prog_2_method_10_code
def yX0_spread : MethodName := ⟨RX0, "spread", "(LNoseDrum$Machine;II)V"⟩
abbrev cX0_fillCut : ByteArray := prog_2_method_11_code
def yX0_fillCut : MethodName := ⟨RX0, "fillCut", "(LNoseDrum$Machine;II)V"⟩
abbrev cX0_fillAsNow : ByteArray := prog_2_method_12_code
def yX0_fillAsNow : MethodName := ⟨RX0, "fillAsNow", "(LNoseDrum$Machine;I)V"⟩
abbrev cX0_fill : ByteArray := prog_2_method_13_code
def yX0_fill : MethodName := ⟨RX0, "fill", "(LNoseDrum$Machine;I)V"⟩
abbrev cX0_settle : ByteArray := prog_2_method_14_code
def yX0_settle : MethodName := ⟨RX0, "settle", "(LNoseDrum$Machine;I)V"⟩
abbrev cX0_passLever : ByteArray := prog_2_method_15_code
def yX0_passLever : MethodName := ⟨RX0, "passLever", "(LNoseDrum$Machine;I)V"⟩
abbrev cX0_fillTable : ByteArray := prog_2_method_16_code
def yX0_fillTable : MethodName := ⟨RX0, "fillTable", "(LNoseDrum$Machine;)V"⟩
abbrev cX0_liftAt : ByteArray := prog_2_method_17_code
def yX0_liftAt : MethodName := ⟨RX0, "liftAt", "(II)I"⟩
abbrev cX0_risenInTurn : ByteArray := prog_2_method_18_code
def yX0_risenInTurn : MethodName := ⟨RX0, "risenInTurn", "(LNoseDrum$Machine;)I"⟩
abbrev cX0_clicksInTurn : ByteArray := prog_2_method_19_code
def yX0_clicksInTurn : MethodName := ⟨RX0, "clicksInTurn", "(LNoseDrum$Machine;I)I"⟩
abbrev cX0_bitsHeard : ByteArray := prog_2_method_20_code
def yX0_bitsHeard : MethodName := ⟨RX0, "bitsHeard", "(LNoseDrum$Machine;I)J"⟩
abbrev cX0_awayBy : ByteArray := prog_2_method_21_code
def yX0_awayBy : MethodName := ⟨RX0, "awayBy", "(LNoseDrum$Machine;I)I"⟩
abbrev cX0_leastAway : ByteArray := prog_2_method_22_code
def yX0_leastAway : MethodName := ⟨RX0, "leastAway", "(LNoseDrum$Machine;)I"⟩
def RX1 : String := "NoseDrum$Followers"
def TX1 : u_T := fun k => match k with
  | 0 => ("NoseDrum$Followers", "count", "I", false)
  | 1 => ("NoseDrum$Followers", "sort", "[I", true)
  | 2 => ("NoseDrum$Followers", "on", "[I", true)
  | 3 => ("NoseDrum$Followers", "first", "[I", true)
  | 4 => ("NoseDrum$Followers", "second", "[I", true)
  | 5 => ("NoseDrum$Followers", "spring", "[I", true)
  | 6 => ("NoseDrum$Followers", "lag", "[I", true)
  | 7 => ("NoseDrum$Followers", "pos", "[I", true)
  | 8 => ("NoseDrum$Followers", "was", "[I", true)
  | _ => ("NoseDrum$Followers", "past", "[I", true)
def tyX1 : Nat → FieldType := fun k => match k with
  | 0 => .int
  | 1 => .array .int
  | 2 => .array .int
  | 3 => .array .int
  | 4 => .array .int
  | 5 => .array .int
  | 6 => .array .int
  | 7 => .array .int
  | 8 => .array .int
  | _ => .array .int
abbrev wsX10 : List Cond := u_ws RX1 TX1 10
theorem nmX1 : ∀ a, a < 10 → ∀ b, b < 10 → a ≠ b → (TX1 a).2.1 ≠ (TX1 b).2.1 := by decide +kernel
theorem tyX1_ok : ∀ k, k < 10 → parseFieldDescriptor (TX1 k).2.2.1 = some (tyX1 k) := by decide +kernel
abbrev cX1_init : ByteArray := prog_3_method_1_code
def yX1_init : MethodName := ⟨RX1, "<init>", "()V"⟩
abbrev cX1_readLine : ByteArray := prog_3_method_2_code
def yX1_readLine : MethodName := ⟨RX1, "readLine", "(LNoseDrum$Tape;I)V"⟩
abbrev cX1_sortHere : ByteArray := prog_3_method_3_code
def yX1_sortHere : MethodName := ⟨RX1, "sortHere", "(LNoseDrum$Tape;)I"⟩
abbrev cX1_readSprung : ByteArray := prog_3_method_4_code
def yX1_readSprung : MethodName := ⟨RX1, "readSprung", "(LNoseDrum$Tape;II)V"⟩
abbrev cX1_readLever : ByteArray := prog_3_method_5_code
def yX1_readLever : MethodName := ⟨RX1, "readLever", "(LNoseDrum$Tape;)V"⟩
abbrev cX1_copyFrom : ByteArray := prog_3_method_6_code
def yX1_copyFrom : MethodName := ⟨RX1, "copyFrom", "(LNoseDrum$Followers;)V"⟩
abbrev cX1_rootOf : ByteArray := prog_3_method_7_code
def yX1_rootOf : MethodName := ⟨RX1, "rootOf", "(I)I"⟩
abbrev cX1_leversOf : ByteArray := prog_3_method_8_code
def yX1_leversOf : MethodName := ⟨RX1, "leversOf", "(I)I"⟩
abbrev cX1_below : ByteArray := prog_3_method_9_code
def yX1_below : MethodName := ⟨RX1, "below", "(I)I"⟩
abbrev cX1_leverOver : ByteArray := prog_3_method_10_code
def yX1_leverOver : MethodName := ⟨RX1, "leverOver", "(II)I"⟩
abbrev cX1_begin : ByteArray := prog_3_method_11_code
def yX1_begin : MethodName := ⟨RX1, "begin", "(LNoseDrum$Curves;)V"⟩
abbrev cX1_firstJammed : ByteArray := prog_3_method_12_code
def yX1_firstJammed : MethodName := ⟨RX1, "firstJammed", "(LNoseDrum$Curves;II)I"⟩
abbrev cX1_moveTo : ByteArray := prog_3_method_13_code
def yX1_moveTo : MethodName := ⟨RX1, "moveTo", "(LNoseDrum$Curves;II)I"⟩
abbrev cX1_movedOf : ByteArray := prog_3_method_14_code
def yX1_movedOf : MethodName := ⟨RX1, "movedOf", "(II)I"⟩
def RX2 : String := "NoseDrum$Machine"
def TX2 : u_T := fun k => match k with
  | 0 => ("NoseDrum$Machine", "steps", "I", false)
  | 1 => ("NoseDrum$Machine", "jam", "I", false)
  | 2 => ("NoseDrum$Machine", "slack", "I", false)
  | 3 => ("NoseDrum$Machine", "tracks", "I", false)
  | 4 => ("NoseDrum$Machine", "lines", "I", false)
  | 5 => ("NoseDrum$Machine", "hasMotion", "Z", false)
  | 6 => ("NoseDrum$Machine", "gearFirst", "I", false)
  | 7 => ("NoseDrum$Machine", "gearSecond", "I", false)
  | 8 => ("NoseDrum$Machine", "gearTold", "Z", false)
  | 9 => ("NoseDrum$Machine", "noses", "LNoseDrum$Noses;", true)
  | 10 => ("NoseDrum$Machine", "followers", "LNoseDrum$Followers;", true)
  | 11 => ("NoseDrum$Machine", "pawls", "LNoseDrum$Pawls;", true)
  | 12 => ("NoseDrum$Machine", "shaft", "LNoseDrum$Shaft;", true)
  | _ => ("NoseDrum$Machine", "row", "[I", true)
def tyX2 : Nat → FieldType := fun k => match k with
  | 0 => .int
  | 1 => .int
  | 2 => .int
  | 3 => .int
  | 4 => .int
  | 5 => .boolean
  | 6 => .int
  | 7 => .int
  | 8 => .boolean
  | 9 => .object "NoseDrum$Noses"
  | 10 => .object "NoseDrum$Followers"
  | 11 => .object "NoseDrum$Pawls"
  | 12 => .object "NoseDrum$Shaft"
  | _ => .array .int
abbrev wsX20 : List Cond := u_ws RX2 TX2 14
theorem nmX2 : ∀ a, a < 14 → ∀ b, b < 14 → a ≠ b → (TX2 a).2.1 ≠ (TX2 b).2.1 := by decide +kernel
theorem tyX2_ok : ∀ k, k < 14 → parseFieldDescriptor (TX2 k).2.2.1 = some (tyX2 k) := by decide +kernel
abbrev cX2_init : ByteArray := prog_4_method_1_code
def yX2_init : MethodName := ⟨RX2, "<init>", "()V"⟩
abbrev cX2_isTold : ByteArray := prog_4_method_2_code
def yX2_isTold : MethodName := ⟨RX2, "isTold", "()Z"⟩
abbrev cX2_hasTrack : ByteArray := prog_4_method_3_code
def yX2_hasTrack : MethodName := ⟨RX2, "hasTrack", "(I)Z"⟩
abbrev cX2_hasStep : ByteArray := prog_4_method_4_code
def yX2_hasStep : MethodName := ⟨RX2, "hasStep", "(I)Z"⟩
abbrev cX2_hasNose : ByteArray := prog_4_method_5_code
def yX2_hasNose : MethodName := ⟨RX2, "hasNose", "(I)Z"⟩
abbrev cX2_hasFollower : ByteArray := prog_4_method_6_code
def yX2_hasFollower : MethodName := ⟨RX2, "hasFollower", "(I)Z"⟩
abbrev cX2_hasPawl : ByteArray := prog_4_method_7_code
def yX2_hasPawl : MethodName := ⟨RX2, "hasPawl", "(I)Z"⟩
abbrev cX2_round : ByteArray := prog_4_method_8_code
def yX2_round : MethodName := ⟨RX2, "round", "(I)I"⟩
abbrev cX2_secondStep : ByteArray := prog_4_method_9_code
def yX2_secondStep : MethodName := ⟨RX2, "secondStep", "(I)I"⟩
abbrev cX2_clear : ByteArray := prog_4_method_10_code
def yX2_clear : MethodName := ⟨RX2, "clear", "()V"⟩
abbrev cX2_copyFrom : ByteArray := prog_4_method_11_code
def yX2_copyFrom : MethodName := ⟨RX2, "copyFrom", "(LNoseDrum$Machine;)V"⟩
abbrev cX2_readFrom : ByteArray := prog_4_method_12_code
def yX2_readFrom : MethodName := ⟨RX2, "readFrom", "(LNoseDrum$Tape;)V"⟩
abbrev cX2_readLine : ByteArray := prog_4_method_13_code
def yX2_readLine : MethodName := ⟨RX2, "readLine", "(LNoseDrum$Tape;)V"⟩
abbrev cX2_readDrumLine : ByteArray := prog_4_method_14_code
def yX2_readDrumLine : MethodName := ⟨RX2, "readDrumLine", "(LNoseDrum$Tape;)V"⟩
abbrev cX2_readTrackLine : ByteArray := prog_4_method_15_code
def yX2_readTrackLine : MethodName := ⟨RX2, "readTrackLine", "(LNoseDrum$Tape;)V"⟩
abbrev cX2_readGearLine : ByteArray := prog_4_method_16_code
def yX2_readGearLine : MethodName := ⟨RX2, "readGearLine", "(LNoseDrum$Tape;)V"⟩
abbrev cX2_begin : ByteArray := prog_4_method_17_code
def yX2_begin : MethodName := ⟨RX2, "begin", "(LNoseDrum$Curves;)V"⟩
abbrev cX2_takeStep : ByteArray := prog_4_method_18_code
def yX2_takeStep : MethodName := ⟨RX2, "takeStep", "(ILNoseDrum$Curves;)Z"⟩
def RX3 : String := "NoseDrum$Noses"
def TX3 : u_T := fun k => match k with
  | 0 => ("NoseDrum$Noses", "count", "I", false)
  | 1 => ("NoseDrum$Noses", "track", "[I", true)
  | 2 => ("NoseDrum$Noses", "at", "[I", true)
  | 3 => ("NoseDrum$Noses", "wide", "[I", true)
  | 4 => ("NoseDrum$Noses", "high", "[I", true)
  | 5 => ("NoseDrum$Noses", "steep", "[I", true)
  | 6 => ("NoseDrum$Noses", "worn", "[I", true)
  | _ => ("NoseDrum$Noses", "broken", "[Z", true)
def tyX3 : Nat → FieldType := fun k => match k with
  | 0 => .int
  | 1 => .array .int
  | 2 => .array .int
  | 3 => .array .int
  | 4 => .array .int
  | 5 => .array .int
  | 6 => .array .int
  | _ => .array .boolean
abbrev wsX30 : List Cond := u_ws RX3 TX3 8
theorem nmX3 : ∀ a, a < 8 → ∀ b, b < 8 → a ≠ b → (TX3 a).2.1 ≠ (TX3 b).2.1 := by decide +kernel
theorem tyX3_ok : ∀ k, k < 8 → parseFieldDescriptor (TX3 k).2.2.1 = some (tyX3 k) := by decide +kernel
abbrev cX3_init : ByteArray := prog_5_method_1_code
def yX3_init : MethodName := ⟨RX3, "<init>", "()V"⟩
abbrev cX3_readLine : ByteArray := prog_5_method_2_code
def yX3_readLine : MethodName := ⟨RX3, "readLine", "(LNoseDrum$Tape;II)V"⟩
abbrev cX3_copyFrom : ByteArray := prog_5_method_3_code
def yX3_copyFrom : MethodName := ⟨RX3, "copyFrom", "(LNoseDrum$Noses;)V"⟩
abbrev cX3_heightOf : ByteArray := prog_5_method_4_code
def yX3_heightOf : MethodName := ⟨RX3, "heightOf", "(II)I"⟩
abbrev cX3_brokenBits : ByteArray := prog_5_method_5_code
def yX3_brokenBits : MethodName := ⟨RX3, "brokenBits", "()I"⟩
abbrev cX3_wornTogether : ByteArray := prog_5_method_6_code
def yX3_wornTogether : MethodName := ⟨RX3, "wornTogether", "()I"⟩
abbrev cX3_passYear : ByteArray := prog_5_method_7_code
def yX3_passYear : MethodName := ⟨RX3, "passYear", "([IJI)J"⟩
def RX4 : String := "NoseDrum$Pawls"
def TX4 : u_T := fun k => match k with
  | 0 => ("NoseDrum$Pawls", "count", "I", false)
  | 1 => ("NoseDrum$Pawls", "on", "[I", true)
  | 2 => ("NoseDrum$Pawls", "at", "[I", true)
  | 3 => ("NoseDrum$Pawls", "teeth", "[I", true)
  | _ => ("NoseDrum$Pawls", "tally", "[I", true)
def tyX4 : Nat → FieldType := fun k => match k with
  | 0 => .int
  | 1 => .array .int
  | 2 => .array .int
  | 3 => .array .int
  | _ => .array .int
abbrev wsX40 : List Cond := u_ws RX4 TX4 5
theorem nmX4 : ∀ a, a < 5 → ∀ b, b < 5 → a ≠ b → (TX4 a).2.1 ≠ (TX4 b).2.1 := by decide +kernel
theorem tyX4_ok : ∀ k, k < 5 → parseFieldDescriptor (TX4 k).2.2.1 = some (tyX4 k) := by decide +kernel
abbrev cX4_init : ByteArray := prog_6_method_1_code
def yX4_init : MethodName := ⟨RX4, "<init>", "()V"⟩
abbrev cX4_readLine : ByteArray := prog_6_method_2_code
def yX4_readLine : MethodName := ⟨RX4, "readLine", "(LNoseDrum$Tape;I)V"⟩
abbrev cX4_copyFrom : ByteArray := prog_6_method_3_code
def yX4_copyFrom : MethodName := ⟨RX4, "copyFrom", "(LNoseDrum$Pawls;)V"⟩
abbrev cX4_goOn : ByteArray := prog_6_method_4_code
def yX4_goOn : MethodName := ⟨RX4, "goOn", "(LNoseDrum$Followers;)V"⟩
abbrev cX4_areBack : ByteArray := prog_6_method_5_code
def yX4_areBack : MethodName := ⟨RX4, "areBack", "([II)Z"⟩
abbrev cX4_roundByTeeth : ByteArray := prog_6_method_6_code
def yX4_roundByTeeth : MethodName := ⟨RX4, "roundByTeeth", "(II)I"⟩
def RX5 : String := "NoseDrum$Program"
def TX5 : u_T := fun k => match k with
  | 0 => ("NoseDrum$Program", "count", "I", false)
  | 1 => ("NoseDrum$Program", "act", "[I", true)
  | 2 => ("NoseDrum$Program", "first", "[I", true)
  | 3 => ("NoseDrum$Program", "second", "[I", true)
  | 4 => ("NoseDrum$Program", "partner", "[I", true)
  | 5 => ("NoseDrum$Program", "open", "I", false)
  | 6 => ("NoseDrum$Program", "opened", "[I", true)
  | 7 => ("NoseDrum$Program", "left", "[I", true)
  | 8 => ("NoseDrum$Program", "since", "[I", true)
  | 9 => ("NoseDrum$Program", "step", "I", false)
  | _ => ("NoseDrum$Program", "height", "I", false)
def tyX5 : Nat → FieldType := fun k => match k with
  | 0 => .int
  | 1 => .array .int
  | 2 => .array .int
  | 3 => .array .int
  | 4 => .array .int
  | 5 => .int
  | 6 => .array .int
  | 7 => .array .int
  | 8 => .array .int
  | 9 => .int
  | _ => .int
abbrev wsX50 : List Cond := u_ws RX5 TX5 11
theorem nmX5 : ∀ a, a < 11 → ∀ b, b < 11 → a ≠ b → (TX5 a).2.1 ≠ (TX5 b).2.1 := by decide +kernel
theorem tyX5_ok : ∀ k, k < 11 → parseFieldDescriptor (TX5 k).2.2.1 = some (tyX5 k) := by decide +kernel
abbrev cX5_init : ByteArray := prog_7_method_1_code
def yX5_init : MethodName := ⟨RX5, "<init>", "()V"⟩
abbrev cX5_readFrom : ByteArray := prog_7_method_2_code
def yX5_readFrom : MethodName := ⟨RX5, "readFrom", "(LNoseDrum$Tape;I)V"⟩
abbrev cX5_readAct : ByteArray := prog_7_method_3_code
def yX5_readAct : MethodName := ⟨RX5, "readAct", "(LNoseDrum$Tape;I)V"⟩
abbrev cX5_readMove : ByteArray := prog_7_method_4_code
def yX5_readMove : MethodName := ⟨RX5, "readMove", "(LNoseDrum$Tape;II)V"⟩
abbrev cX5_readOpening : ByteArray := prog_7_method_5_code
def yX5_readOpening : MethodName := ⟨RX5, "readOpening", "(LNoseDrum$Tape;III)V"⟩
abbrev cX5_readClosing : ByteArray := prog_7_method_6_code
def yX5_readClosing : MethodName := ⟨RX5, "readClosing", "(LNoseDrum$Tape;)V"⟩
abbrev cX5_add : ByteArray := prog_7_method_7_code
def yX5_add : MethodName := ⟨RX5, "add", "(III)V"⟩
abbrev cX5_fillRow : ByteArray := prog_7_method_8_code
def yX5_fillRow : MethodName := ⟨RX5, "fillRow", "(LNoseDrum$Machine;LNoseDrum$Curves;)I"⟩
abbrev cX5_behindAct : ByteArray := prog_7_method_9_code
def yX5_behindAct : MethodName := ⟨RX5, "behindAct", "(LNoseDrum$Machine;LNoseDrum$Curves;I)I"⟩
abbrev cX5_comeOn : ByteArray := prog_7_method_10_code
def yX5_comeOn : MethodName := ⟨RX5, "comeOn", "(LNoseDrum$Machine;I)V"⟩
abbrev cX5_enter : ByteArray := prog_7_method_11_code
def yX5_enter : MethodName := ⟨RX5, "enter", "(I)V"⟩
abbrev cX5_behindClosing : ByteArray := prog_7_method_12_code
def yX5_behindClosing : MethodName := ⟨RX5, "behindClosing", "(I)I"⟩
def RX6 : String := "NoseDrum$Room"
def TX6 : u_T := fun k => match k with
  | 0 => ("NoseDrum$Room", "count", "I", false)
  | 1 => ("NoseDrum$Room", "size", "[I", true)
  | 2 => ("NoseDrum$Room", "track", "[I", true)
  | _ => ("NoseDrum$Room", "load", "[I", true)
def tyX6 : Nat → FieldType := fun k => match k with
  | 0 => .int
  | 1 => .array .int
  | 2 => .array .int
  | _ => .array .int
abbrev wsX60 : List Cond := u_ws RX6 TX6 4
theorem nmX6 : ∀ a, a < 4 → ∀ b, b < 4 → a ≠ b → (TX6 a).2.1 ≠ (TX6 b).2.1 := by decide +kernel
theorem tyX6_ok : ∀ k, k < 4 → parseFieldDescriptor (TX6 k).2.2.1 = some (tyX6 k) := by decide +kernel
abbrev cX6_init : ByteArray := prog_8_method_1_code
def yX6_init : MethodName := ⟨RX6, "<init>", "()V"⟩
abbrev cX6_fewestTracks : ByteArray := prog_8_method_2_code
def yX6_fewestTracks : MethodName := ⟨RX6, "fewestTracks", "(I)I"⟩
abbrev cX6_clearLoads : ByteArray := prog_8_method_3_code
def yX6_clearLoads : MethodName := ⟨RX6, "clearLoads", "()V"⟩
abbrev cX6_findsRoom : ByteArray := prog_8_method_4_code
def yX6_findsRoom : MethodName := ⟨RX6, "findsRoom", "(LNoseDrum$Room;IIII)Z"⟩
abbrev cX6_mostApart : ByteArray := prog_8_method_5_code
def yX6_mostApart : MethodName := ⟨RX6, "mostApart", "(I)I"⟩
abbrev cX6_areApart : ByteArray := prog_8_method_6_code
def yX6_areApart : MethodName := ⟨RX6, "areApart", "(II)Z"⟩
def RX7 : String := "NoseDrum$Shaft"
def TX7 : u_T := fun k => match k with
  | 0 => ("NoseDrum$Shaft", "angle", "I", false)
  | 1 => ("NoseDrum$Shaft", "taken", "I", false)
  | 2 => ("NoseDrum$Shaft", "turned", "I", false)
  | 3 => ("NoseDrum$Shaft", "work", "I", false)
  | 4 => ("NoseDrum$Shaft", "slackLeft", "I", false)
  | 5 => ("NoseDrum$Shaft", "jammed", "I", false)
  | 6 => ("NoseDrum$Shaft", "jammedBy", "I", false)
  | _ => ("NoseDrum$Shaft", "way", "I", false)
def tyX7 : Nat → FieldType := fun k => match k with
  | 0 => .int
  | 1 => .int
  | 2 => .int
  | 3 => .int
  | 4 => .int
  | 5 => .int
  | 6 => .int
  | _ => .int
abbrev wsX70 : List Cond := u_ws RX7 TX7 8
theorem nmX7 : ∀ a, a < 8 → ∀ b, b < 8 → a ≠ b → (TX7 a).2.1 ≠ (TX7 b).2.1 := by decide +kernel
theorem tyX7_ok : ∀ k, k < 8 → parseFieldDescriptor (TX7 k).2.2.1 = some (tyX7 k) := by decide +kernel
abbrev cX7_init : ByteArray := prog_9_method_1_code
def yX7_init : MethodName := ⟨RX7, "<init>", "()V"⟩
abbrev cX7_clear : ByteArray := prog_9_method_2_code
def yX7_clear : MethodName := ⟨RX7, "clear", "()V"⟩
abbrev cX7_copyFrom : ByteArray := prog_9_method_3_code
def yX7_copyFrom : MethodName := ⟨RX7, "copyFrom", "(LNoseDrum$Shaft;)V"⟩
abbrev cX7_slackFor : ByteArray := prog_9_method_4_code
def yX7_slackFor : MethodName := ⟨RX7, "slackFor", "(II)I"⟩
abbrev cX7_take : ByteArray := prog_9_method_5_code
def yX7_take : MethodName := ⟨RX7, "take", "(II)V"⟩
abbrev cX7_turnOn : ByteArray := prog_9_method_6_code
def yX7_turnOn : MethodName := ⟨RX7, "turnOn", "(I)V"⟩
abbrev cX7_jamBy : ByteArray := prog_9_method_7_code
def yX7_jamBy : MethodName := ⟨RX7, "jamBy", "(I)V"⟩
def RX8 : String := "NoseDrum$Slots"
def TX8 : u_T := fun k => match k with
  | 0 => ("NoseDrum$Slots", "width", "[I", true)
  | 1 => ("NoseDrum$Slots", "length", "[I", true)
  | 2 => ("NoseDrum$Slots", "made", "[Z", true)
  | _ => ("NoseDrum$Slots", "numbers", "[J", true)
def tyX8 : Nat → FieldType := fun k => match k with
  | 0 => .array .int
  | 1 => .array .int
  | 2 => .array .boolean
  | _ => .array .long
abbrev wsX80 : List Cond := u_ws RX8 TX8 4
theorem nmX8 : ∀ a, a < 4 → ∀ b, b < 4 → a ≠ b → (TX8 a).2.1 ≠ (TX8 b).2.1 := by decide +kernel
theorem tyX8_ok : ∀ k, k < 4 → parseFieldDescriptor (TX8 k).2.2.1 = some (tyX8 k) := by decide +kernel
abbrev cX8_init : ByteArray := prog_10_method_1_code
def yX8_init : MethodName := ⟨RX8, "<init>", "()V"⟩
abbrev cX8_hasRow : ByteArray := prog_10_method_2_code
def yX8_hasRow : MethodName := ⟨RX8, "hasRow", "(I)Z"⟩
abbrev cX8_howManyHaveRows : ByteArray := prog_10_method_3_code
def yX8_howManyHaveRows : MethodName := ⟨RX8, "howManyHaveRows", "()I"⟩
abbrev cX8_makeRow : ByteArray := prog_10_method_4_code
def yX8_makeRow : MethodName := ⟨RX8, "makeRow", "(III)V"⟩
abbrev cX8_numberAt : ByteArray := prog_10_method_5_code
def yX8_numberAt : MethodName := ⟨RX8, "numberAt", "(II)J"⟩
abbrev cX8_put : ByteArray := prog_10_method_6_code
def yX8_put : MethodName := ⟨RX8, "put", "(IIJ)V"⟩
abbrev cX8_cutTo : ByteArray := prog_10_method_7_code
def yX8_cutTo : MethodName := ⟨RX8, "cutTo", "(IJ)J"⟩
abbrev cX8_holds : ByteArray := prog_10_method_8_code
def yX8_holds : MethodName := ⟨RX8, "holds", "(III)Z"⟩
abbrev cX8_copyNumbers : ByteArray := prog_10_method_9_code
def yX8_copyNumbers : MethodName := ⟨RX8, "copyNumbers", "(IIIII)V"⟩
def RX9 : String := "NoseDrum$Suspects"
def TX9 : u_T := fun k => match k with
  | 0 => ("NoseDrum$Suspects", "many", "I", false)
  | 1 => ("NoseDrum$Suspects", "brokenBits", "I", false)
  | 2 => ("NoseDrum$Suspects", "wornBits", "I", false)
  | 3 => ("NoseDrum$Suspects", "leastWear", "I", false)
  | _ => ("NoseDrum$Suspects", "nothingIs", "Z", false)
def tyX9 : Nat → FieldType := fun k => match k with
  | 0 => .int
  | 1 => .int
  | 2 => .int
  | 3 => .int
  | _ => .boolean
abbrev wsX90 : List Cond := u_ws RX9 TX9 5
theorem nmX9 : ∀ a, a < 5 → ∀ b, b < 5 → a ≠ b → (TX9 a).2.1 ≠ (TX9 b).2.1 := by decide +kernel
theorem tyX9_ok : ∀ k, k < 5 → parseFieldDescriptor (TX9 k).2.2.1 = some (tyX9 k) := by decide +kernel
abbrev cX9_init : ByteArray := prog_11_method_1_code
def yX9_init : MethodName := ⟨RX9, "<init>", "()V"⟩
abbrev cX9_search : ByteArray := prog_11_method_2_code
def yX9_search : MethodName := ⟨RX9, "search", "(LNoseDrum$Machine;LNoseDrum$Curves;IIJ)V"⟩
abbrev cX9_tryNose : ByteArray := prog_11_method_3_code
def yX9_tryNose : MethodName := ⟨RX9, "tryNose", "(LNoseDrum$Machine;LNoseDrum$Curves;IIJI)V"⟩
abbrev cX9_suspectAll : ByteArray := prog_11_method_4_code
def yX9_suspectAll : MethodName := ⟨RX9, "suspectAll", "(II)V"⟩
abbrev cX9_suspectBroken : ByteArray := prog_11_method_5_code
def yX9_suspectBroken : MethodName := ⟨RX9, "suspectBroken", "(I)V"⟩
abbrev cX9_suspectWorn : ByteArray := prog_11_method_6_code
def yX9_suspectWorn : MethodName := ⟨RX9, "suspectWorn", "(II)V"⟩
def RX10 : String := "NoseDrum$Tape"
def TX10 : u_T := fun k => match k with
  | 0 => ("NoseDrum$Tape", "bytes", "[B", true)
  | 1 => ("NoseDrum$Tape", "length", "I", false)
  | 2 => ("NoseDrum$Tape", "fault", "I", false)
  | 3 => ("NoseDrum$Tape", "place", "I", false)
  | 4 => ("NoseDrum$Tape", "kind", "I", false)
  | 5 => ("NoseDrum$Tape", "start", "I", false)
  | 6 => ("NoseDrum$Tape", "stop", "I", false)
  | _ => ("NoseDrum$Tape", "value", "I", false)
def tyX10 : Nat → FieldType := fun k => match k with
  | 0 => .array .byte
  | 1 => .int
  | 2 => .int
  | 3 => .int
  | 4 => .int
  | 5 => .int
  | 6 => .int
  | _ => .int
abbrev wsX100 : List Cond := u_ws RX10 TX10 8
theorem nmX10 : ∀ a, a < 8 → ∀ b, b < 8 → a ≠ b → (TX10 a).2.1 ≠ (TX10 b).2.1 := by decide +kernel
theorem tyX10_ok : ∀ k, k < 8 → parseFieldDescriptor (TX10 k).2.2.1 = some (tyX10 k) := by decide +kernel
abbrev cX10_init : ByteArray := prog_12_method_1_code
def yX10_init : MethodName := ⟨RX10, "<init>", "()V"⟩
abbrev cX10_hasRoom : ByteArray := prog_12_method_2_code
def yX10_hasRoom : MethodName := ⟨RX10, "hasRoom", "()Z"⟩
abbrev cX10_put : ByteArray := prog_12_method_3_code
def yX10_put : MethodName := ⟨RX10, "put", "(I)V"⟩
abbrev cX10_beginReading : ByteArray := prog_12_method_4_code
def yX10_beginReading : MethodName := ⟨RX10, "beginReading", "()V"⟩
abbrev cX10_goesOn : ByteArray := prog_12_method_5_code
def yX10_goesOn : MethodName := ⟨RX10, "goesOn", "()Z"⟩
abbrev cX10_blame : ByteArray := prog_12_method_6_code
def yX10_blame : MethodName := ⟨RX10, "blame", "(I)V"⟩
abbrev cX10_readToken : ByteArray := prog_12_method_7_code
def yX10_readToken : MethodName := ⟨RX10, "readToken", "()V"⟩
abbrev cX10_isWord : ByteArray := prog_12_method_8_code
def yX10_isWord : MethodName := ⟨RX10, "isWord", "(Ljava/lang/String;)Z"⟩
abbrev cX10_isSign : ByteArray := prog_12_method_9_code
def yX10_isSign : MethodName := ⟨RX10, "isSign", "(C)Z"⟩
abbrev cX10_takeWord : ByteArray := prog_12_method_10_code
def yX10_takeWord : MethodName := ⟨RX10, "takeWord", "(Ljava/lang/String;)V"⟩
abbrev cX10_takeSign : ByteArray := prog_12_method_11_code
def yX10_takeSign : MethodName := ⟨RX10, "takeSign", "(C)V"⟩
abbrev cX10_takeNumber : ByteArray := prog_12_method_12_code
def yX10_takeNumber : MethodName := ⟨RX10, "takeNumber", "(II)I"⟩
abbrev cX10_byteAt : ByteArray := prog_12_method_13_code
def yX10_byteAt : MethodName := ⟨RX10, "byteAt", "(I)I"⟩
abbrev cX10_behindBlanks : ByteArray := prog_12_method_14_code
def yX10_behindBlanks : MethodName := ⟨RX10, "behindBlanks", "(I)I"⟩
abbrev cX10_behindLetters : ByteArray := prog_12_method_15_code
def yX10_behindLetters : MethodName := ⟨RX10, "behindLetters", "(I)I"⟩
abbrev cX10_behindDigits : ByteArray := prog_12_method_16_code
def yX10_behindDigits : MethodName := ⟨RX10, "behindDigits", "(I)I"⟩
abbrev cX10_isLetter : ByteArray := prog_12_method_17_code
def yX10_isLetter : MethodName := ⟨RX10, "isLetter", "(I)Z"⟩
abbrev cX10_isDigit : ByteArray := prog_12_method_18_code
def yX10_isDigit : MethodName := ⟨RX10, "isDigit", "(I)Z"⟩
def RX11 : String := "NoseDrum"
def TX11 : u_T := fun k => match k with
  | 0 => ("NoseDrum", "tape", "LNoseDrum$Tape;", true)
  | 1 => ("NoseDrum", "program", "LNoseDrum$Program;", true)
  | 2 => ("NoseDrum", "curves", "LNoseDrum$Curves;", true)
  | 3 => ("NoseDrum", "suspects", "LNoseDrum$Suspects;", true)
  | 4 => ("NoseDrum", "slots", "LNoseDrum$Slots;", true)
  | 5 => ("NoseDrum", "room", "LNoseDrum$Room;", true)
  | 6 => ("NoseDrum", "images", "[LNoseDrum$Machine;", true)
  | 7 => ("NoseDrum", "kept", "[Z", true)
  | 8 => ("NoseDrum", "now", "LNoseDrum$Machine;", false)
  | _ => ("NoseDrum", "told", "LNoseDrum$Machine;", false)
def tyX11 : Nat → FieldType := fun k => match k with
  | 0 => .object "NoseDrum$Tape"
  | 1 => .object "NoseDrum$Program"
  | 2 => .object "NoseDrum$Curves"
  | 3 => .object "NoseDrum$Suspects"
  | 4 => .object "NoseDrum$Slots"
  | 5 => .object "NoseDrum$Room"
  | 6 => .array (.object "NoseDrum$Machine")
  | 7 => .array .boolean
  | 8 => .object "NoseDrum$Machine"
  | _ => .object "NoseDrum$Machine"
abbrev wsX110 : List Cond := u_ws RX11 TX11 10
theorem nmX11 : ∀ a, a < 10 → ∀ b, b < 10 → a ≠ b → (TX11 a).2.1 ≠ (TX11 b).2.1 := by decide +kernel
theorem tyX11_ok : ∀ k, k < 10 → parseFieldDescriptor (TX11 k).2.2.1 = some (tyX11 k) := by decide +kernel
abbrev cX11_init : ByteArray := prog_1_method_1_code
def yX11_init : MethodName := ⟨RX11, "<init>", "()V"⟩
abbrev cX11_feed : ByteArray := prog_1_method_2_code
def yX11_feed : MethodName := ⟨RX11, "feed", "(IIIII)I"⟩
abbrev cX11_end : ByteArray := prog_1_method_3_code
def yX11_end : MethodName := ⟨RX11, "end", "(I)I"⟩
abbrev cX11_drum : ByteArray := prog_1_method_4_code
def yX11_drum : MethodName := ⟨RX11, "drum", "()I"⟩
abbrev cX11_motion : ByteArray := prog_1_method_5_code
def yX11_motion : MethodName := ⟨RX11, "motion", "()I"⟩
abbrev cX11_fault : ByteArray := prog_1_method_6_code
def yX11_fault : MethodName := ⟨RX11, "fault", "(I)I"⟩
abbrev cX11_profile : ByteArray := prog_1_method_7_code
def yX11_profile : MethodName := ⟨RX11, "profile", "(II)I"⟩
abbrev cX11_lift : ByteArray := prog_1_method_8_code
def yX11_lift : MethodName := ⟨RX11, "lift", "(II)I"⟩
abbrev cX11_steep : ByteArray := prog_1_method_9_code
def yX11_steep : MethodName := ⟨RX11, "steep", "(I)I"⟩
abbrev cX11_jams : ByteArray := prog_1_method_10_code
def yX11_jams : MethodName := ⟨RX11, "jams", "(I)I"⟩
abbrev cX11_covers : ByteArray := prog_1_method_11_code
def yX11_covers : MethodName := ⟨RX11, "covers", "(II)I"⟩
abbrev cX11_turn : ByteArray := prog_1_method_12_code
def yX11_turn : MethodName := ⟨RX11, "turn", "(I)I"⟩
abbrev cX11_follower : ByteArray := prog_1_method_13_code
def yX11_follower : MethodName := ⟨RX11, "follower", "(II)I"⟩
abbrev cX11_stands : ByteArray := prog_1_method_14_code
def yX11_stands : MethodName := ⟨RX11, "stands", "(I)I"⟩
abbrev cX11_pawl : ByteArray := prog_1_method_15_code
def yX11_pawl : MethodName := ⟨RX11, "pawl", "(I)I"⟩
abbrev cX11_steady : ByteArray := prog_1_method_16_code
def yX11_steady : MethodName := ⟨RX11, "steady", "(II)I"⟩
abbrev cX11_leaves : ByteArray := prog_1_method_17_code
def yX11_leaves : MethodName := ⟨RX11, "leaves", "(II)I"⟩
abbrev cX11_spring : ByteArray := prog_1_method_18_code
def yX11_spring : MethodName := ⟨RX11, "spring", "(I)I"⟩
abbrev cX11_work : ByteArray := prog_1_method_19_code
def yX11_work : MethodName := ⟨RX11, "work", "()I"⟩
abbrev cX11_clicks : ByteArray := prog_1_method_20_code
def yX11_clicks : MethodName := ⟨RX11, "clicks", "(I)I"⟩
abbrev cX11_same : ByteArray := prog_1_method_21_code
def yX11_same : MethodName := ⟨RX11, "same", "()I"⟩
abbrev cX11_wear : ByteArray := prog_1_method_22_code
def yX11_wear : MethodName := ⟨RX11, "wear", "(II)I"⟩
abbrev cX11_breaks : ByteArray := prog_1_method_23_code
def yX11_breaks : MethodName := ⟨RX11, "breaks", "(IZ)I"⟩
abbrev cX11_nose : ByteArray := prog_1_method_24_code
def yX11_nose : MethodName := ⟨RX11, "nose", "(II)I"⟩
abbrev cX11_spare : ByteArray := prog_1_method_25_code
def yX11_spare : MethodName := ⟨RX11, "spare", "()I"⟩
abbrev cX11_meet : ByteArray := prog_1_method_26_code
def yX11_meet : MethodName := ⟨RX11, "meet", "(II)I"⟩
abbrev cX11_rowAt : ByteArray := prog_1_method_27_code
def yX11_rowAt : MethodName := ⟨RX11, "rowAt", "(I)I"⟩
abbrev cX11_cut : ByteArray := prog_1_method_28_code
def yX11_cut : MethodName := ⟨RX11, "cut", "(III)I"⟩
abbrev cX11_brings : ByteArray := prog_1_method_29_code
def yX11_brings : MethodName := ⟨RX11, "brings", "(II)I"⟩
abbrev cX11_widest : ByteArray := prog_1_method_30_code
def yX11_widest : MethodName := ⟨RX11, "widest", "(I)I"⟩
abbrev cX11_hard : ByteArray := prog_1_method_31_code
def yX11_hard : MethodName := ⟨RX11, "hard", "(I)I"⟩
abbrev cX11_differs : ByteArray := prog_1_method_32_code
def yX11_differs : MethodName := ⟨RX11, "differs", "(I)I"⟩
abbrev cX11_phase : ByteArray := prog_1_method_33_code
def yX11_phase : MethodName := ⟨RX11, "phase", "(I)I"⟩
abbrev cX11_nearest : ByteArray := prog_1_method_34_code
def yX11_nearest : MethodName := ⟨RX11, "nearest", "()I"⟩
abbrev cX11_fewest : ByteArray := prog_1_method_35_code
def yX11_fewest : MethodName := ⟨RX11, "fewest", "(I)I"⟩
abbrev cX11_place : ByteArray := prog_1_method_36_code
def yX11_place : MethodName := ⟨RX11, "place", "(II)I"⟩
abbrev cX11_clash : ByteArray := prog_1_method_37_code
def yX11_clash : MethodName := ⟨RX11, "clash", "(I)I"⟩
abbrev cX11_heard : ByteArray := prog_1_method_38_code
def yX11_heard : MethodName := ⟨RX11, "heard", "(II)J"⟩
abbrev cX11_faults : ByteArray := prog_1_method_39_code
def yX11_faults : MethodName := ⟨RX11, "faults", "(III)I"⟩
abbrev cX11_guess : ByteArray := prog_1_method_40_code
def yX11_guess : MethodName := ⟨RX11, "guess", "(IIII)I"⟩
abbrev cX11_margin : ByteArray := prog_1_method_41_code
def yX11_margin : MethodName := ⟨RX11, "margin", "(III)I"⟩
abbrev cX11_years : ByteArray := prog_1_method_42_code
def yX11_years : MethodName := ⟨RX11, "years", "(III)I"⟩
abbrev cX11_until : ByteArray := prog_1_method_43_code
def yX11_until : MethodName := ⟨RX11, "until", "(IIIII)I"⟩
abbrev cX11_count : ByteArray := prog_1_method_44_code
def yX11_count : MethodName := ⟨RX11, "count", "(I)I"⟩
abbrev cX11_keep : ByteArray := prog_1_method_45_code
def yX11_keep : MethodName := ⟨RX11, "keep", "(I)I"⟩
abbrev cX11_back : ByteArray := prog_1_method_46_code
def yX11_back : MethodName := ⟨RX11, "back", "(I)I"⟩
abbrev cX11_row : ByteArray := prog_1_method_47_code
def yX11_row : MethodName := ⟨RX11, "row", "(III)I"⟩
abbrev cX11_write : ByteArray := prog_1_method_48_code
def yX11_write : MethodName := ⟨RX11, "write", "(IIJ)I"⟩
abbrev cX11_paste : ByteArray := prog_1_method_49_code
def yX11_paste : MethodName := ⟨RX11, "paste", "(IIIII)I"⟩
abbrev cX11_isSlot : ByteArray := prog_1_method_50_code
def yX11_isSlot : MethodName := ⟨RX11, "isSlot", "(I)Z"⟩
abbrev cX11_isHeardHeight : ByteArray := prog_1_method_51_code
def yX11_isHeardHeight : MethodName := ⟨RX11, "isHeardHeight", "(I)Z"⟩
abbrev cX11_areYears : ByteArray := prog_1_method_52_code
def yX11_areYears : MethodName := ⟨RX11, "areYears", "(III)Z"⟩
abbrev cX11_isCutter : ByteArray := prog_1_method_53_code
def yX11_isCutter : MethodName := ⟨RX11, "isCutter", "(II)Z"⟩
abbrev cX11_firstNotBrought : ByteArray := prog_1_method_54_code
def yX11_firstNotBrought : MethodName := ⟨RX11, "firstNotBrought", "(II)I"⟩
abbrev cX11_firstUnlike : ByteArray := prog_1_method_55_code
def yX11_firstUnlike : MethodName := ⟨RX11, "firstUnlike", "([I[I)I"⟩
abbrev cX11_firstRise : ByteArray := prog_1_method_56_code
def yX11_firstRise : MethodName := ⟨RX11, "firstRise", "([II)I"⟩
abbrev cX11_firstFall : ByteArray := prog_1_method_57_code
def yX11_firstFall : MethodName := ⟨RX11, "firstFall", "([II)I"⟩
abbrev cX11_takeMotions : ByteArray := prog_1_method_58_code
def yX11_takeMotions : MethodName := ⟨RX11, "takeMotions", "(I)I"⟩
abbrev cX11_searchFaults : ByteArray := prog_1_method_59_code
def yX11_searchFaults : MethodName := ⟨RX11, "searchFaults", "(III)I"⟩
def RX12 : String := "NoseDrumModel"
def TX12 : u_T := fun k => match k with
  | 0 => ("NoseDrumModel", "thrown", "I", false)
  | 1 => ("NoseDrumModel", "world", "[I", true)
  | 2 => ("NoseDrumModel", "images", "[I", true)
  | 3 => ("NoseDrumModel", "hasImage", "[Z", true)
  | 4 => ("NoseDrumModel", "tape", "[B", true)
  | 5 => ("NoseDrumModel", "taped", "I", false)
  | 6 => ("NoseDrumModel", "five", "[I", true)
  | 7 => ("NoseDrumModel", "size", "I", false)
  | 8 => ("NoseDrumModel", "at", "I", false)
  | 9 => ("NoseDrumModel", "from", "I", false)
  | 10 => ("NoseDrumModel", "token", "I", false)
  | 11 => ("NoseDrumModel", "value", "I", false)
  | 12 => ("NoseDrumModel", "faultKind", "I", false)
  | 13 => ("NoseDrumModel", "faultPlace", "I", false)
  | 14 => ("NoseDrumModel", "fresh", "[I", true)
  | 15 => ("NoseDrumModel", "profiles", "[I", true)
  | 16 => ("NoseDrumModel", "lifts", "[I", true)
  | 17 => ("NoseDrumModel", "one", "[I", true)
  | 18 => ("NoseDrumModel", "before", "[I", true)
  | 19 => ("NoseDrumModel", "steadies", "[I", true)
  | 20 => ("NoseDrumModel", "acts", "[I", true)
  | 21 => ("NoseDrumModel", "actMany", "I", false)
  | 22 => ("NoseDrumModel", "open", "[I", true)
  | 23 => ("NoseDrumModel", "opened", "I", false)
  | 24 => ("NoseDrumModel", "often", "[I", true)
  | 25 => ("NoseDrumModel", "began", "[I", true)
  | 26 => ("NoseDrumModel", "comes", "I", false)
  | 27 => ("NoseDrumModel", "sums", "[I", true)
  | 28 => ("NoseDrumModel", "few", "[I", true)
  | 29 => ("NoseDrumModel", "onTrack", "[I", true)
  | 30 => ("NoseDrumModel", "sums2", "[I", true)
  | 31 => ("NoseDrumModel", "fits", "I", false)
  | 32 => ("NoseDrumModel", "fitBroken", "I", false)
  | 33 => ("NoseDrumModel", "fitWorn", "I", false)
  | 34 => ("NoseDrumModel", "fitSound", "I", false)
  | 35 => ("NoseDrumModel", "fitLeast", "I", false)
  | 36 => ("NoseDrumModel", "keptNoses", "[I", true)
  | 37 => ("NoseDrumModel", "drawn", "J", false)
  | 38 => ("NoseDrumModel", "many", "[I", true)
  | 39 => ("NoseDrumModel", "width", "[I", true)
  | 40 => ("NoseDrumModel", "numbers", "[J", true)
  | _ => ("NoseDrumModel", "moving", "[J", true)
def tyX12 : Nat → FieldType := fun k => match k with
  | 0 => .int
  | 1 => .array .int
  | 2 => .array .int
  | 3 => .array .boolean
  | 4 => .array .byte
  | 5 => .int
  | 6 => .array .int
  | 7 => .int
  | 8 => .int
  | 9 => .int
  | 10 => .int
  | 11 => .int
  | 12 => .int
  | 13 => .int
  | 14 => .array .int
  | 15 => .array .int
  | 16 => .array .int
  | 17 => .array .int
  | 18 => .array .int
  | 19 => .array .int
  | 20 => .array .int
  | 21 => .int
  | 22 => .array .int
  | 23 => .int
  | 24 => .array .int
  | 25 => .array .int
  | 26 => .int
  | 27 => .array .int
  | 28 => .array .int
  | 29 => .array .int
  | 30 => .array .int
  | 31 => .int
  | 32 => .int
  | 33 => .int
  | 34 => .int
  | 35 => .int
  | 36 => .array .int
  | 37 => .long
  | 38 => .array .int
  | 39 => .array .int
  | 40 => .array .long
  | _ => .array .long
abbrev wsX120 : List Cond := u_ws RX12 TX12 42
theorem nmX12 : ∀ a, a < 42 → ∀ b, b < 42 → a ≠ b → (TX12 a).2.1 ≠ (TX12 b).2.1 := by decide +kernel
theorem tyX12_ok : ∀ k, k < 42 → parseFieldDescriptor (TX12 k).2.2.1 = some (tyX12 k) := by decide +kernel
abbrev cX12_in : ByteArray := prog_14_method_2_code
def yX12_in : MethodName := ⟨RX12, "in", "(JJJ)Z"⟩
abbrev cX12_init : ByteArray := prog_14_method_3_code
def yX12_init : MethodName := ⟨RX12, "<init>", "()V"⟩
abbrev cX12_empties : ByteArray := prog_14_method_4_code
def yX12_empties : MethodName := ⟨RX12, "empties", "([I)V"⟩
abbrev cX12_keep : ByteArray := prog_14_method_5_code
def yX12_keep : MethodName := ⟨RX12, "keep", "(I)I"⟩
abbrev cX12_back : ByteArray := prog_14_method_6_code
def yX12_back : MethodName := ⟨RX12, "back", "(I)I"⟩
abbrev cX12_isDrum : ByteArray := prog_14_method_7_code
def yX12_isDrum : MethodName := ⟨RX12, "isDrum", "()Z"⟩
abbrev cX12_ofNose : ByteArray := prog_14_method_8_code
def yX12_ofNose : MethodName := ⟨RX12, "ofNose", "(II)I"⟩
abbrev cX12_setNose : ByteArray := prog_14_method_9_code
def yX12_setNose : MethodName := ⟨RX12, "setNose", "(III)V"⟩
abbrev cX12_of : ByteArray := prog_14_method_10_code
def yX12_of : MethodName := ⟨RX12, "of", "(II)I"⟩
abbrev cX12_ofPawl : ByteArray := prog_14_method_11_code
def yX12_ofPawl : MethodName := ⟨RX12, "ofPawl", "(II)I"⟩
abbrev cX12_isTrack : ByteArray := prog_14_method_12_code
def yX12_isTrack : MethodName := ⟨RX12, "isTrack", "(I)Z"⟩
abbrev cX12_isNose : ByteArray := prog_14_method_13_code
def yX12_isNose : MethodName := ⟨RX12, "isNose", "(I)Z"⟩
abbrev cX12_isFollower : ByteArray := prog_14_method_14_code
def yX12_isFollower : MethodName := ⟨RX12, "isFollower", "(I)Z"⟩
abbrev cX12_isPawl : ByteArray := prog_14_method_15_code
def yX12_isPawl : MethodName := ⟨RX12, "isPawl", "(I)Z"⟩
abbrev cX12_isStep : ByteArray := prog_14_method_16_code
def yX12_isStep : MethodName := ⟨RX12, "isStep", "(I)Z"⟩
abbrev cX12_round : ByteArray := prog_14_method_17_code
def yX12_round : MethodName := ⟨RX12, "round", "(I)I"⟩
abbrev cX12_feed : ByteArray := prog_14_method_18_code
def yX12_feed : MethodName := ⟨RX12, "feed", "(IIIII)I"⟩
abbrev cX12_end : ByteArray := prog_14_method_19_code
def yX12_end : MethodName := ⟨RX12, "end", "(I)I"⟩
abbrev cX12_see : ByteArray := prog_14_method_20_code
def yX12_see : MethodName := ⟨RX12, "see", "(I)I"⟩
abbrev cX12_advance : ByteArray := prog_14_method_21_code
def yX12_advance : MethodName := ⟨RX12, "advance", "()V"⟩
abbrev cX12_begins : ByteArray := prog_14_method_22_code
def yX12_begins : MethodName := ⟨RX12, "begins", "()V"⟩
abbrev cX12_good : ByteArray := prog_14_method_23_code
def yX12_good : MethodName := ⟨RX12, "good", "()Z"⟩
abbrev cX12_errs : ByteArray := prog_14_method_24_code
def yX12_errs : MethodName := ⟨RX12, "errs", "(I)V"⟩
abbrev cX12_is : ByteArray := prog_14_method_25_code
def yX12_is : MethodName := ⟨RX12, "is", "(Ljava/lang/String;)Z"⟩
abbrev cX12_takes : ByteArray := prog_14_method_26_code
def yX12_takes : MethodName := ⟨RX12, "takes", "(Ljava/lang/String;)Z"⟩
abbrev cX12_needs : ByteArray := prog_14_method_27_code
def yX12_needs : MethodName := ⟨RX12, "needs", "(Ljava/lang/String;)V"⟩
abbrev cX12_needsToken : ByteArray := prog_14_method_28_code
def yX12_needsToken : MethodName := ⟨RX12, "needsToken", "(I)V"⟩
abbrev cX12_number : ByteArray := prog_14_method_29_code
def yX12_number : MethodName := ⟨RX12, "number", "(II)I"⟩
abbrev cX12_told : ByteArray := prog_14_method_30_code
def yX12_told : MethodName := ⟨RX12, "told", "(Ljava/lang/String;II)I"⟩
abbrev cX12_fault : ByteArray := prog_14_method_31_code
def yX12_fault : MethodName := ⟨RX12, "fault", "(I)I"⟩
abbrev cX12_readDrum : ByteArray := prog_14_method_32_code
def yX12_readDrum : MethodName := ⟨RX12, "readDrum", "()V"⟩
abbrev cX12_readNose : ByteArray := prog_14_method_33_code
def yX12_readNose : MethodName := ⟨RX12, "readNose", "()V"⟩
abbrev cX12_readFollower : ByteArray := prog_14_method_34_code
def yX12_readFollower : MethodName := ⟨RX12, "readFollower", "(I)V"⟩
abbrev cX12_readPawl : ByteArray := prog_14_method_35_code
def yX12_readPawl : MethodName := ⟨RX12, "readPawl", "()V"⟩
abbrev cX12_sortOf : ByteArray := prog_14_method_36_code
def yX12_sortOf : MethodName := ⟨RX12, "sortOf", "()I"⟩
abbrev cX12_readNext : ByteArray := prog_14_method_37_code
def yX12_readNext : MethodName := ⟨RX12, "readNext", "()V"⟩
abbrev cX12_drum : ByteArray := prog_14_method_38_code
def yX12_drum : MethodName := ⟨RX12, "drum", "()I"⟩
abbrev cX12_heightOf : ByteArray := prog_14_method_39_code
def yX12_heightOf : MethodName := ⟨RX12, "heightOf", "(II)I"⟩
abbrev cX12_profileBut : ByteArray := prog_14_method_40_code
def yX12_profileBut : MethodName := ⟨RX12, "profileBut", "(III)I"⟩
abbrev cX12_fillProfiles : ByteArray := prog_14_method_41_code
def yX12_fillProfiles : MethodName := ⟨RX12, "fillProfiles", "()V"⟩
abbrev cX12_liftBy : ByteArray := prog_14_method_42_code
def yX12_liftBy : MethodName := ⟨RX12, "liftBy", "(III)I"⟩
abbrev cX12_fillLifts : ByteArray := prog_14_method_43_code
def yX12_fillLifts : MethodName := ⟨RX12, "fillLifts", "()V"⟩
abbrev cX12_leverOf : ByteArray := prog_14_method_44_code
def yX12_leverOf : MethodName := ⟨RX12, "leverOf", "(II)I"⟩
abbrev cX12_profile : ByteArray := prog_14_method_45_code
def yX12_profile : MethodName := ⟨RX12, "profile", "(II)I"⟩
abbrev cX12_lift : ByteArray := prog_14_method_46_code
def yX12_lift : MethodName := ⟨RX12, "lift", "(II)I"⟩
abbrev cX12_steep : ByteArray := prog_14_method_47_code
def yX12_steep : MethodName := ⟨RX12, "steep", "(I)I"⟩
abbrev cX12_jams : ByteArray := prog_14_method_48_code
def yX12_jams : MethodName := ⟨RX12, "jams", "(I)I"⟩
abbrev cX12_covers : ByteArray := prog_14_method_49_code
def yX12_covers : MethodName := ⟨RX12, "covers", "(II)I"⟩
abbrev cX12_posOf : ByteArray := prog_14_method_50_code
def yX12_posOf : MethodName := ⟨RX12, "posOf", "(I)I"⟩
abbrev cX12_settles : ByteArray := prog_14_method_51_code
def yX12_settles : MethodName := ⟨RX12, "settles", "()V"⟩
abbrev cX12_writes : ByteArray := prog_14_method_52_code
def yX12_writes : MethodName := ⟨RX12, "writes", "()V"⟩
abbrev cX12_jammerAt : ByteArray := prog_14_method_53_code
def yX12_jammerAt : MethodName := ⟨RX12, "jammerAt", "(I)I"⟩
abbrev cX12_moves : ByteArray := prog_14_method_54_code
def yX12_moves : MethodName := ⟨RX12, "moves", "(I)V"⟩
abbrev cX12_steps : ByteArray := prog_14_method_55_code
def yX12_steps : MethodName := ⟨RX12, "steps", "(I)Z"⟩
abbrev cX12_turn : ByteArray := prog_14_method_56_code
def yX12_turn : MethodName := ⟨RX12, "turn", "(I)I"⟩
abbrev cX12_follower : ByteArray := prog_14_method_57_code
def yX12_follower : MethodName := ⟨RX12, "follower", "(II)I"⟩
abbrev cX12_secondOf : ByteArray := prog_14_method_58_code
def yX12_secondOf : MethodName := ⟨RX12, "secondOf", "(J)I"⟩
abbrev cX12_stands : ByteArray := prog_14_method_59_code
def yX12_stands : MethodName := ⟨RX12, "stands", "(I)I"⟩
abbrev cX12_pawl : ByteArray := prog_14_method_60_code
def yX12_pawl : MethodName := ⟨RX12, "pawl", "(I)I"⟩
abbrev cX12_steadyAt : ByteArray := prog_14_method_61_code
def yX12_steadyAt : MethodName := ⟨RX12, "steadyAt", "(II)I"⟩
abbrev cX12_fillSteady : ByteArray := prog_14_method_62_code
def yX12_fillSteady : MethodName := ⟨RX12, "fillSteady", "()V"⟩
abbrev cX12_steadyOf : ByteArray := prog_14_method_63_code
def yX12_steadyOf : MethodName := ⟨RX12, "steadyOf", "(II)I"⟩
abbrev cX12_steady : ByteArray := prog_14_method_64_code
def yX12_steady : MethodName := ⟨RX12, "steady", "(II)I"⟩
abbrev cX12_leaves : ByteArray := prog_14_method_65_code
def yX12_leaves : MethodName := ⟨RX12, "leaves", "(II)I"⟩
abbrev cX12_spring : ByteArray := prog_14_method_66_code
def yX12_spring : MethodName := ⟨RX12, "spring", "(I)I"⟩
abbrev cX12_work : ByteArray := prog_14_method_67_code
def yX12_work : MethodName := ⟨RX12, "work", "()I"⟩
abbrev cX12_clicksOf : ByteArray := prog_14_method_68_code
def yX12_clicksOf : MethodName := ⟨RX12, "clicksOf", "(I)I"⟩
abbrev cX12_clicks : ByteArray := prog_14_method_69_code
def yX12_clicks : MethodName := ⟨RX12, "clicks", "(I)I"⟩
abbrev cX12_isSame : ByteArray := prog_14_method_70_code
def yX12_isSame : MethodName := ⟨RX12, "isSame", "(I)Z"⟩
abbrev cX12_same : ByteArray := prog_14_method_71_code
def yX12_same : MethodName := ⟨RX12, "same", "()I"⟩
abbrev cX12_wear : ByteArray := prog_14_method_72_code
def yX12_wear : MethodName := ⟨RX12, "wear", "(II)I"⟩
abbrev cX12_breaks : ByteArray := prog_14_method_73_code
def yX12_breaks : MethodName := ⟨RX12, "breaks", "(IZ)I"⟩
abbrev cX12_nose : ByteArray := prog_14_method_74_code
def yX12_nose : MethodName := ⟨RX12, "nose", "(II)I"⟩
abbrev cX12_spare : ByteArray := prog_14_method_75_code
def yX12_spare : MethodName := ⟨RX12, "spare", "()I"⟩
abbrev cX12_meet : ByteArray := prog_14_method_76_code
def yX12_meet : MethodName := ⟨RX12, "meet", "(II)I"⟩
abbrev cX12_adds : ByteArray := prog_14_method_77_code
def yX12_adds : MethodName := ⟨RX12, "adds", "(III)V"⟩
abbrev cX12_opens : ByteArray := prog_14_method_78_code
def yX12_opens : MethodName := ⟨RX12, "opens", "()V"⟩
abbrev cX12_closes : ByteArray := prog_14_method_79_code
def yX12_closes : MethodName := ⟨RX12, "closes", "()V"⟩
abbrev cX12_readAct : ByteArray := prog_14_method_80_code
def yX12_readAct : MethodName := ⟨RX12, "readAct", "()V"⟩
abbrev cX12_climbs : ByteArray := prog_14_method_81_code
def yX12_climbs : MethodName := ⟨RX12, "climbs", "(I)V"⟩
abbrev cX12_does : ByteArray := prog_14_method_82_code
def yX12_does : MethodName := ⟨RX12, "does", "(I)I"⟩
abbrev cX12_ends : ByteArray := prog_14_method_83_code
def yX12_ends : MethodName := ⟨RX12, "ends", "(II)I"⟩
abbrev cX12_motion : ByteArray := prog_14_method_84_code
def yX12_motion : MethodName := ⟨RX12, "motion", "()I"⟩
abbrev cX12_rowOf : ByteArray := prog_14_method_85_code
def yX12_rowOf : MethodName := ⟨RX12, "rowOf", "(I)I"⟩
abbrev cX12_rowAt : ByteArray := prog_14_method_86_code
def yX12_rowAt : MethodName := ⟨RX12, "rowAt", "(I)I"⟩
abbrev cX12_isCut : ByteArray := prog_14_method_87_code
def yX12_isCut : MethodName := ⟨RX12, "isCut", "(II)Z"⟩
abbrev cX12_cutOf : ByteArray := prog_14_method_88_code
def yX12_cutOf : MethodName := ⟨RX12, "cutOf", "(III)I"⟩
abbrev cX12_cut : ByteArray := prog_14_method_89_code
def yX12_cut : MethodName := ⟨RX12, "cut", "(III)I"⟩
abbrev cX12_failsAt : ByteArray := prog_14_method_90_code
def yX12_failsAt : MethodName := ⟨RX12, "failsAt", "(II)I"⟩
abbrev cX12_brings : ByteArray := prog_14_method_91_code
def yX12_brings : MethodName := ⟨RX12, "brings", "(II)I"⟩
abbrev cX12_widest : ByteArray := prog_14_method_92_code
def yX12_widest : MethodName := ⟨RX12, "widest", "(I)I"⟩
abbrev cX12_hard : ByteArray := prog_14_method_93_code
def yX12_hard : MethodName := ⟨RX12, "hard", "(I)I"⟩
abbrev cX12_awayBy : ByteArray := prog_14_method_94_code
def yX12_awayBy : MethodName := ⟨RX12, "awayBy", "(II)I"⟩
abbrev cX12_differs : ByteArray := prog_14_method_95_code
def yX12_differs : MethodName := ⟨RX12, "differs", "(I)I"⟩
abbrev cX12_phase : ByteArray := prog_14_method_96_code
def yX12_phase : MethodName := ⟨RX12, "phase", "(I)I"⟩
abbrev cX12_nearest : ByteArray := prog_14_method_97_code
def yX12_nearest : MethodName := ⟨RX12, "nearest", "()I"⟩
abbrev cX12_asksMotions : ByteArray := prog_14_method_98_code
def yX12_asksMotions : MethodName := ⟨RX12, "asksMotions", "(I)I"⟩
abbrev cX12_fillFew : ByteArray := prog_14_method_99_code
def yX12_fillFew : MethodName := ⟨RX12, "fillFew", "(I)V"⟩
abbrev cX12_fewest : ByteArray := prog_14_method_100_code
def yX12_fewest : MethodName := ⟨RX12, "fewest", "(I)I"⟩
abbrev cX12_canRest : ByteArray := prog_14_method_101_code
def yX12_canRest : MethodName := ⟨RX12, "canRest", "(III)Z"⟩
abbrev cX12_place : ByteArray := prog_14_method_102_code
def yX12_place : MethodName := ⟨RX12, "place", "(II)I"⟩
abbrev cX12_clash : ByteArray := prog_14_method_103_code
def yX12_clash : MethodName := ⟨RX12, "clash", "(I)I"⟩
abbrev cX12_heardOf : ByteArray := prog_14_method_104_code
def yX12_heardOf : MethodName := ⟨RX12, "heardOf", "(II)J"⟩
abbrev cX12_heard : ByteArray := prog_14_method_105_code
def yX12_heard : MethodName := ⟨RX12, "heard", "(II)J"⟩
abbrev cX12_rowSet : ByteArray := prog_14_method_106_code
def yX12_rowSet : MethodName := ⟨RX12, "rowSet", "(I)J"⟩
abbrev cX12_wholes : ByteArray := prog_14_method_107_code
def yX12_wholes : MethodName := ⟨RX12, "wholes", "()V"⟩
abbrev cX12_fillFits : ByteArray := prog_14_method_108_code
def yX12_fillFits : MethodName := ⟨RX12, "fillFits", "(IIJ)V"⟩
abbrev cX12_asksHeard : ByteArray := prog_14_method_109_code
def yX12_asksHeard : MethodName := ⟨RX12, "asksHeard", "(III)I"⟩
abbrev cX12_faults : ByteArray := prog_14_method_110_code
def yX12_faults : MethodName := ⟨RX12, "faults", "(III)I"⟩
abbrev cX12_guess : ByteArray := prog_14_method_111_code
def yX12_guess : MethodName := ⟨RX12, "guess", "(IIII)I"⟩
abbrev cX12_margin : ByteArray := prog_14_method_112_code
def yX12_margin : MethodName := ⟨RX12, "margin", "(III)I"⟩
abbrev cX12_draw : ByteArray := prog_14_method_113_code
def yX12_draw : MethodName := ⟨RX12, "draw", "()I"⟩
abbrev cX12_year : ByteArray := prog_14_method_114_code
def yX12_year : MethodName := ⟨RX12, "year", "(I)I"⟩
abbrev cX12_isYears : ByteArray := prog_14_method_115_code
def yX12_isYears : MethodName := ⟨RX12, "isYears", "(III)Z"⟩
abbrev cX12_years : ByteArray := prog_14_method_116_code
def yX12_years : MethodName := ⟨RX12, "years", "(III)I"⟩
abbrev cX12_until : ByteArray := prog_14_method_117_code
def yX12_until : MethodName := ⟨RX12, "until", "(IIIII)I"⟩
abbrev cX12_count : ByteArray := prog_14_method_118_code
def yX12_count : MethodName := ⟨RX12, "count", "(I)I"⟩
abbrev cX12_isSlot : ByteArray := prog_14_method_119_code
def yX12_isSlot : MethodName := ⟨RX12, "isSlot", "(I)Z"⟩
abbrev cX12_cut_ : ByteArray := prog_14_method_120_code
def yX12_cut_ : MethodName := ⟨RX12, "cut", "(JI)J"⟩
abbrev cX12_row : ByteArray := prog_14_method_121_code
def yX12_row : MethodName := ⟨RX12, "row", "(III)I"⟩
abbrev cX12_write : ByteArray := prog_14_method_122_code
def yX12_write : MethodName := ⟨RX12, "write", "(IIJ)I"⟩
abbrev cX12_paste : ByteArray := prog_14_method_123_code
def yX12_paste : MethodName := ⟨RX12, "paste", "(IIIII)I"⟩
def RJ6 : String := "java/lang/Integer"
def TJ6 : u_T := fun k => match k with
  | _ => ("", "", "", false)
def tyJ6 : Nat → FieldType := fun k => match k with
  | _ => .int
abbrev wsJ60 : List Cond := u_ws RJ6 TJ6 0
abbrev cJ6_bitCount_0f7a4 : ByteArray := prog_15_method_49_code
def yJ6_bitCount_0f7a4 : MethodName := ⟨RJ6, "bitCount", "(I)I"⟩
def RJ9 : String := "java/lang/Math"
def TJ9 : u_T := fun k => match k with
  | _ => ("", "", "", false)
def tyJ9 : Nat → FieldType := fun k => match k with
  | _ => .int
abbrev wsJ90 : List Cond := u_ws RJ9 TJ9 0
abbrev cJ9_floorMod_7cf53 : ByteArray := prog_16_method_50_code
def yJ9_floorMod_7cf53 : MethodName := ⟨RJ9, "floorMod", "(II)I"⟩
abbrev cJ9_abs_0f7a4 : ByteArray := prog_16_method_59_code
def yJ9_abs_0f7a4 : MethodName := ⟨RJ9, "abs", "(I)I"⟩
abbrev cJ9_max_7cf53 : ByteArray := prog_16_method_65_code
def yJ9_max_7cf53 : MethodName := ⟨RJ9, "max", "(II)I"⟩
abbrev cJ9_min_7cf53 : ByteArray := prog_16_method_69_code
def yJ9_min_7cf53 : MethodName := ⟨RJ9, "min", "(II)I"⟩
def RJ0 : String := "java/lang/String"
def TJ0 : u_T := fun k => match k with
  | _ => ("", "", "", false)
def tyJ0 : Nat → FieldType := fun k => match k with
  | _ => .int
abbrev wsJ00 : List Cond := u_ws RJ0 TJ0 0
abbrev cJ0_length_8abf5 : ByteArray := prog_17_method_54_code
def yJ0_length_8abf5 : MethodName := ⟨RJ0, "length", "()I"⟩
abbrev cJ0_charAt_5068e : ByteArray := prog_17_method_56_code
def yJ0_charAt_5068e : MethodName := ⟨RJ0, "charAt", "(I)C"⟩
abbrev cJ0_coder_7d493 : ByteArray := prog_17_method_152_code
def yJ0_coder_7d493 : MethodName := ⟨RJ0, "coder", "()B"⟩
abbrev cJ0_isLatin1_aae02 : ByteArray := prog_17_method_154_code
def yJ0_isLatin1_aae02 : MethodName := ⟨RJ0, "isLatin1", "()Z"⟩
abbrev cJ0_checkIndex_df160 : ByteArray := prog_17_method_155_code
def yJ0_checkIndex_df160 : MethodName := ⟨RJ0, "checkIndex", "(II)V"⟩
def RJ1 : String := "java/lang/StringLatin1"
def TJ1 : u_T := fun k => match k with
  | _ => ("", "", "", false)
def tyJ1 : Nat → FieldType := fun k => match k with
  | _ => .int
abbrev wsJ10 : List Cond := u_ws RJ1 TJ1 0
abbrev cJ1_charAt_3b067 : ByteArray := prog_18_method_2_code
def yJ1_charAt_3b067 : MethodName := ⟨RJ1, "charAt", "([BI)C"⟩
def RJ2 : String := "java/lang/StringUTF16"
def TJ2 : u_T := fun k => match k with
  | _ => ("", "", "", false)
def tyJ2 : Nat → FieldType := fun k => match k with
  | _ => .int
abbrev wsJ20 : List Cond := u_ws RJ2 TJ2 0
abbrev cJ2_getChar_3b067 : ByteArray := prog_19_method_5_code
def yJ2_getChar_3b067 : MethodName := ⟨RJ2, "getChar", "([BI)C"⟩
abbrev cJ2_length_9d52b : ByteArray := prog_19_method_6_code
def yJ2_length_9d52b : MethodName := ⟨RJ2, "length", "([B)I"⟩
abbrev cJ2_charAt_3b067 : ByteArray := prog_19_method_83_code
def yJ2_charAt_3b067 : MethodName := ⟨RJ2, "charAt", "([BI)C"⟩
abbrev cJ2_checkIndex_2214a : ByteArray := prog_19_method_91_code
def yJ2_checkIndex_2214a : MethodName := ⟨RJ2, "checkIndex", "(I[B)V"⟩
def RJ10 : String := "java/lang/System"
def TJ10 : u_T := fun k => match k with
  | _ => ("", "", "", false)
def tyJ10 : Nat → FieldType := fun k => match k with
  | _ => .int
abbrev wsJ100 : List Cond := u_ws RJ10 TJ10 0
def RJ3 : String := "jdk/internal/util/Preconditions"
def TJ3 : u_T := fun k => match k with
  | _ => ("", "", "", false)
def tyJ3 : Nat → FieldType := fun k => match k with
  | _ => .int
abbrev wsJ30 : List Cond := u_ws RJ3 TJ3 0
abbrev cJ3_checkIndex_8e157 : ByteArray := prog_21_method_11_code
def yJ3_checkIndex_8e157 : MethodName := ⟨RJ3, "checkIndex", "(IILjava/util/function/BiFunction;)I"⟩
def RL : String := "NoseDrumLaw"
abbrev cL_law : ByteArray := code
def yL_law : MethodName := ⟨RL, "law", "([I)Z"⟩
def wsL_law_r1 : List Cond := [Cond.classLink RL 7 RX11, Cond.instantiable RX11 10, Cond.initialized RX11, Cond.classLink RL 10 RX12, Cond.instantiable RX12 42, Cond.initialized RX12, Cond.constantLong RL 205 (4294967295), Cond.methodLink RL 9 yX11_init, Cond.instanceMethod yX11_init, Cond.code yX11_init cX11_init 2 none, Cond.methodLink RX11 1 objectInit, Cond.instanceMethod objectInit, Cond.code objectInit ⟨#[0xb1]⟩ 1 none, Cond.classLink RX11 7 RX10, Cond.instantiable RX10 8, Cond.initialized RX10, Cond.fieldLink RX11 10 "NoseDrum" "tape" "LNoseDrum$Tape;", Cond.classLink RX11 16 RX5, Cond.instantiable RX5 11, Cond.initialized RX5, Cond.fieldLink RX11 19 "NoseDrum" "program" "LNoseDrum$Program;", Cond.classLink RX11 23 RX0, Cond.instantiable RX0 7, Cond.initialized RX0]
def wsL_law_r2 : List Cond := [Cond.fieldLink RX11 26 "NoseDrum" "curves" "LNoseDrum$Curves;", Cond.classLink RX11 30 RX9, Cond.instantiable RX9 5, Cond.initialized RX9, Cond.fieldLink RX11 33 "NoseDrum" "suspects" "LNoseDrum$Suspects;", Cond.classLink RX11 37 RX8, Cond.instantiable RX8 4, Cond.initialized RX8, Cond.fieldLink RX11 40 "NoseDrum" "slots" "LNoseDrum$Slots;", Cond.classLink RX11 44 RX6, Cond.instantiable RX6 4, Cond.initialized RX6, Cond.fieldLink RX11 47 "NoseDrum" "room" "LNoseDrum$Room;", Cond.classLink RX11 51 RX2, Cond.fieldLink RX11 53 "NoseDrum" "images" "[LNoseDrum$Machine;", Cond.arrayClass .boolean, Cond.fieldLink RX11 57 "NoseDrum" "kept" "[Z", Cond.instantiable RX2 14, Cond.initialized RX2, Cond.fieldLink RX11 62 "NoseDrum" "now" "LNoseDrum$Machine;", Cond.fieldLink RX11 66 "NoseDrum" "told" "LNoseDrum$Machine;", Cond.instanceMethod yX10_init, Cond.code yX10_init cX10_init 1 none, Cond.methodLink RX10 3 objectInit]
def wsL_law_r3 : List Cond := [Cond.arrayClass .byte, Cond.fieldLink RX10 11 "NoseDrum$Tape" "bytes" "[B", Cond.fieldLink RX10 15 "NoseDrum$Tape" "place" "I", Cond.instanceMethod yX5_init, Cond.code yX5_init cX5_init 1 none, Cond.methodLink RX5 3 objectInit, Cond.arrayClass .int, Cond.fieldLink RX5 11 "NoseDrum$Program" "act" "[I", Cond.fieldLink RX5 15 "NoseDrum$Program" "first" "[I", Cond.fieldLink RX5 18 "NoseDrum$Program" "second" "[I", Cond.fieldLink RX5 21 "NoseDrum$Program" "partner" "[I", Cond.fieldLink RX5 24 "NoseDrum$Program" "opened" "[I", Cond.fieldLink RX5 27 "NoseDrum$Program" "left" "[I", Cond.fieldLink RX5 30 "NoseDrum$Program" "since" "[I", Cond.instanceMethod yX0_init, Cond.code yX0_init cX0_init 1 none, Cond.methodLink RX0 3 objectInit, Cond.fieldLink RX0 9 "NoseDrum$Curves" "heights" "[I", Cond.fieldLink RX0 15 "NoseDrum$Curves" "worn" "[I", Cond.fieldLink RX0 18 "NoseDrum$Curves" "profile" "[I", Cond.fieldLink RX0 21 "NoseDrum$Curves" "lift" "[I", Cond.fieldLink RX0 24 "NoseDrum$Curves" "pos" "[I", Cond.fieldLink RX0 27 "NoseDrum$Curves" "clicks" "[I", Cond.classLink RX0 30 "[[I"]
def wsL_law_r4 : List Cond := [Cond.fieldLink RX0 32 "NoseDrum$Curves" "lifts" "[[I", Cond.instanceMethod yX9_init, Cond.code yX9_init cX9_init 1 none, Cond.methodLink RX9 1 objectInit, Cond.instanceMethod yX8_init, Cond.code yX8_init cX8_init 1 none, Cond.methodLink RX8 3 objectInit, Cond.fieldLink RX8 9 "NoseDrum$Slots" "width" "[I", Cond.fieldLink RX8 15 "NoseDrum$Slots" "length" "[I", Cond.fieldLink RX8 18 "NoseDrum$Slots" "made" "[Z", Cond.arrayClass .long, Cond.fieldLink RX8 22 "NoseDrum$Slots" "numbers" "[J", Cond.instanceMethod yX6_init, Cond.code yX6_init cX6_init 1 none, Cond.methodLink RX6 1 objectInit, Cond.fieldLink RX6 9 "NoseDrum$Room" "size" "[I", Cond.fieldLink RX6 13 "NoseDrum$Room" "track" "[I", Cond.fieldLink RX6 16 "NoseDrum$Room" "load" "[I", Cond.instanceMethod yX2_init, Cond.code yX2_init cX2_init 1 none, Cond.methodLink RX2 3 objectInit, Cond.classLink RX2 9 RX3, Cond.instantiable RX3 8, Cond.initialized RX3]
def wsL_law_r5 : List Cond := [Cond.fieldLink RX2 12 "NoseDrum$Machine" "noses" "LNoseDrum$Noses;", Cond.classLink RX2 18 RX1, Cond.instantiable RX1 10, Cond.initialized RX1, Cond.fieldLink RX2 21 "NoseDrum$Machine" "followers" "LNoseDrum$Followers;", Cond.classLink RX2 25 RX4, Cond.instantiable RX4 5, Cond.initialized RX4, Cond.fieldLink RX2 28 "NoseDrum$Machine" "pawls" "LNoseDrum$Pawls;", Cond.classLink RX2 32 RX7, Cond.instantiable RX7 8, Cond.initialized RX7, Cond.fieldLink RX2 35 "NoseDrum$Machine" "shaft" "LNoseDrum$Shaft;", Cond.fieldLink RX2 39 "NoseDrum$Machine" "row" "[I", Cond.instanceMethod yX3_init, Cond.code yX3_init cX3_init 1 none, Cond.methodLink RX3 3 objectInit, Cond.fieldLink RX3 9 "NoseDrum$Noses" "track" "[I", Cond.fieldLink RX3 15 "NoseDrum$Noses" "at" "[I", Cond.fieldLink RX3 18 "NoseDrum$Noses" "wide" "[I", Cond.fieldLink RX3 21 "NoseDrum$Noses" "high" "[I", Cond.fieldLink RX3 24 "NoseDrum$Noses" "steep" "[I", Cond.fieldLink RX3 27 "NoseDrum$Noses" "worn" "[I", Cond.fieldLink RX3 30 "NoseDrum$Noses" "broken" "[Z"]
def wsL_law_r6 : List Cond := [Cond.instanceMethod yX1_init, Cond.code yX1_init cX1_init 1 none, Cond.methodLink RX1 3 objectInit, Cond.fieldLink RX1 9 "NoseDrum$Followers" "sort" "[I", Cond.fieldLink RX1 15 "NoseDrum$Followers" "on" "[I", Cond.fieldLink RX1 18 "NoseDrum$Followers" "first" "[I", Cond.fieldLink RX1 21 "NoseDrum$Followers" "second" "[I", Cond.fieldLink RX1 24 "NoseDrum$Followers" "spring" "[I", Cond.fieldLink RX1 27 "NoseDrum$Followers" "lag" "[I", Cond.fieldLink RX1 30 "NoseDrum$Followers" "pos" "[I", Cond.fieldLink RX1 33 "NoseDrum$Followers" "was" "[I", Cond.fieldLink RX1 36 "NoseDrum$Followers" "past" "[I", Cond.instanceMethod yX4_init, Cond.code yX4_init cX4_init 1 none, Cond.methodLink RX4 3 objectInit, Cond.fieldLink RX4 9 "NoseDrum$Pawls" "on" "[I", Cond.fieldLink RX4 15 "NoseDrum$Pawls" "at" "[I", Cond.fieldLink RX4 18 "NoseDrum$Pawls" "teeth" "[I", Cond.fieldLink RX4 21 "NoseDrum$Pawls" "tally" "[I", Cond.instanceMethod yX7_init, Cond.code yX7_init cX7_init 1 none, Cond.methodLink RX7 3 objectInit, Cond.fieldLink RX7 9 "NoseDrum$Shaft" "jammedBy" "I", Cond.methodLink RL 12 yX12_init]
def wsL_law_r7 : List Cond := [Cond.instanceMethod yX12_init, Cond.code yX12_init cX12_init 1 none, Cond.methodLink RX12 7 objectInit, Cond.fieldLink RX12 13 "NoseDrumModel" "world" "[I", Cond.fieldLink RX12 17 "NoseDrumModel" "images" "[I", Cond.fieldLink RX12 20 "NoseDrumModel" "hasImage" "[Z", Cond.fieldLink RX12 24 "NoseDrumModel" "tape" "[B", Cond.fieldLink RX12 28 "NoseDrumModel" "five" "[I", Cond.fieldLink RX12 31 "NoseDrumModel" "faultPlace" "I", Cond.fieldLink RX12 34 "NoseDrumModel" "fresh" "[I", Cond.fieldLink RX12 37 "NoseDrumModel" "profiles" "[I", Cond.fieldLink RX12 40 "NoseDrumModel" "lifts" "[I", Cond.fieldLink RX12 43 "NoseDrumModel" "one" "[I", Cond.fieldLink RX12 46 "NoseDrumModel" "before" "[I", Cond.fieldLink RX12 49 "NoseDrumModel" "steadies" "[I", Cond.fieldLink RX12 52 "NoseDrumModel" "acts" "[I", Cond.fieldLink RX12 55 "NoseDrumModel" "open" "[I", Cond.fieldLink RX12 58 "NoseDrumModel" "often" "[I", Cond.fieldLink RX12 61 "NoseDrumModel" "began" "[I", Cond.fieldLink RX12 64 "NoseDrumModel" "sums" "[I", Cond.fieldLink RX12 67 "NoseDrumModel" "few" "[I", Cond.fieldLink RX12 70 "NoseDrumModel" "onTrack" "[I", Cond.fieldLink RX12 73 "NoseDrumModel" "sums2" "[I", Cond.fieldLink RX12 76 "NoseDrumModel" "keptNoses" "[I"]
def wsL_law_r8 : List Cond := [Cond.fieldLink RX12 79 "NoseDrumModel" "many" "[I", Cond.fieldLink RX12 82 "NoseDrumModel" "width" "[I", Cond.fieldLink RX12 85 "NoseDrumModel" "numbers" "[J", Cond.fieldLink RX12 89 "NoseDrumModel" "moving" "[J", Cond.methodLink RX12 92 yX12_empties, Cond.static yX12_empties, Cond.code yX12_empties cX12_empties 2 none, Cond.methodLink RL 13 yX11_feed, Cond.instanceMethod yX11_feed, Cond.selects RX11 yX11_feed yX11_feed, Cond.code yX11_feed cX11_feed 6 (some .int), Cond.fieldLink RX11 77 "NoseDrum$Tape" "length" "I", Cond.methodLink RX11 69 yX10_hasRoom, Cond.instanceMethod yX10_hasRoom, Cond.selects RX10 yX10_hasRoom yX10_hasRoom, Cond.code yX10_hasRoom cX10_hasRoom 1 (some .boolean), Cond.fieldLink RX10 19 "NoseDrum$Tape" "length" "I", Cond.methodLink RX11 73 yX10_put, Cond.instanceMethod yX10_put, Cond.selects RX10 yX10_put yX10_put, Cond.code yX10_put cX10_put 3 none, Cond.methodLink RL 17 yX12_feed, Cond.instanceMethod yX12_feed, Cond.selects RX12 yX12_feed yX12_feed]
def wsL_law_r9 : List Cond := [Cond.code yX12_feed cX12_feed 7 (some .int), Cond.fieldLink RX12 102 "NoseDrumModel" "taped" "I", Cond.methodLink RL 18 yX11_end, Cond.instanceMethod yX11_end, Cond.selects RX11 yX11_end yX11_end, Cond.code yX11_end cX11_end 2 (some .int), Cond.methodLink RL 22 yX12_end, Cond.instanceMethod yX12_end, Cond.selects RX12 yX12_end yX12_end, Cond.code yX12_end cX12_end 2 (some .int), Cond.methodLink RX12 98 yX12_in, Cond.static yX12_in, Cond.code yX12_in cX12_in 6 (some .boolean), Cond.methodLink RL 23 yX11_drum, Cond.instanceMethod yX11_drum, Cond.selects RX11 yX11_drum yX11_drum, Cond.code yX11_drum cX11_drum 2 (some .int), Cond.fieldLink RX11 91 "NoseDrum$Tape" "fault" "I", Cond.fieldLink RX11 102 "NoseDrum$Machine" "lines" "I", Cond.methodLink RX11 81 yX2_clear, Cond.instanceMethod yX2_clear, Cond.selects RX2 yX2_clear yX2_clear, Cond.code yX2_clear cX2_clear 1 none, Cond.fieldLink RX2 43 "NoseDrum$Machine" "steps" "I"]
def wsL_law_r10 : List Cond := [Cond.fieldLink RX2 71 "NoseDrum$Machine" "jam" "I", Cond.fieldLink RX2 74 "NoseDrum$Machine" "slack" "I", Cond.fieldLink RX2 47 "NoseDrum$Machine" "tracks" "I", Cond.fieldLink RX2 77 "NoseDrum$Machine" "lines" "I", Cond.fieldLink RX2 80 "NoseDrum$Machine" "hasMotion" "Z", Cond.fieldLink RX2 64 "NoseDrum$Machine" "gearFirst" "I", Cond.fieldLink RX2 61 "NoseDrum$Machine" "gearSecond" "I", Cond.fieldLink RX2 84 "NoseDrum$Machine" "gearTold" "Z", Cond.fieldLink RX2 50 "NoseDrum$Noses" "count" "I", Cond.fieldLink RX2 53 "NoseDrum$Followers" "count" "I", Cond.fieldLink RX2 54 "NoseDrum$Pawls" "count" "I", Cond.methodLink RX2 87 yX7_clear, Cond.instanceMethod yX7_clear, Cond.selects RX7 yX7_clear yX7_clear, Cond.code yX7_clear cX7_clear 1 none, Cond.fieldLink RX7 15 "NoseDrum$Shaft" "angle" "I", Cond.fieldLink RX7 18 "NoseDrum$Shaft" "taken" "I", Cond.fieldLink RX7 21 "NoseDrum$Shaft" "turned" "I", Cond.fieldLink RX7 24 "NoseDrum$Shaft" "work" "I", Cond.fieldLink RX7 27 "NoseDrum$Shaft" "slackLeft" "I", Cond.fieldLink RX7 30 "NoseDrum$Shaft" "jammed" "I", Cond.fieldLink RX7 33 "NoseDrum$Shaft" "way" "I", Cond.methodLink RX11 84 yX10_beginReading, Cond.instanceMethod yX10_beginReading]
def wsL_law_r11 : List Cond := [Cond.selects RX10 yX10_beginReading yX10_beginReading, Cond.code yX10_beginReading cX10_beginReading 1 none, Cond.fieldLink RX10 22 "NoseDrum$Tape" "fault" "I", Cond.fieldLink RX10 25 "NoseDrum$Tape" "stop" "I", Cond.methodLink RX10 28 yX10_readToken, Cond.instanceMethod yX10_readToken, Cond.selects RX10 yX10_readToken yX10_readToken, Cond.code yX10_readToken cX10_readToken 2 none, Cond.fieldLink RX10 34 "NoseDrum$Tape" "start" "I", Cond.fieldLink RX10 31 "NoseDrum$Tape" "kind" "I", Cond.methodLink RX10 37 yX10_behindBlanks, Cond.instanceMethod yX10_behindBlanks, Cond.selects RX10 yX10_behindBlanks yX10_behindBlanks, Cond.code yX10_behindBlanks cX10_behindBlanks 3 (some .int), Cond.methodLink RX10 41 yX10_byteAt, Cond.instanceMethod yX10_byteAt, Cond.selects RX10 yX10_byteAt yX10_byteAt, Cond.code yX10_byteAt cX10_byteAt 2 (some .int), Cond.methodLink RX10 44 yX10_isLetter, Cond.static yX10_isLetter, Cond.code yX10_isLetter cX10_isLetter 1 (some .boolean), Cond.methodLink RX10 48 yX10_behindLetters, Cond.instanceMethod yX10_behindLetters, Cond.selects RX10 yX10_behindLetters yX10_behindLetters]
def wsL_law_r12 : List Cond := [Cond.code yX10_behindLetters cX10_behindLetters 3 (some .int), Cond.methodLink RX10 51 yX10_isDigit, Cond.static yX10_isDigit, Cond.code yX10_isDigit cX10_isDigit 1 (some .boolean), Cond.methodLink RX10 54 yX10_behindDigits, Cond.instanceMethod yX10_behindDigits, Cond.selects RX10 yX10_behindDigits yX10_behindDigits, Cond.code yX10_behindDigits cX10_behindDigits 3 (some .int), Cond.fieldLink RX10 78 "NoseDrum$Tape" "value" "I", Cond.constant RX10 81 (1000000), Cond.methodLink RX11 87 yX2_readFrom, Cond.instanceMethod yX2_readFrom, Cond.selects RX2 yX2_readFrom yX2_readFrom, Cond.code yX2_readFrom cX2_readFrom 3 none, Cond.methodLink RX2 111 yX10_goesOn, Cond.instanceMethod yX10_goesOn, Cond.selects RX10 yX10_goesOn yX10_goesOn, Cond.code yX10_goesOn cX10_goesOn 1 (some .boolean), Cond.methodLink RX2 115 yX2_readLine, Cond.instanceMethod yX2_readLine, Cond.selects RX2 yX2_readLine yX2_readLine, Cond.code yX2_readLine cX2_readLine 2 none, Cond.methodLink RX2 123 yX2_readDrumLine, Cond.instanceMethod yX2_readDrumLine]
def wsL_law_r13 : List Cond := [Cond.selects RX2 yX2_readDrumLine yX2_readDrumLine, Cond.code yX2_readDrumLine cX2_readDrumLine 2 none, Cond.methodLink RX2 153 yX10_takeWord, Cond.instanceMethod yX10_takeWord, Cond.selects RX10 yX10_takeWord yX10_takeWord, Cond.code yX10_takeWord cX10_takeWord 2 none, Cond.methodLink RX10 66 yX10_isWord, Cond.instanceMethod yX10_isWord, Cond.selects RX10 yX10_isWord yX10_isWord, Cond.code yX10_isWord cX10_isWord 3 (some .boolean), Cond.methodLink RX10 57 yJ0_length_8abf5, Cond.instanceMethod yJ0_length_8abf5, Cond.selects RJ0 yJ0_length_8abf5 yJ0_length_8abf5, Cond.initialized RJ0, Cond.code yJ0_length_8abf5 cJ0_length_8abf5 1 (some .int), Cond.fieldLink RJ0 9 "java/lang/String" "value" "[B", Cond.methodLink RJ0 335 yJ0_coder_7d493, Cond.instanceMethod yJ0_coder_7d493, Cond.selects RJ0 yJ0_coder_7d493 yJ0_coder_7d493, Cond.code yJ0_coder_7d493 cJ0_coder_7d493 1 (some .byte), Cond.fieldLink RJ0 38 "java/lang/String" "COMPACT_STRINGS" "Z", Cond.fieldLink RJ0 15 "java/lang/String" "coder" "B", Cond.methodLink RX10 62 yJ0_charAt_5068e, Cond.instanceMethod yJ0_charAt_5068e]
def wsL_law_r14 : List Cond := [Cond.selects RJ0 yJ0_charAt_5068e yJ0_charAt_5068e, Cond.code yJ0_charAt_5068e cJ0_charAt_5068e 2 (some .char), Cond.methodLink RJ0 492 yJ0_isLatin1_aae02, Cond.instanceMethod yJ0_isLatin1_aae02, Cond.selects RJ0 yJ0_isLatin1_aae02 yJ0_isLatin1_aae02, Cond.code yJ0_isLatin1_aae02 cJ0_isLatin1_aae02 1 (some .boolean), Cond.methodLink RJ0 495 yJ1_charAt_3b067, Cond.static yJ1_charAt_3b067, Cond.initialized RJ1, Cond.code yJ1_charAt_3b067 cJ1_charAt_3b067 2 (some .char), Cond.methodLink RJ1 9 yJ0_checkIndex_df160, Cond.static yJ0_checkIndex_df160, Cond.code yJ0_checkIndex_df160 cJ0_checkIndex_df160 2 none, Cond.fieldLink RJ0 1053 "jdk/internal/util/Preconditions" "SIOOBE_FORMATTER" "Ljava/util/function/BiFunction;", Cond.methodLink RJ0 1059 yJ3_checkIndex_8e157, Cond.static yJ3_checkIndex_8e157, Cond.initialized RJ3, Cond.code yJ3_checkIndex_8e157 cJ3_checkIndex_8e157 3 (some .int), Cond.methodLink RJ0 498 yJ2_charAt_3b067, Cond.static yJ2_charAt_3b067, Cond.initialized RJ2, Cond.code yJ2_charAt_3b067 cJ2_charAt_3b067 2 (some .char), Cond.methodLink RJ2 67 yJ2_checkIndex_2214a, Cond.static yJ2_checkIndex_2214a]
def wsL_law_r15 : List Cond := [Cond.code yJ2_checkIndex_2214a cJ2_checkIndex_2214a 2 none, Cond.methodLink RJ2 48 yJ2_length_9d52b, Cond.static yJ2_length_9d52b, Cond.code yJ2_length_9d52b cJ2_length_9d52b 1 (some .int), Cond.methodLink RJ2 414 yJ0_checkIndex_df160, Cond.methodLink RJ2 71 yJ2_getChar_3b067, Cond.static yJ2_getChar_3b067, Cond.code yJ2_getChar_3b067 cJ2_getChar_3b067 2 (some .char), Cond.fieldLink RJ2 44 "java/lang/StringUTF16" "$assertionsDisabled" "Z", Cond.fieldLink RJ2 59 "java/lang/StringUTF16" "HI_BYTE_SHIFT" "I", Cond.fieldLink RJ2 63 "java/lang/StringUTF16" "LO_BYTE_SHIFT" "I", Cond.methodLink RX10 70 yX10_blame, Cond.instanceMethod yX10_blame, Cond.selects RX10 yX10_blame yX10_blame, Cond.code yX10_blame cX10_blame 2 none, Cond.methodLink RX2 158 yX10_takeNumber, Cond.instanceMethod yX10_takeNumber, Cond.selects RX10 yX10_takeNumber yX10_takeNumber, Cond.code yX10_takeNumber cX10_takeNumber 4 (some .int), Cond.methodLink RX2 128 yX10_isWord, Cond.methodLink RX2 132 yX2_readTrackLine, Cond.instanceMethod yX2_readTrackLine, Cond.selects RX2 yX2_readTrackLine yX2_readTrackLine, Cond.code yX2_readTrackLine cX2_readTrackLine 2 none]
def wsL_law_r16 : List Cond := [Cond.methodLink RX2 163 yX10_blame, Cond.methodLink RX2 167 yX10_readToken, Cond.methodLink RX2 137 yX3_readLine, Cond.instanceMethod yX3_readLine, Cond.selects RX3 yX3_readLine yX3_readLine, Cond.code yX3_readLine cX3_readLine 4 none, Cond.fieldLink RX3 34 "NoseDrum$Noses" "count" "I", Cond.methodLink RX3 40 yX10_blame, Cond.methodLink RX3 44 yX10_readToken, Cond.methodLink RX3 49 yX10_takeWord, Cond.methodLink RX3 53 yX10_takeNumber, Cond.methodLink RX2 142 yX4_readLine, Cond.instanceMethod yX4_readLine, Cond.selects RX4 yX4_readLine yX4_readLine, Cond.code yX4_readLine cX4_readLine 3 none, Cond.fieldLink RX4 24 "NoseDrum$Pawls" "count" "I", Cond.methodLink RX4 30 yX10_blame, Cond.methodLink RX4 34 yX10_readToken, Cond.methodLink RX4 38 yX10_takeWord, Cond.methodLink RX4 42 yX10_takeNumber, Cond.methodLink RX2 147 yX2_readGearLine, Cond.instanceMethod yX2_readGearLine, Cond.selects RX2 yX2_readGearLine yX2_readGearLine, Cond.code yX2_readGearLine cX2_readGearLine 2 none]
def wsL_law_r17 : List Cond := [Cond.methodLink RX2 150 yX1_readLine, Cond.instanceMethod yX1_readLine, Cond.selects RX1 yX1_readLine yX1_readLine, Cond.code yX1_readLine cX1_readLine 4 none, Cond.fieldLink RX1 49 "NoseDrum$Followers" "count" "I", Cond.methodLink RX1 39 yX1_sortHere, Cond.static yX1_sortHere, Cond.code yX1_sortHere cX1_sortHere 1 (some .int), Cond.methodLink RX1 66 yX10_isWord, Cond.methodLink RX1 45 yX10_blame, Cond.methodLink RX1 53 yX10_readToken, Cond.methodLink RX1 56 yX1_readLever, Cond.instanceMethod yX1_readLever, Cond.selects RX1 yX1_readLever yX1_readLever, Cond.code yX1_readLever cX1_readLever 2 none, Cond.methodLink RX1 81 yX10_takeWord, Cond.methodLink RX1 76 yX10_takeNumber, Cond.methodLink RX1 60 yX1_readSprung, Cond.instanceMethod yX1_readSprung, Cond.selects RX1 yX1_readSprung yX1_readSprung, Cond.code yX1_readSprung cX1_readSprung 4 none, Cond.methodLink RX2 119 yX10_takeSign, Cond.instanceMethod yX10_takeSign, Cond.selects RX10 yX10_takeSign yX10_takeSign]
def wsL_law_r18 : List Cond := [Cond.code yX10_takeSign cX10_takeSign 2 none, Cond.methodLink RX10 74 yX10_isSign, Cond.instanceMethod yX10_isSign, Cond.selects RX10 yX10_isSign yX10_isSign, Cond.code yX10_isSign cX10_isSign 2 (some .boolean), Cond.methodLink RX11 94 yX0_fillTable, Cond.instanceMethod yX0_fillTable, Cond.selects RX0 yX0_fillTable yX0_fillTable, Cond.code yX0_fillTable cX0_fillTable 3 none, Cond.fieldLink RX0 48 "NoseDrum$Machine" "noses" "LNoseDrum$Noses;", Cond.fieldLink RX0 54 "NoseDrum$Noses" "worn" "[I", Cond.fieldLink RX0 108 "NoseDrum$Machine" "followers" "LNoseDrum$Followers;", Cond.fieldLink RX0 150 "NoseDrum$Followers" "count" "I", Cond.methodLink RX0 89 arraycopyName, Cond.native arraycopyName, Cond.static arraycopyName, Cond.initialized "java/lang/System", Cond.methodLink RX0 55 yX0_takeHeights, Cond.instanceMethod yX0_takeHeights, Cond.selects RX0 yX0_takeHeights yX0_takeHeights, Cond.code yX0_takeHeights cX0_takeHeights 4 none, Cond.fieldLink RX0 35 "NoseDrum$Noses" "count" "I", Cond.methodLink RX0 41 yX3_heightOf, Cond.instanceMethod yX3_heightOf]
def wsL_law_r19 : List Cond := [Cond.selects RX3 yX3_heightOf yX3_heightOf, Cond.code yX3_heightOf cX3_heightOf 3 (some .int), Cond.methodLink RX3 67 Lib.Math.max.name, Cond.static Lib.Math.max.name, Cond.initialized "java/lang/Math", Cond.code Lib.Math.max.name Lib.Math.max.code 2 (some .int), Cond.methodLink RX0 102 yX0_fill, Cond.instanceMethod yX0_fill, Cond.selects RX0 yX0_fill yX0_fill, Cond.code yX0_fill cX0_fill 6 none, Cond.fieldLink RX0 117 "NoseDrum$Followers" "on" "[I", Cond.fieldLink RX0 120 "NoseDrum$Followers" "sort" "[I", Cond.fieldLink RX0 123 "NoseDrum$Followers" "first" "[I", Cond.fieldLink RX0 130 "NoseDrum$Followers" "spring" "[I", Cond.methodLink RX0 105 yX2_hasFollower, Cond.instanceMethod yX2_hasFollower, Cond.selects RX2 yX2_hasFollower yX2_hasFollower, Cond.code yX2_hasFollower cX2_hasFollower 2 (some .boolean), Cond.methodLink RX0 112 yX1_rootOf, Cond.instanceMethod yX1_rootOf, Cond.selects RX1 yX1_rootOf yX1_rootOf, Cond.code yX1_rootOf cX1_rootOf 4 (some .int), Cond.methodLink RX1 95 yX1_below, Cond.instanceMethod yX1_below]
def wsL_law_r20 : List Cond := [Cond.selects RX1 yX1_below yX1_below, Cond.code yX1_below cX1_below 2 (some .int), Cond.methodLink RX0 59 yX0_fillProfile, Cond.instanceMethod yX0_fillProfile, Cond.selects RX0 yX0_fillProfile yX0_fillProfile, Cond.code yX0_fillProfile cX0_fillProfile 4 none, Cond.fieldLink RX0 67 "NoseDrum$Noses" "track" "[I", Cond.methodLink RX0 63 yX0_clearProfile, Cond.instanceMethod yX0_clearProfile, Cond.selects RX0 yX0_clearProfile yX0_clearProfile, Cond.code yX0_clearProfile cX0_clearProfile 3 none, Cond.fieldLink RX0 73 "NoseDrum$Machine" "steps" "I", Cond.methodLink RX0 70 yX0_raiseProfile, Cond.instanceMethod yX0_raiseProfile, Cond.selects RX0 yX0_raiseProfile yX0_raiseProfile, Cond.code yX0_raiseProfile cX0_raiseProfile 12 none, Cond.fieldLink RX0 76 "NoseDrum$Noses" "steep" "[I", Cond.fieldLink RX0 79 "NoseDrum$Noses" "wide" "[I", Cond.fieldLink RX0 82 "NoseDrum$Noses" "at" "[I", Cond.methodLink RX0 85 yX2_hasStep, Cond.instanceMethod yX2_hasStep, Cond.selects RX2 yX2_hasStep yX2_hasStep, Cond.code yX2_hasStep cX2_hasStep 2 (some .boolean), Cond.methodLink RX0 126 yX0_spread]
def wsL_law_r21 : List Cond := [Cond.instanceMethod yX0_spread, Cond.selects RX0 yX0_spread yX0_spread, Cond.code yX0_spread cX0_spread 9 none, Cond.methodLink RX0 95 yX2_round, Cond.instanceMethod yX2_round, Cond.selects RX2 yX2_round yX2_round, Cond.code yX2_round cX2_round 2 (some .int), Cond.methodLink RX2 55 yJ9_floorMod_7cf53, Cond.static yJ9_floorMod_7cf53, Cond.initialized RJ9, Cond.code yJ9_floorMod_7cf53 cJ9_floorMod_7cf53 3 (some .int), Cond.methodLink RX0 133 yX0_settle, Cond.instanceMethod yX0_settle, Cond.selects RX0 yX0_settle yX0_settle, Cond.code yX0_settle cX0_settle 6 none, Cond.methodLink RX0 142 Lib.Math.max.name, Cond.methodLink RX0 136 yX1_leversOf, Cond.instanceMethod yX1_leversOf, Cond.selects RX1 yX1_leversOf yX1_leversOf, Cond.code yX1_leversOf cX1_leversOf 5 (some .int), Cond.methodLink RX0 139 yX0_passLever, Cond.instanceMethod yX0_passLever, Cond.selects RX0 yX0_passLever yX0_passLever, Cond.code yX0_passLever cX0_passLever 4 none]
def wsL_law_r22 : List Cond := [Cond.methodLink RX0 147 yX1_leverOver, Cond.instanceMethod yX1_leverOver, Cond.selects RX1 yX1_leverOver yX1_leverOver, Cond.code yX1_leverOver cX1_leverOver 3 (some .int), Cond.methodLink RX1 99 Lib.Math.min.name, Cond.static Lib.Math.min.name, Cond.code Lib.Math.min.name Lib.Math.min.code 2 (some .int), Cond.methodLink RX11 98 yX2_begin, Cond.instanceMethod yX2_begin, Cond.selects RX2 yX2_begin yX2_begin, Cond.code yX2_begin cX2_begin 2 none, Cond.methodLink RX2 172 yX1_begin, Cond.instanceMethod yX1_begin, Cond.selects RX1 yX1_begin yX1_begin, Cond.code yX1_begin cX1_begin 4 none, Cond.methodLink RX1 104 yX0_liftAt, Cond.instanceMethod yX0_liftAt, Cond.selects RX0 yX0_liftAt yX0_liftAt, Cond.code yX0_liftAt cX0_liftAt 3 (some .int), Cond.methodLink RL 27 yX12_drum, Cond.instanceMethod yX12_drum, Cond.selects RX12 yX12_drum yX12_drum, Cond.code yX12_drum cX12_drum 2 (some .int), Cond.fieldLink RX12 118 "NoseDrumModel" "token" "I"]
def wsL_law_r23 : List Cond := [Cond.methodLink RX12 236 yX12_begins, Cond.instanceMethod yX12_begins, Cond.selects RX12 yX12_begins yX12_begins, Cond.code yX12_begins cX12_begins 1 none, Cond.fieldLink RX12 105 "NoseDrumModel" "size" "I", Cond.fieldLink RX12 108 "NoseDrumModel" "at" "I", Cond.fieldLink RX12 139 "NoseDrumModel" "faultKind" "I", Cond.methodLink RX12 142 yX12_advance, Cond.instanceMethod yX12_advance, Cond.selects RX12 yX12_advance yX12_advance, Cond.code yX12_advance cX12_advance 2 none, Cond.fieldLink RX12 115 "NoseDrumModel" "from" "I", Cond.constantLong RX12 121 (97), Cond.constantLong RX12 123 (122), Cond.constantLong RX12 125 (48), Cond.constantLong RX12 127 (57), Cond.fieldLink RX12 129 "NoseDrumModel" "value" "I", Cond.constant RX12 132 (99999), Cond.methodLink RX12 133 Lib.Math.min.name, Cond.methodLink RX12 111 yX12_see, Cond.instanceMethod yX12_see, Cond.selects RX12 yX12_see yX12_see, Cond.code yX12_see cX12_see 2 (some .int), Cond.methodLink RX12 145 yX12_good]
def wsL_law_r24 : List Cond := [Cond.instanceMethod yX12_good, Cond.selects RX12 yX12_good yX12_good, Cond.code yX12_good cX12_good 1 (some .boolean), Cond.methodLink RX12 239 yX12_readDrum, Cond.instanceMethod yX12_readDrum, Cond.selects RX12 yX12_readDrum yX12_readDrum, Cond.code yX12_readDrum cX12_readDrum 1 none, Cond.methodLink RX12 170 yX12_needs, Cond.instanceMethod yX12_needs, Cond.selects RX12 yX12_needs yX12_needs, Cond.code yX12_needs cX12_needs 2 none, Cond.methodLink RX12 163 yX12_takes, Cond.instanceMethod yX12_takes, Cond.selects RX12 yX12_takes yX12_takes, Cond.code yX12_takes cX12_takes 3 (some .boolean), Cond.methodLink RX12 159 yX12_is, Cond.instanceMethod yX12_is, Cond.selects RX12 yX12_is yX12_is, Cond.code yX12_is cX12_is 4 (some .boolean), Cond.methodLink RX12 149 yJ0_length_8abf5, Cond.methodLink RX12 155 yJ0_charAt_5068e, Cond.methodLink RX12 166 yX12_errs, Cond.instanceMethod yX12_errs, Cond.selects RX12 yX12_errs yX12_errs]
def wsL_law_r25 : List Cond := [Cond.code yX12_errs cX12_errs 2 none, Cond.methodLink RX12 181 yX12_told, Cond.instanceMethod yX12_told, Cond.selects RX12 yX12_told yX12_told, Cond.code yX12_told cX12_told 4 (some .int), Cond.methodLink RX12 174 yX12_number, Cond.instanceMethod yX12_number, Cond.selects RX12 yX12_number yX12_number, Cond.code yX12_number cX12_number 4 (some .int), Cond.methodLink RX12 242 yX12_readNext, Cond.instanceMethod yX12_readNext, Cond.selects RX12 yX12_readNext yX12_readNext, Cond.code yX12_readNext cX12_readNext 2 none, Cond.methodLink RX12 214 yX12_sortOf, Cond.instanceMethod yX12_sortOf, Cond.selects RX12 yX12_sortOf yX12_sortOf, Cond.code yX12_sortOf cX12_sortOf 1 (some .int), Cond.methodLink RX12 225 yX12_readNose, Cond.instanceMethod yX12_readNose, Cond.selects RX12 yX12_readNose yX12_readNose, Cond.code yX12_readNose cX12_readNose 2 none, Cond.methodLink RX12 228 yX12_readPawl, Cond.instanceMethod yX12_readPawl, Cond.selects RX12 yX12_readPawl yX12_readPawl]
def wsL_law_r26 : List Cond := [Cond.code yX12_readPawl cX12_readPawl 2 none, Cond.methodLink RX12 233 yX12_readFollower, Cond.instanceMethod yX12_readFollower, Cond.selects RX12 yX12_readFollower yX12_readFollower, Cond.code yX12_readFollower cX12_readFollower 3 none, Cond.methodLink RX12 245 yX12_needsToken, Cond.instanceMethod yX12_needsToken, Cond.selects RX12 yX12_needsToken yX12_needsToken, Cond.code yX12_needsToken cX12_needsToken 2 none, Cond.methodLink RX12 248 yX12_isDrum, Cond.instanceMethod yX12_isDrum, Cond.selects RX12 yX12_isDrum yX12_isDrum, Cond.code yX12_isDrum cX12_isDrum 1 (some .boolean), Cond.methodLink RX12 251 yX12_settles, Cond.instanceMethod yX12_settles, Cond.selects RX12 yX12_settles yX12_settles, Cond.code yX12_settles cX12_settles 2 none, Cond.methodLink RX12 292 yX12_fillLifts, Cond.instanceMethod yX12_fillLifts, Cond.selects RX12 yX12_fillLifts yX12_fillLifts, Cond.code yX12_fillLifts cX12_fillLifts 3 none, Cond.methodLink RX12 270 yX12_fillProfiles, Cond.instanceMethod yX12_fillProfiles, Cond.selects RX12 yX12_fillProfiles yX12_fillProfiles]
def wsL_law_r27 : List Cond := [Cond.code yX12_fillProfiles cX12_fillProfiles 3 none, Cond.methodLink RX12 266 yX12_profileBut, Cond.instanceMethod yX12_profileBut, Cond.selects RX12 yX12_profileBut yX12_profileBut, Cond.code yX12_profileBut cX12_profileBut 6 (some .int), Cond.methodLink RX12 257 Lib.Math.max.name, Cond.methodLink RX12 254 yX12_ofNose, Cond.instanceMethod yX12_ofNose, Cond.selects RX12 yX12_ofNose yX12_ofNose, Cond.code yX12_ofNose cX12_ofNose 3 (some .int), Cond.methodLink RX12 263 yX12_heightOf, Cond.instanceMethod yX12_heightOf, Cond.selects RX12 yX12_heightOf yX12_heightOf, Cond.code yX12_heightOf cX12_heightOf 6 (some .int), Cond.methodLink RX12 260 yX12_round, Cond.instanceMethod yX12_round, Cond.selects RX12 yX12_round yX12_round, Cond.code yX12_round cX12_round 3 (some .int), Cond.methodLink RX12 273 yX12_of, Cond.instanceMethod yX12_of, Cond.selects RX12 yX12_of yX12_of, Cond.code yX12_of cX12_of 3 (some .int), Cond.methodLink RX12 276 yX12_leverOf, Cond.instanceMethod yX12_leverOf]
def wsL_law_r28 : List Cond := [Cond.selects RX12 yX12_leverOf yX12_leverOf, Cond.code yX12_leverOf cX12_leverOf 3 (some .int), Cond.methodLink RX12 279 yX12_liftBy, Cond.instanceMethod yX12_liftBy, Cond.selects RX12 yX12_liftBy yX12_liftBy, Cond.code yX12_liftBy cX12_liftBy 6 (some .int), Cond.methodLink RX12 297 yX12_posOf, Cond.instanceMethod yX12_posOf, Cond.selects RX12 yX12_posOf yX12_posOf, Cond.code yX12_posOf cX12_posOf 2 (some .int), Cond.methodLink RX12 300 yX12_writes, Cond.instanceMethod yX12_writes, Cond.selects RX12 yX12_writes yX12_writes, Cond.code yX12_writes cX12_writes 2 none, Cond.methodLink RL 28 yX11_motion, Cond.instanceMethod yX11_motion, Cond.selects RX11 yX11_motion yX11_motion, Cond.code yX11_motion cX11_motion 1 (some .int), Cond.fieldLink RX11 108 "NoseDrum$Machine" "followers" "LNoseDrum$Followers;", Cond.fieldLink RX11 112 "NoseDrum$Followers" "count" "I", Cond.fieldLink RX11 120 "NoseDrum$Machine" "hasMotion" "Z", Cond.methodLink RX11 105 yX2_isTold, Cond.instanceMethod yX2_isTold, Cond.selects RX2 yX2_isTold yX2_isTold]
def wsL_law_r29 : List Cond := [Cond.code yX2_isTold cX2_isTold 1 (some .boolean), Cond.methodLink RX11 117 yX5_readFrom, Cond.instanceMethod yX5_readFrom, Cond.selects RX5 yX5_readFrom yX5_readFrom, Cond.code yX5_readFrom cX5_readFrom 4 none, Cond.fieldLink RX5 33 "NoseDrum$Program" "count" "I", Cond.fieldLink RX5 37 "NoseDrum$Program" "open" "I", Cond.methodLink RX5 40 yX10_goesOn, Cond.methodLink RX5 44 yX5_readAct, Cond.instanceMethod yX5_readAct, Cond.selects RX5 yX5_readAct yX5_readAct, Cond.code yX5_readAct cX5_readAct 5 none, Cond.methodLink RX5 54 yX10_isWord, Cond.methodLink RX5 58 yX5_readMove, Cond.instanceMethod yX5_readMove, Cond.selects RX5 yX5_readMove yX5_readMove, Cond.code yX5_readMove cX5_readMove 5 none, Cond.methodLink RX5 68 yX10_readToken, Cond.methodLink RX5 71 yX10_takeNumber, Cond.methodLink RX5 95 yX10_takeSign, Cond.methodLink RX5 99 yX5_add, Cond.instanceMethod yX5_add, Cond.selects RX5 yX5_add yX5_add, Cond.code yX5_add cX5_add 4 none]
def wsL_law_r30 : List Cond := [Cond.methodLink RX5 75 yX5_readOpening, Cond.instanceMethod yX5_readOpening, Cond.selects RX5 yX5_readOpening yX5_readOpening, Cond.code yX5_readOpening cX5_readOpening 5 none, Cond.fieldLink RX5 103 "NoseDrum$Tape" "fault" "I", Cond.methodLink RX5 87 yX10_isSign, Cond.methodLink RX5 48 yX10_blame, Cond.methodLink RX5 83 yX10_takeWord, Cond.methodLink RX5 91 yX5_readClosing, Cond.instanceMethod yX5_readClosing, Cond.selects RX5 yX5_readClosing yX5_readClosing, Cond.code yX5_readClosing cX5_readClosing 3 none, Cond.methodLink RX11 124 yX5_fillRow, Cond.instanceMethod yX5_fillRow, Cond.selects RX5 yX5_fillRow yX5_fillRow, Cond.code yX5_fillRow cX5_fillRow 5 (some .int), Cond.fieldLink RX5 106 "NoseDrum$Program" "step" "I", Cond.fieldLink RX5 109 "NoseDrum$Program" "height" "I", Cond.fieldLink RX5 112 "NoseDrum$Machine" "row" "[I", Cond.constant RX5 117 (1000000), Cond.fieldLink RX5 118 "NoseDrum$Machine" "steps" "I", Cond.methodLink RX5 121 yX5_behindAct, Cond.instanceMethod yX5_behindAct, Cond.selects RX5 yX5_behindAct yX5_behindAct]
def wsL_law_r31 : List Cond := [Cond.code yX5_behindAct cX5_behindAct 4 (some .int), Cond.methodLink RX5 129 Lib.Math.max.name, Cond.methodLink RX5 125 yX5_comeOn, Cond.instanceMethod yX5_comeOn, Cond.selects RX5 yX5_comeOn yX5_comeOn, Cond.code yX5_comeOn cX5_comeOn 4 none, Cond.methodLink RX5 134 yX5_enter, Cond.instanceMethod yX5_enter, Cond.selects RX5 yX5_enter yX5_enter, Cond.code yX5_enter cX5_enter 2 none, Cond.methodLink RX5 137 yX0_liftAt, Cond.methodLink RX5 142 yX5_behindClosing, Cond.instanceMethod yX5_behindClosing, Cond.selects RX5 yX5_behindClosing yX5_behindClosing, Cond.code yX5_behindClosing cX5_behindClosing 3 (some .int), Cond.methodLink RL 31 yX12_motion, Cond.instanceMethod yX12_motion, Cond.selects RX12 yX12_motion yX12_motion, Cond.code yX12_motion cX12_motion 3 (some .int), Cond.fieldLink RX12 354 "NoseDrumModel" "actMany" "I", Cond.fieldLink RX12 357 "NoseDrumModel" "opened" "I", Cond.fieldLink RX12 381 "NoseDrumModel" "comes" "I", Cond.methodLink RX12 390 yX12_readAct, Cond.instanceMethod yX12_readAct]
def wsL_law_r32 : List Cond := [Cond.selects RX12 yX12_readAct yX12_readAct, Cond.code yX12_readAct cX12_readAct 2 none, Cond.methodLink RX12 363 yX12_closes, Cond.instanceMethod yX12_closes, Cond.selects RX12 yX12_closes yX12_closes, Cond.code yX12_closes cX12_closes 1 none, Cond.methodLink RX12 360 yX12_adds, Cond.instanceMethod yX12_adds, Cond.selects RX12 yX12_adds yX12_adds, Cond.code yX12_adds cX12_adds 4 none, Cond.methodLink RX12 374 yX12_opens, Cond.instanceMethod yX12_opens, Cond.selects RX12 yX12_opens yX12_opens, Cond.code yX12_opens cX12_opens 1 none, Cond.methodLink RX12 393 yX12_does, Cond.instanceMethod yX12_does, Cond.selects RX12 yX12_does yX12_does, Cond.code yX12_does cX12_does 4 (some .int), Cond.methodLink RX12 384 yX12_climbs, Cond.instanceMethod yX12_climbs, Cond.selects RX12 yX12_climbs yX12_climbs, Cond.code yX12_climbs cX12_climbs 3 none, Cond.methodLink RX12 387 yX12_ends, Cond.instanceMethod yX12_ends]
def wsL_law_r33 : List Cond := [Cond.selects RX12 yX12_ends yX12_ends, Cond.code yX12_ends cX12_ends 3 (some .int), Cond.methodLink RL 32 yX11_fault, Cond.instanceMethod yX11_fault, Cond.selects RX11 yX11_fault yX11_fault, Cond.code yX11_fault cX11_fault 2 (some .int), Cond.fieldLink RX11 128 "NoseDrum$Tape" "place" "I", Cond.methodLink RL 35 yX12_fault, Cond.instanceMethod yX12_fault, Cond.selects RX12 yX12_fault yX12_fault, Cond.code yX12_fault cX12_fault 2 (some .int), Cond.methodLink RL 36 yX11_profile, Cond.instanceMethod yX11_profile, Cond.selects RX11 yX11_profile yX11_profile, Cond.code yX11_profile cX11_profile 3 (some .int), Cond.fieldLink RX11 142 "NoseDrum$Curves" "profile" "[I", Cond.methodLink RX11 131 yX2_hasTrack, Cond.instanceMethod yX2_hasTrack, Cond.selects RX2 yX2_hasTrack yX2_hasTrack, Cond.code yX2_hasTrack cX2_hasTrack 2 (some .boolean), Cond.methodLink RX11 135 yX2_hasStep, Cond.methodLink RX11 138 yX0_fillProfileAsNow, Cond.instanceMethod yX0_fillProfileAsNow, Cond.selects RX0 yX0_fillProfileAsNow yX0_fillProfileAsNow]
def wsL_law_r34 : List Cond := [Cond.code yX0_fillProfileAsNow cX0_fillProfileAsNow 3 none, Cond.methodLink RL 40 yX12_profile, Cond.instanceMethod yX12_profile, Cond.selects RX12 yX12_profile yX12_profile, Cond.code yX12_profile cX12_profile 3 (some .int), Cond.methodLink RX12 282 yX12_isTrack, Cond.instanceMethod yX12_isTrack, Cond.selects RX12 yX12_isTrack yX12_isTrack, Cond.code yX12_isTrack cX12_isTrack 2 (some .boolean), Cond.methodLink RX12 286 yX12_isStep, Cond.instanceMethod yX12_isStep, Cond.selects RX12 yX12_isStep yX12_isStep, Cond.code yX12_isStep cX12_isStep 2 (some .boolean), Cond.methodLink RL 41 yX11_lift, Cond.instanceMethod yX11_lift, Cond.selects RX11 yX11_lift yX11_lift, Cond.code yX11_lift cX11_lift 3 (some .int), Cond.fieldLink RX11 152 "NoseDrum$Curves" "lift" "[I", Cond.methodLink RX11 146 yX2_hasFollower, Cond.methodLink RX11 149 yX0_fillAsNow, Cond.instanceMethod yX0_fillAsNow, Cond.selects RX0 yX0_fillAsNow yX0_fillAsNow, Cond.code yX0_fillAsNow cX0_fillAsNow 3 none, Cond.methodLink RL 44 yX12_lift]
def wsL_law_r35 : List Cond := [Cond.instanceMethod yX12_lift, Cond.selects RX12 yX12_lift yX12_lift, Cond.code yX12_lift cX12_lift 3 (some .int), Cond.methodLink RX12 289 yX12_isFollower, Cond.instanceMethod yX12_isFollower, Cond.selects RX12 yX12_isFollower yX12_isFollower, Cond.code yX12_isFollower cX12_isFollower 2 (some .boolean), Cond.methodLink RL 45 yX11_steep, Cond.instanceMethod yX11_steep, Cond.selects RX11 yX11_steep yX11_steep, Cond.code yX11_steep cX11_steep 4 (some .int), Cond.fieldLink RX11 155 "NoseDrum$Machine" "steps" "I", Cond.methodLink RX11 162 Lib.Math.max.name, Cond.methodLink RX11 158 yX2_round, Cond.methodLink RL 48 yX12_steep, Cond.instanceMethod yX12_steep, Cond.selects RX12 yX12_steep yX12_steep, Cond.code yX12_steep cX12_steep 4 (some .int), Cond.methodLink RL 49 yX11_jams, Cond.instanceMethod yX11_jams, Cond.selects RX11 yX11_jams yX11_jams, Cond.code yX11_jams cX11_jams 2 (some .int), Cond.fieldLink RX11 168 "NoseDrum$Machine" "jam" "I", Cond.methodLink RX11 171 yX11_firstRise]
def wsL_law_r36 : List Cond := [Cond.instanceMethod yX11_firstRise, Cond.selects RX11 yX11_firstRise yX11_firstRise, Cond.code yX11_firstRise cX11_firstRise 4 (some .int), Cond.methodLink RL 52 yX12_jams, Cond.instanceMethod yX12_jams, Cond.selects RX12 yX12_jams yX12_jams, Cond.code yX12_jams cX12_jams 3 (some .int), Cond.methodLink RL 53 yX11_covers, Cond.instanceMethod yX11_covers, Cond.selects RX11 yX11_covers yX11_covers, Cond.code yX11_covers cX11_covers 5 (some .int), Cond.methodLink RL 56 yX12_covers, Cond.instanceMethod yX12_covers, Cond.selects RX12 yX12_covers yX12_covers, Cond.code yX12_covers cX12_covers 5 (some .int), Cond.constantLong RX12 295 (60), Cond.methodLink RL 57 yX11_turn, Cond.instanceMethod yX11_turn, Cond.selects RX11 yX11_turn yX11_turn, Cond.code yX11_turn cX11_turn 5 (some .int), Cond.methodLink RX11 175 Lib.Math.abs.name, Cond.static Lib.Math.abs.name, Cond.code Lib.Math.abs.name Lib.Math.abs.code 1 (some .int), Cond.methodLink RX11 178 yX2_takeStep]
def wsL_law_r37 : List Cond := [Cond.instanceMethod yX2_takeStep, Cond.selects RX2 yX2_takeStep yX2_takeStep, Cond.code yX2_takeStep cX2_takeStep 6 (some .boolean), Cond.fieldLink RX2 183 "NoseDrum$Shaft" "angle" "I", Cond.fieldLink RX2 196 "NoseDrum$Shaft" "work" "I", Cond.fieldLink RX2 199 "NoseDrum$Shaft" "turned" "I", Cond.methodLink RX2 176 yX7_slackFor, Cond.instanceMethod yX7_slackFor, Cond.selects RX7 yX7_slackFor yX7_slackFor, Cond.code yX7_slackFor cX7_slackFor 3 (some .int), Cond.methodLink RX2 179 yX7_take, Cond.instanceMethod yX7_take, Cond.selects RX7 yX7_take yX7_take, Cond.code yX7_take cX7_take 3 none, Cond.methodLink RX2 67 yX2_round, Cond.methodLink RX2 186 yX1_firstJammed, Cond.instanceMethod yX1_firstJammed, Cond.selects RX1 yX1_firstJammed yX1_firstJammed, Cond.code yX1_firstJammed cX1_firstJammed 5 (some .int), Cond.methodLink RX2 190 yX7_jamBy, Cond.instanceMethod yX7_jamBy, Cond.selects RX7 yX7_jamBy yX7_jamBy, Cond.code yX7_jamBy cX7_jamBy 2 none, Cond.methodLink RX2 193 yX7_turnOn]
def wsL_law_r38 : List Cond := [Cond.instanceMethod yX7_turnOn, Cond.selects RX7 yX7_turnOn yX7_turnOn, Cond.code yX7_turnOn cX7_turnOn 2 none, Cond.methodLink RX2 202 yX1_moveTo, Cond.instanceMethod yX1_moveTo, Cond.selects RX1 yX1_moveTo yX1_moveTo, Cond.code yX1_moveTo cX1_moveTo 7 (some .int), Cond.methodLink RX1 115 Lib.Math.max.name, Cond.methodLink RX1 109 yJ9_floorMod_7cf53, Cond.methodLink RX1 112 yX1_leverOver, Cond.methodLink RX2 205 yX4_goOn, Cond.instanceMethod yX4_goOn, Cond.selects RX4 yX4_goOn yX4_goOn, Cond.code yX4_goOn cX4_goOn 4 none, Cond.fieldLink RX4 54 "NoseDrum$Followers" "count" "I", Cond.fieldLink RX4 57 "NoseDrum$Followers" "was" "[I", Cond.fieldLink RX4 60 "NoseDrum$Followers" "pos" "[I", Cond.methodLink RX4 63 yX4_roundByTeeth, Cond.instanceMethod yX4_roundByTeeth, Cond.selects RX4 yX4_roundByTeeth yX4_roundByTeeth, Cond.code yX4_roundByTeeth cX4_roundByTeeth 3 (some .int), Cond.methodLink RL 60 yX12_turn, Cond.instanceMethod yX12_turn, Cond.selects RX12 yX12_turn yX12_turn]
def wsL_law_r39 : List Cond := [Cond.code yX12_turn cX12_turn 4 (some .int), Cond.constantLong RX12 312 (-600), Cond.constantLong RX12 314 (600), Cond.methodLink RX12 316 Lib.Math.abs.name, Cond.methodLink RX12 319 yX12_steps, Cond.instanceMethod yX12_steps, Cond.selects RX12 yX12_steps yX12_steps, Cond.code yX12_steps cX12_steps 5 (some .boolean), Cond.methodLink RX12 306 yX12_jammerAt, Cond.instanceMethod yX12_jammerAt, Cond.selects RX12 yX12_jammerAt yX12_jammerAt, Cond.code yX12_jammerAt cX12_jammerAt 3 (some .int), Cond.methodLink RX12 309 yX12_moves, Cond.instanceMethod yX12_moves, Cond.selects RX12 yX12_moves yX12_moves, Cond.code yX12_moves cX12_moves 5 none, Cond.methodLink RX12 303 yX12_ofPawl, Cond.instanceMethod yX12_ofPawl, Cond.selects RX12 yX12_ofPawl yX12_ofPawl, Cond.code yX12_ofPawl cX12_ofPawl 3 (some .int), Cond.methodLink RL 61 yX11_follower, Cond.instanceMethod yX11_follower, Cond.selects RX11 yX11_follower yX11_follower, Cond.code yX11_follower cX11_follower 3 (some .int)]
def wsL_law_r40 : List Cond := [Cond.fieldLink RX11 182 "NoseDrum$Followers" "pos" "[I", Cond.fieldLink RX11 185 "NoseDrum$Machine" "shaft" "LNoseDrum$Shaft;", Cond.fieldLink RX11 189 "NoseDrum$Shaft" "turned" "I", Cond.fieldLink RX11 197 "NoseDrum$Shaft" "angle" "I", Cond.fieldLink RX11 200 "NoseDrum$Followers" "sort" "[I", Cond.fieldLink RX11 203 "NoseDrum$Shaft" "jammedBy" "I", Cond.methodLink RX11 194 yX1_movedOf, Cond.instanceMethod yX1_movedOf, Cond.selects RX1 yX1_movedOf yX1_movedOf, Cond.code yX1_movedOf cX1_movedOf 3 (some .int), Cond.methodLink RL 64 yX12_follower, Cond.instanceMethod yX12_follower, Cond.selects RX12 yX12_follower yX12_follower, Cond.code yX12_follower cX12_follower 3 (some .int), Cond.constantLong RX12 321 (4), Cond.methodLink RL 65 yX11_stands, Cond.instanceMethod yX11_stands, Cond.selects RX11 yX11_stands yX11_stands, Cond.code yX11_stands cX11_stands 2 (some .int), Cond.fieldLink RX11 206 "NoseDrum$Shaft" "taken" "I", Cond.fieldLink RX11 209 "NoseDrum$Shaft" "work" "I", Cond.fieldLink RX11 212 "NoseDrum$Shaft" "slackLeft" "I", Cond.fieldLink RX11 218 "NoseDrum$Shaft" "jammed" "I", Cond.methodLink RX11 215 yX2_secondStep]
def wsL_law_r41 : List Cond := [Cond.instanceMethod yX2_secondStep, Cond.selects RX2 yX2_secondStep yX2_secondStep, Cond.code yX2_secondStep cX2_secondStep 2 (some .int), Cond.methodLink RL 68 yX12_stands, Cond.instanceMethod yX12_stands, Cond.selects RX12 yX12_stands yX12_stands, Cond.code yX12_stands cX12_stands 2 (some .int), Cond.methodLink RX12 323 yX12_secondOf, Cond.instanceMethod yX12_secondOf, Cond.selects RX12 yX12_secondOf yX12_secondOf, Cond.code yX12_secondOf cX12_secondOf 4 (some .int), Cond.methodLink RL 69 yX11_pawl, Cond.instanceMethod yX11_pawl, Cond.selects RX11 yX11_pawl yX11_pawl, Cond.code yX11_pawl cX11_pawl 2 (some .int), Cond.fieldLink RX11 224 "NoseDrum$Machine" "pawls" "LNoseDrum$Pawls;", Cond.fieldLink RX11 228 "NoseDrum$Pawls" "tally" "[I", Cond.methodLink RX11 221 yX2_hasPawl, Cond.instanceMethod yX2_hasPawl, Cond.selects RX2 yX2_hasPawl yX2_hasPawl, Cond.code yX2_hasPawl cX2_hasPawl 2 (some .boolean), Cond.methodLink RL 72 yX12_pawl, Cond.instanceMethod yX12_pawl, Cond.selects RX12 yX12_pawl yX12_pawl]
def wsL_law_r42 : List Cond := [Cond.code yX12_pawl cX12_pawl 2 (some .int), Cond.methodLink RX12 327 yX12_isPawl, Cond.instanceMethod yX12_isPawl, Cond.selects RX12 yX12_isPawl yX12_isPawl, Cond.code yX12_isPawl cX12_isPawl 2 (some .boolean), Cond.methodLink RL 73 yX11_steady, Cond.instanceMethod yX11_steady, Cond.selects RX11 yX11_steady yX11_steady, Cond.code yX11_steady cX11_steady 3 (some .int), Cond.fieldLink RX11 233 "NoseDrum$Curves" "pos" "[I", Cond.methodLink RL 76 yX12_steady, Cond.instanceMethod yX12_steady, Cond.selects RX12 yX12_steady yX12_steady, Cond.code yX12_steady cX12_steady 3 (some .int), Cond.methodLink RX12 333 yX12_fillSteady, Cond.instanceMethod yX12_fillSteady, Cond.selects RX12 yX12_fillSteady yX12_fillSteady, Cond.code yX12_fillSteady cX12_fillSteady 3 none, Cond.methodLink RX12 330 yX12_steadyAt, Cond.instanceMethod yX12_steadyAt, Cond.selects RX12 yX12_steadyAt yX12_steadyAt, Cond.code yX12_steadyAt cX12_steadyAt 5 (some .int), Cond.methodLink RX12 336 yX12_steadyOf, Cond.instanceMethod yX12_steadyOf]
def wsL_law_r43 : List Cond := [Cond.selects RX12 yX12_steadyOf yX12_steadyOf, Cond.code yX12_steadyOf cX12_steadyOf 3 (some .int), Cond.methodLink RL 77 yX11_leaves, Cond.instanceMethod yX11_leaves, Cond.selects RX11 yX11_leaves yX11_leaves, Cond.code yX11_leaves cX11_leaves 6 (some .int), Cond.methodLink RL 80 yX12_leaves, Cond.instanceMethod yX12_leaves, Cond.selects RX12 yX12_leaves yX12_leaves, Cond.code yX12_leaves cX12_leaves 6 (some .int), Cond.methodLink RL 81 yX11_spring, Cond.instanceMethod yX11_spring, Cond.selects RX11 yX11_spring yX11_spring, Cond.code yX11_spring cX11_spring 4 (some .int), Cond.methodLink RL 84 yX12_spring, Cond.instanceMethod yX12_spring, Cond.selects RX12 yX12_spring yX12_spring, Cond.code yX12_spring cX12_spring 4 (some .int), Cond.methodLink RL 85 yX11_work, Cond.instanceMethod yX11_work, Cond.selects RX11 yX11_work yX11_work, Cond.code yX11_work cX11_work 3 (some .int), Cond.methodLink RX11 234 yX0_risenInTurn, Cond.instanceMethod yX0_risenInTurn]
def wsL_law_r44 : List Cond := [Cond.selects RX0 yX0_risenInTurn yX0_risenInTurn, Cond.code yX0_risenInTurn cX0_risenInTurn 4 (some .int), Cond.methodLink RL 88 yX12_work, Cond.instanceMethod yX12_work, Cond.selects RX12 yX12_work yX12_work, Cond.code yX12_work cX12_work 4 (some .int), Cond.methodLink RL 89 yX11_clicks, Cond.instanceMethod yX11_clicks, Cond.selects RX11 yX11_clicks yX11_clicks, Cond.code yX11_clicks cX11_clicks 2 (some .int), Cond.fieldLink RX11 238 "NoseDrum$Pawls" "on" "[I", Cond.fieldLink RX11 241 "NoseDrum$Pawls" "at" "[I", Cond.methodLink RX11 244 yX0_clicksInTurn, Cond.instanceMethod yX0_clicksInTurn, Cond.selects RX0 yX0_clicksInTurn yX0_clicksInTurn, Cond.code yX0_clicksInTurn cX0_clicksInTurn 5 (some .int), Cond.methodLink RL 92 yX12_clicks, Cond.instanceMethod yX12_clicks, Cond.selects RX12 yX12_clicks yX12_clicks, Cond.code yX12_clicks cX12_clicks 2 (some .int), Cond.methodLink RX12 339 yX12_clicksOf, Cond.instanceMethod yX12_clicksOf, Cond.selects RX12 yX12_clicksOf yX12_clicksOf, Cond.code yX12_clicksOf cX12_clicksOf 5 (some .int)]
def wsL_law_r45 : List Cond := [Cond.methodLink RL 93 yX11_same, Cond.instanceMethod yX11_same, Cond.selects RX11 yX11_same yX11_same, Cond.code yX11_same cX11_same 2 (some .int), Cond.fieldLink RX11 248 "NoseDrum$Pawls" "count" "I", Cond.fieldLink RX11 249 "NoseDrum$Curves" "clicks" "[I", Cond.methodLink RX11 252 yX4_areBack, Cond.instanceMethod yX4_areBack, Cond.selects RX4 yX4_areBack yX4_areBack, Cond.code yX4_areBack cX4_areBack 4 (some .boolean), Cond.methodLink RL 96 yX12_same, Cond.instanceMethod yX12_same, Cond.selects RX12 yX12_same yX12_same, Cond.code yX12_same cX12_same 2 (some .int), Cond.methodLink RX12 342 yX12_isSame, Cond.instanceMethod yX12_isSame, Cond.selects RX12 yX12_isSame yX12_isSame, Cond.code yX12_isSame cX12_isSame 4 (some .boolean), Cond.methodLink RL 97 yX11_wear, Cond.instanceMethod yX11_wear, Cond.selects RX11 yX11_wear yX11_wear, Cond.code yX11_wear cX11_wear 4 (some .int), Cond.fieldLink RX11 259 "NoseDrum$Machine" "noses" "LNoseDrum$Noses;", Cond.fieldLink RX11 263 "NoseDrum$Noses" "worn" "[I"]
def wsL_law_r46 : List Cond := [Cond.fieldLink RX11 268 "NoseDrum$Noses" "high" "[I", Cond.methodLink RX11 271 Lib.Math.min.name, Cond.methodLink RX11 256 yX2_hasNose, Cond.instanceMethod yX2_hasNose, Cond.selects RX2 yX2_hasNose yX2_hasNose, Cond.code yX2_hasNose cX2_hasNose 2 (some .boolean), Cond.methodLink RL 100 yX12_wear, Cond.instanceMethod yX12_wear, Cond.selects RX12 yX12_wear yX12_wear, Cond.code yX12_wear cX12_wear 4 (some .int), Cond.methodLink RX12 345 yX12_isNose, Cond.instanceMethod yX12_isNose, Cond.selects RX12 yX12_isNose yX12_isNose, Cond.code yX12_isNose cX12_isNose 2 (some .boolean), Cond.methodLink RX12 348 yX12_setNose, Cond.instanceMethod yX12_setNose, Cond.selects RX12 yX12_setNose yX12_setNose, Cond.code yX12_setNose cX12_setNose 4 none, Cond.methodLink RL 101 yX11_breaks, Cond.instanceMethod yX11_breaks, Cond.selects RX11 yX11_breaks yX11_breaks, Cond.code yX11_breaks cX11_breaks 4 (some .int), Cond.fieldLink RX11 274 "NoseDrum$Noses" "broken" "[Z", Cond.methodLink RL 105 yX12_breaks]
def wsL_law_r47 : List Cond := [Cond.instanceMethod yX12_breaks, Cond.selects RX12 yX12_breaks yX12_breaks, Cond.code yX12_breaks cX12_breaks 4 (some .int), Cond.methodLink RL 106 yX11_nose, Cond.instanceMethod yX11_nose, Cond.selects RX11 yX11_nose yX11_nose, Cond.code yX11_nose cX11_nose 3 (some .int), Cond.fieldLink RX11 277 "NoseDrum$Noses" "track" "[I", Cond.fieldLink RX11 280 "NoseDrum$Noses" "at" "[I", Cond.fieldLink RX11 281 "NoseDrum$Noses" "wide" "[I", Cond.fieldLink RX11 287 "NoseDrum$Noses" "steep" "[I", Cond.methodLink RX11 284 yX3_heightOf, Cond.methodLink RL 109 yX12_nose, Cond.instanceMethod yX12_nose, Cond.selects RX12 yX12_nose yX12_nose, Cond.code yX12_nose cX12_nose 3 (some .int), Cond.constantLong RX12 352 (5), Cond.methodLink RL 110 yX11_spare, Cond.instanceMethod yX11_spare, Cond.selects RX11 yX11_spare yX11_spare, Cond.code yX11_spare cX11_spare 3 (some .int), Cond.fieldLink RX11 294 "NoseDrum$Noses" "count" "I", Cond.methodLink RX11 290 yX0_takeHeights, Cond.methodLink RX11 295 yX0_isSpare]
def wsL_law_r48 : List Cond := [Cond.instanceMethod yX0_isSpare, Cond.selects RX0 yX0_isSpare yX0_isSpare, Cond.code yX0_isSpare cX0_isSpare 5 (some .boolean), Cond.methodLink RL 113 yX12_spare, Cond.instanceMethod yX12_spare, Cond.selects RX12 yX12_spare yX12_spare, Cond.code yX12_spare cX12_spare 6 (some .int), Cond.methodLink RL 114 yX11_meet, Cond.instanceMethod yX11_meet, Cond.selects RX11 yX11_meet yX11_meet, Cond.code yX11_meet cX11_meet 3 (some .int), Cond.methodLink RX11 299 yX0_doMeet, Cond.instanceMethod yX0_doMeet, Cond.selects RX0 yX0_doMeet yX0_doMeet, Cond.code yX0_doMeet cX0_doMeet 5 (some .boolean), Cond.methodLink RL 117 yX12_meet, Cond.instanceMethod yX12_meet, Cond.selects RX12 yX12_meet yX12_meet, Cond.code yX12_meet cX12_meet 5 (some .int), Cond.methodLink RL 118 yX11_rowAt, Cond.instanceMethod yX11_rowAt, Cond.selects RX11 yX11_rowAt yX11_rowAt, Cond.code yX11_rowAt cX11_rowAt 2 (some .int), Cond.fieldLink RX11 303 "NoseDrum$Machine" "row" "[I"]
def wsL_law_r49 : List Cond := [Cond.methodLink RL 121 yX12_rowAt, Cond.instanceMethod yX12_rowAt, Cond.selects RX12 yX12_rowAt yX12_rowAt, Cond.code yX12_rowAt cX12_rowAt 2 (some .int), Cond.methodLink RX12 396 yX12_rowOf, Cond.instanceMethod yX12_rowOf, Cond.selects RX12 yX12_rowOf yX12_rowOf, Cond.code yX12_rowOf cX12_rowOf 2 (some .int), Cond.methodLink RL 122 yX11_cut, Cond.instanceMethod yX11_cut, Cond.selects RX11 yX11_cut yX11_cut, Cond.code yX11_cut cX11_cut 4 (some .int), Cond.methodLink RX11 306 yX11_isCutter, Cond.static yX11_isCutter, Cond.code yX11_isCutter cX11_isCutter 2 (some .boolean), Cond.methodLink RX11 310 yX0_fillCut, Cond.instanceMethod yX0_fillCut, Cond.selects RX0 yX0_fillCut yX0_fillCut, Cond.code yX0_fillCut cX0_fillCut 9 none, Cond.fieldLink RX0 99 "NoseDrum$Machine" "row" "[I", Cond.methodLink RL 126 yX12_cut, Cond.instanceMethod yX12_cut, Cond.selects RX12 yX12_cut yX12_cut, Cond.code yX12_cut cX12_cut 4 (some .int)]
def wsL_law_r50 : List Cond := [Cond.methodLink RX12 401 yX12_isCut, Cond.instanceMethod yX12_isCut, Cond.selects RX12 yX12_isCut yX12_isCut, Cond.code yX12_isCut cX12_isCut 3 (some .boolean), Cond.constantLong RX12 96 (2), Cond.constantLong RX12 399 (9), Cond.methodLink RX12 405 yX12_cutOf, Cond.instanceMethod yX12_cutOf, Cond.selects RX12 yX12_cutOf yX12_cutOf, Cond.code yX12_cutOf cX12_cutOf 6 (some .int), Cond.methodLink RL 127 yX11_brings, Cond.instanceMethod yX11_brings, Cond.selects RX11 yX11_brings yX11_brings, Cond.code yX11_brings cX11_brings 3 (some .int), Cond.methodLink RX11 314 yX11_firstNotBrought, Cond.instanceMethod yX11_firstNotBrought, Cond.selects RX11 yX11_firstNotBrought yX11_firstNotBrought, Cond.code yX11_firstNotBrought cX11_firstNotBrought 3 (some .int), Cond.methodLink RX11 434 yX0_spread, Cond.methodLink RX11 320 yX11_firstUnlike, Cond.instanceMethod yX11_firstUnlike, Cond.selects RX11 yX11_firstUnlike yX11_firstUnlike, Cond.code yX11_firstUnlike cX11_firstUnlike 4 (some .int), Cond.methodLink RL 130 yX12_brings]
def wsL_law_r51 : List Cond := [Cond.instanceMethod yX12_brings, Cond.selects RX12 yX12_brings yX12_brings, Cond.code yX12_brings cX12_brings 3 (some .int), Cond.methodLink RX12 408 yX12_failsAt, Cond.instanceMethod yX12_failsAt, Cond.selects RX12 yX12_failsAt yX12_failsAt, Cond.code yX12_failsAt cX12_failsAt 4 (some .int), Cond.methodLink RL 131 yX11_widest, Cond.instanceMethod yX11_widest, Cond.selects RX11 yX11_widest yX11_widest, Cond.code yX11_widest cX11_widest 3 (some .int), Cond.methodLink RL 134 yX12_widest, Cond.instanceMethod yX12_widest, Cond.selects RX12 yX12_widest yX12_widest, Cond.code yX12_widest cX12_widest 3 (some .int), Cond.methodLink RL 135 yX11_hard, Cond.instanceMethod yX11_hard, Cond.selects RX11 yX11_hard yX11_hard, Cond.code yX11_hard cX11_hard 2 (some .int), Cond.methodLink RX11 317 yX11_firstFall, Cond.instanceMethod yX11_firstFall, Cond.selects RX11 yX11_firstFall yX11_firstFall, Cond.code yX11_firstFall cX11_firstFall 4 (some .int), Cond.methodLink RL 138 yX12_hard]
def wsL_law_r52 : List Cond := [Cond.instanceMethod yX12_hard, Cond.selects RX12 yX12_hard yX12_hard, Cond.code yX12_hard cX12_hard 4 (some .int), Cond.methodLink RL 139 yX11_differs, Cond.instanceMethod yX11_differs, Cond.selects RX11 yX11_differs yX11_differs, Cond.code yX11_differs cX11_differs 2 (some .int), Cond.methodLink RL 142 yX12_differs, Cond.instanceMethod yX12_differs, Cond.selects RX12 yX12_differs yX12_differs, Cond.code yX12_differs cX12_differs 3 (some .int), Cond.methodLink RL 143 yX11_phase, Cond.instanceMethod yX11_phase, Cond.selects RX11 yX11_phase yX11_phase, Cond.code yX11_phase cX11_phase 3 (some .int), Cond.methodLink RX11 324 yX0_awayBy, Cond.instanceMethod yX0_awayBy, Cond.selects RX0 yX0_awayBy yX0_awayBy, Cond.code yX0_awayBy cX0_awayBy 5 (some .int), Cond.methodLink RX0 151 Lib.Math.abs.name, Cond.methodLink RL 146 yX12_phase, Cond.instanceMethod yX12_phase, Cond.selects RX12 yX12_phase yX12_phase, Cond.code yX12_phase cX12_phase 3 (some .int)]
def wsL_law_r53 : List Cond := [Cond.methodLink RX12 411 yX12_awayBy, Cond.instanceMethod yX12_awayBy, Cond.selects RX12 yX12_awayBy yX12_awayBy, Cond.code yX12_awayBy cX12_awayBy 5 (some .int), Cond.methodLink RL 147 yX11_nearest, Cond.instanceMethod yX11_nearest, Cond.selects RX11 yX11_nearest yX11_nearest, Cond.code yX11_nearest cX11_nearest 5 (some .int), Cond.methodLink RX11 327 yX0_leastAway, Cond.instanceMethod yX0_leastAway, Cond.selects RX0 yX0_leastAway yX0_leastAway, Cond.code yX0_leastAway cX0_leastAway 4 (some .int), Cond.methodLink RX0 158 Lib.Math.min.name, Cond.methodLink RX0 154 yX0_awayBy, Cond.methodLink RL 150 yX12_nearest, Cond.instanceMethod yX12_nearest, Cond.selects RX12 yX12_nearest yX12_nearest, Cond.code yX12_nearest cX12_nearest 6 (some .int), Cond.methodLink RL 151 yX11_fewest, Cond.instanceMethod yX11_fewest, Cond.selects RX11 yX11_fewest yX11_fewest, Cond.code yX11_fewest cX11_fewest 3 (some .int), Cond.methodLink RX11 330 yX11_takeMotions, Cond.instanceMethod yX11_takeMotions]
def wsL_law_r54 : List Cond := [Cond.selects RX11 yX11_takeMotions yX11_takeMotions, Cond.code yX11_takeMotions cX11_takeMotions 5 (some .int), Cond.fieldLink RX11 418 "NoseDrum$Slots" "length" "[I", Cond.fieldLink RX11 336 "NoseDrum$Room" "count" "I", Cond.fieldLink RX11 441 "NoseDrum$Room" "size" "[I", Cond.methodLink RX11 408 yX11_isSlot, Cond.static yX11_isSlot, Cond.code yX11_isSlot cX11_isSlot 1 (some .boolean), Cond.methodLink RX11 415 yX8_hasRow, Cond.instanceMethod yX8_hasRow, Cond.selects RX8 yX8_hasRow yX8_hasRow, Cond.code yX8_hasRow cX8_hasRow 2 (some .boolean), Cond.methodLink RX11 437 yX8_numberAt, Cond.instanceMethod yX8_numberAt, Cond.selects RX8 yX8_numberAt yX8_numberAt, Cond.code yX8_numberAt cX8_numberAt 3 (some .long), Cond.methodLink RX11 333 yX6_fewestTracks, Cond.instanceMethod yX6_fewestTracks, Cond.selects RX6 yX6_fewestTracks yX6_fewestTracks, Cond.code yX6_fewestTracks cX6_fewestTracks 3 (some .int), Cond.fieldLink RX6 19 "NoseDrum$Room" "count" "I", Cond.methodLink RX6 23 yX6_clearLoads, Cond.instanceMethod yX6_clearLoads, Cond.selects RX6 yX6_clearLoads yX6_clearLoads]
def wsL_law_r55 : List Cond := [Cond.code yX6_clearLoads cX6_clearLoads 2 none, Cond.methodLink RX6 26 yX6_findsRoom, Cond.static yX6_findsRoom, Cond.code yX6_findsRoom cX6_findsRoom 6 (some .boolean), Cond.methodLink RL 154 yX12_fewest, Cond.instanceMethod yX12_fewest, Cond.selects RX12 yX12_fewest yX12_fewest, Cond.code yX12_fewest cX12_fewest 3 (some .int), Cond.methodLink RX12 417 yX12_asksMotions, Cond.instanceMethod yX12_asksMotions, Cond.selects RX12 yX12_asksMotions yX12_asksMotions, Cond.code yX12_asksMotions cX12_asksMotions 3 (some .int), Cond.methodLink RX12 414 yX12_isSlot, Cond.static yX12_isSlot, Cond.code yX12_isSlot cX12_isSlot 1 (some .boolean), Cond.constantLong RX12 464 (3), Cond.methodLink RX12 420 yX12_fillFew, Cond.instanceMethod yX12_fillFew, Cond.selects RX12 yX12_fillFew yX12_fillFew, Cond.code yX12_fillFew cX12_fillFew 4 none, Cond.methodLink RL 155 yX11_place, Cond.instanceMethod yX11_place, Cond.selects RX11 yX11_place yX11_place, Cond.code yX11_place cX11_place 4 (some .int)]
def wsL_law_r56 : List Cond := [Cond.fieldLink RX11 337 "NoseDrum$Room" "track" "[I", Cond.methodLink RL 158 yX12_place, Cond.instanceMethod yX12_place, Cond.selects RX12 yX12_place yX12_place, Cond.code yX12_place cX12_place 10 (some .int), Cond.methodLink RX12 423 yX12_canRest, Cond.instanceMethod yX12_canRest, Cond.selects RX12 yX12_canRest yX12_canRest, Cond.code yX12_canRest cX12_canRest 10 (some .boolean), Cond.methodLink RL 159 yX11_clash, Cond.instanceMethod yX11_clash, Cond.selects RX11 yX11_clash yX11_clash, Cond.code yX11_clash cX11_clash 3 (some .int), Cond.methodLink RX11 338 yX6_mostApart, Cond.instanceMethod yX6_mostApart, Cond.selects RX6 yX6_mostApart yX6_mostApart, Cond.code yX6_mostApart cX6_mostApart 4 (some .int), Cond.methodLink RX6 40 Lib.Math.max.name, Cond.methodLink RX6 30 yX6_areApart, Cond.instanceMethod yX6_areApart, Cond.selects RX6 yX6_areApart yX6_areApart, Cond.code yX6_areApart cX6_areApart 5 (some .boolean), Cond.methodLink RX6 34 yJ6_bitCount_0f7a4, Cond.static yJ6_bitCount_0f7a4]
def wsL_law_r57 : List Cond := [Cond.initialized RJ6, Cond.code yJ6_bitCount_0f7a4 cJ6_bitCount_0f7a4 1 (some .int), Cond.constant RJ6 265 (1431655765), Cond.constant RJ6 266 (858993459), Cond.constant RJ6 267 (252645135), Cond.methodLink RL 162 yX12_clash, Cond.instanceMethod yX12_clash, Cond.selects RX12 yX12_clash yX12_clash, Cond.code yX12_clash cX12_clash 9 (some .int), Cond.methodLink RL 163 yX11_heard, Cond.instanceMethod yX11_heard, Cond.selects RX11 yX11_heard yX11_heard, Cond.code yX11_heard cX11_heard 3 (some .long), Cond.constantLong RX11 344 (-2), Cond.methodLink RX11 341 yX11_isHeardHeight, Cond.static yX11_isHeardHeight, Cond.code yX11_isHeardHeight cX11_isHeardHeight 1 (some .boolean), Cond.methodLink RX11 346 yX0_bitsHeard, Cond.instanceMethod yX0_bitsHeard, Cond.selects RX0 yX0_bitsHeard yX0_bitsHeard, Cond.code yX0_bitsHeard cX0_bitsHeard 6 (some .long), Cond.methodLink RL 167 yX12_heard, Cond.instanceMethod yX12_heard, Cond.selects RX12 yX12_heard yX12_heard]
def wsL_law_r58 : List Cond := [Cond.code yX12_heard cX12_heard 3 (some .long), Cond.constantLong RX12 427 (99), Cond.constantLong RX12 433 (-2), Cond.methodLink RX12 429 yX12_heardOf, Cond.instanceMethod yX12_heardOf, Cond.selects RX12 yX12_heardOf yX12_heardOf, Cond.code yX12_heardOf cX12_heardOf 6 (some .long), Cond.methodLink RL 168 yX11_faults, Cond.instanceMethod yX11_faults, Cond.selects RX11 yX11_faults yX11_faults, Cond.code yX11_faults cX11_faults 5 (some .int), Cond.fieldLink RX11 354 "NoseDrum$Suspects" "many" "I", Cond.methodLink RX11 350 yX11_searchFaults, Cond.instanceMethod yX11_searchFaults, Cond.selects RX11 yX11_searchFaults yX11_searchFaults, Cond.code yX11_searchFaults cX11_searchFaults 9 (some .int), Cond.methodLink RX11 444 yX9_search, Cond.instanceMethod yX9_search, Cond.selects RX9 yX9_search yX9_search, Cond.code yX9_search cX9_search 9 none, Cond.fieldLink RX9 7 "NoseDrum$Suspects" "many" "I", Cond.fieldLink RX9 13 "NoseDrum$Suspects" "brokenBits" "I", Cond.fieldLink RX9 16 "NoseDrum$Suspects" "wornBits" "I", Cond.fieldLink RX9 19 "NoseDrum$Suspects" "leastWear" "I"]
def wsL_law_r59 : List Cond := [Cond.fieldLink RX9 22 "NoseDrum$Machine" "noses" "LNoseDrum$Noses;", Cond.fieldLink RX9 42 "NoseDrum$Suspects" "nothingIs" "Z", Cond.fieldLink RX9 46 "NoseDrum$Machine" "followers" "LNoseDrum$Followers;", Cond.fieldLink RX9 50 "NoseDrum$Followers" "on" "[I", Cond.fieldLink RX9 60 "NoseDrum$Noses" "count" "I", Cond.fieldLink RX9 65 "NoseDrum$Noses" "track" "[I", Cond.fieldLink RX9 72 "NoseDrum$Noses" "high" "[I", Cond.methodLink RX9 28 yX0_takeToldHeights, Cond.instanceMethod yX0_takeToldHeights, Cond.selects RX0 yX0_takeToldHeights yX0_takeToldHeights, Cond.code yX0_takeToldHeights cX0_takeToldHeights 3 none, Cond.fieldLink RX0 45 "NoseDrum$Noses" "high" "[I", Cond.methodLink RX9 34 yX0_fill, Cond.methodLink RX9 38 yX0_bitsHeard, Cond.methodLink RX9 56 yX1_rootOf, Cond.methodLink RX9 68 yX9_tryNose, Cond.instanceMethod yX9_tryNose, Cond.selects RX9 yX9_tryNose yX9_tryNose, Cond.code yX9_tryNose cX9_tryNose 10 none, Cond.fieldLink RX9 79 "NoseDrum$Curves" "heights" "[I", Cond.methodLink RX9 82 yX9_suspectBroken, Cond.instanceMethod yX9_suspectBroken, Cond.selects RX9 yX9_suspectBroken yX9_suspectBroken, Cond.code yX9_suspectBroken cX9_suspectBroken 2 none]
def wsL_law_r60 : List Cond := [Cond.methodLink RX9 86 yX9_suspectWorn, Cond.instanceMethod yX9_suspectWorn, Cond.selects RX9 yX9_suspectWorn yX9_suspectWorn, Cond.code yX9_suspectWorn cX9_suspectWorn 3 none, Cond.methodLink RX9 89 Lib.Math.min.name, Cond.methodLink RX9 75 yX9_suspectAll, Cond.instanceMethod yX9_suspectAll, Cond.selects RX9 yX9_suspectAll yX9_suspectAll, Cond.code yX9_suspectAll cX9_suspectAll 4 none, Cond.methodLink RL 171 yX12_faults, Cond.instanceMethod yX12_faults, Cond.selects RX12 yX12_faults yX12_faults, Cond.code yX12_faults cX12_faults 5 (some .int), Cond.fieldLink RX12 441 "NoseDrumModel" "fits" "I", Cond.methodLink RX12 453 yX12_asksHeard, Cond.instanceMethod yX12_asksHeard, Cond.selects RX12 yX12_asksHeard yX12_asksHeard, Cond.code yX12_asksHeard cX12_asksHeard 5 (some .int), Cond.methodLink RX12 456 yX12_rowSet, Cond.instanceMethod yX12_rowSet, Cond.selects RX12 yX12_rowSet yX12_rowSet, Cond.code yX12_rowSet cX12_rowSet 5 (some .long), Cond.methodLink RX12 460 yX12_fillFits, Cond.instanceMethod yX12_fillFits]
def wsL_law_r61 : List Cond := [Cond.selects RX12 yX12_fillFits yX12_fillFits, Cond.code yX12_fillFits cX12_fillFits 8 none, Cond.fieldLink RX12 438 "NoseDrumModel" "fitSound" "I", Cond.fieldLink RX12 444 "NoseDrumModel" "fitBroken" "I", Cond.fieldLink RX12 447 "NoseDrumModel" "fitWorn" "I", Cond.fieldLink RX12 450 "NoseDrumModel" "fitLeast" "I", Cond.methodLink RX12 435 yX12_wholes, Cond.instanceMethod yX12_wholes, Cond.selects RX12 yX12_wholes yX12_wholes, Cond.code yX12_wholes cX12_wholes 2 none, Cond.methodLink RL 172 yX11_guess, Cond.instanceMethod yX11_guess, Cond.selects RX11 yX11_guess yX11_guess, Cond.code yX11_guess cX11_guess 6 (some .int), Cond.fieldLink RX11 357 "NoseDrum$Suspects" "brokenBits" "I", Cond.fieldLink RX11 360 "NoseDrum$Suspects" "wornBits" "I", Cond.fieldLink RX11 363 "NoseDrum$Suspects" "nothingIs" "Z", Cond.fieldLink RX11 366 "NoseDrum$Suspects" "leastWear" "I", Cond.methodLink RL 176 yX12_guess, Cond.instanceMethod yX12_guess, Cond.selects RX12 yX12_guess yX12_guess, Cond.code yX12_guess cX12_guess 6 (some .int), Cond.methodLink RL 177 yX11_margin, Cond.instanceMethod yX11_margin]
def wsL_law_r62 : List Cond := [Cond.selects RX11 yX11_margin yX11_margin, Cond.code yX11_margin cX11_margin 8 (some .int), Cond.fieldLink RX11 369 "NoseDrum$Curves" "heights" "[I", Cond.methodLink RX11 372 yX0_fill, Cond.methodLink RL 180 yX12_margin, Cond.instanceMethod yX12_margin, Cond.selects RX12 yX12_margin yX12_margin, Cond.code yX12_margin cX12_margin 9 (some .int), Cond.methodLink RL 181 yX11_years, Cond.instanceMethod yX11_years, Cond.selects RX11 yX11_years yX11_years, Cond.code yX11_years cX11_years 8 (some .int), Cond.methodLink RX11 375 yX11_areYears, Cond.static yX11_areYears, Cond.code yX11_areYears cX11_areYears 3 (some .boolean), Cond.constant RX11 433 (2000000000), Cond.methodLink RX11 379 yX3_wornTogether, Cond.instanceMethod yX3_wornTogether, Cond.selects RX3 yX3_wornTogether yX3_wornTogether, Cond.code yX3_wornTogether cX3_wornTogether 3 (some .int), Cond.methodLink RX11 383 yX3_passYear, Cond.instanceMethod yX3_passYear, Cond.selects RX3 yX3_passYear yX3_passYear, Cond.code yX3_passYear cX3_passYear 8 (some .long)]
def wsL_law_r63 : List Cond := [Cond.constantLong RX3 72 (1103515245), Cond.constantLong RX3 74 (12345), Cond.constantLong RX3 76 (2147483647), Cond.constantLong RX3 78 (65536), Cond.constantLong RX3 80 (100), Cond.methodLink RL 184 yX12_years, Cond.instanceMethod yX12_years, Cond.selects RX12 yX12_years yX12_years, Cond.code yX12_years cX12_years 6 (some .int), Cond.fieldLink RX12 468 "NoseDrumModel" "drawn" "J", Cond.methodLink RX12 485 yX12_isYears, Cond.instanceMethod yX12_isYears, Cond.selects RX12 yX12_isYears yX12_isYears, Cond.code yX12_isYears cX12_isYears 4 (some .boolean), Cond.constantLong RX12 483 (2000000000), Cond.constantLong RX12 478 (100), Cond.methodLink RX12 488 yX12_year, Cond.instanceMethod yX12_year, Cond.selects RX12 yX12_year yX12_year, Cond.code yX12_year cX12_year 4 (some .int), Cond.methodLink RX12 480 yX12_draw, Cond.instanceMethod yX12_draw, Cond.selects RX12 yX12_draw yX12_draw, Cond.code yX12_draw cX12_draw 1 (some .int)]
def wsL_law_r64 : List Cond := [Cond.constantLong RX12 466 (1103515245), Cond.constantLong RX12 472 (12345), Cond.constantLong RX12 474 (2147483648), Cond.constantLong RX12 476 (65536), Cond.methodLink RL 185 yX11_until, Cond.instanceMethod yX11_until, Cond.selects RX11 yX11_until yX11_until, Cond.code yX11_until cX11_until 11 (some .int), Cond.fieldLink RX11 387 "NoseDrum$Curves" "worn" "[I", Cond.methodLink RX11 388 arraycopyName, Cond.methodLink RL 188 yX12_until, Cond.instanceMethod yX12_until, Cond.selects RX12 yX12_until yX12_until, Cond.code yX12_until cX12_until 10 (some .int), Cond.methodLink RL 189 yX11_count, Cond.instanceMethod yX11_count, Cond.selects RX11 yX11_count yX11_count, Cond.code yX11_count cX11_count 2 (some .int), Cond.fieldLink RX11 394 "NoseDrum$Machine" "tracks" "I", Cond.fieldLink RX11 397 "NoseDrum$Machine" "slack" "I", Cond.methodLink RX11 400 yX3_brokenBits, Cond.instanceMethod yX3_brokenBits, Cond.selects RX3 yX3_brokenBits yX3_brokenBits, Cond.code yX3_brokenBits cX3_brokenBits 3 (some .int)]
def wsL_law_r65 : List Cond := [Cond.methodLink RX11 402 yX8_howManyHaveRows, Cond.instanceMethod yX8_howManyHaveRows, Cond.selects RX8 yX8_howManyHaveRows yX8_howManyHaveRows, Cond.code yX8_howManyHaveRows cX8_howManyHaveRows 3 (some .int), Cond.methodLink RL 192 yX12_count, Cond.instanceMethod yX12_count, Cond.selects RX12 yX12_count yX12_count, Cond.code yX12_count cX12_count 4 (some .int), Cond.methodLink RL 193 yX11_keep, Cond.instanceMethod yX11_keep, Cond.selects RX11 yX11_keep yX11_keep, Cond.code yX11_keep cX11_keep 2 (some .int), Cond.methodLink RX11 405 yX2_copyFrom, Cond.instanceMethod yX2_copyFrom, Cond.selects RX2 yX2_copyFrom yX2_copyFrom, Cond.code yX2_copyFrom cX2_copyFrom 2 none, Cond.methodLink RX2 103 arraycopyName, Cond.methodLink RX2 90 yX3_copyFrom, Cond.instanceMethod yX3_copyFrom, Cond.selects RX3 yX3_copyFrom yX3_copyFrom, Cond.code yX3_copyFrom cX3_copyFrom 2 none, Cond.methodLink RX3 61 arraycopyName, Cond.methodLink RX2 94 yX1_copyFrom, Cond.instanceMethod yX1_copyFrom]
def wsL_law_r66 : List Cond := [Cond.selects RX1 yX1_copyFrom yX1_copyFrom, Cond.code yX1_copyFrom cX1_copyFrom 2 none, Cond.methodLink RX1 89 arraycopyName, Cond.methodLink RX2 97 yX4_copyFrom, Cond.instanceMethod yX4_copyFrom, Cond.selects RX4 yX4_copyFrom yX4_copyFrom, Cond.code yX4_copyFrom cX4_copyFrom 2 none, Cond.methodLink RX4 48 arraycopyName, Cond.methodLink RX2 100 yX7_copyFrom, Cond.instanceMethod yX7_copyFrom, Cond.selects RX7 yX7_copyFrom yX7_copyFrom, Cond.code yX7_copyFrom cX7_copyFrom 2 none, Cond.methodLink RL 196 yX12_keep, Cond.instanceMethod yX12_keep, Cond.selects RX12 yX12_keep yX12_keep, Cond.code yX12_keep cX12_keep 3 (some .int), Cond.methodLink RL 197 yX11_back, Cond.instanceMethod yX11_back, Cond.selects RX11 yX11_back yX11_back, Cond.code yX11_back cX11_back 2 (some .int), Cond.methodLink RL 200 yX12_back, Cond.instanceMethod yX12_back, Cond.selects RX12 yX12_back yX12_back, Cond.code yX12_back cX12_back 3 (some .int)]
def wsL_law_r67 : List Cond := [Cond.methodLink RL 201 yX11_row, Cond.instanceMethod yX11_row, Cond.selects RX11 yX11_row yX11_row, Cond.code yX11_row cX11_row 4 (some .int), Cond.methodLink RX11 411 yX8_makeRow, Cond.instanceMethod yX8_makeRow, Cond.selects RX8 yX8_makeRow yX8_makeRow, Cond.code yX8_makeRow cX8_makeRow 5 none, Cond.methodLink RL 204 yX12_row, Cond.instanceMethod yX12_row, Cond.selects RX12 yX12_row yX12_row, Cond.code yX12_row cX12_row 5 (some .int), Cond.methodLink RL 207 yX11_write, Cond.instanceMethod yX11_write, Cond.selects RX11 yX11_write yX11_write, Cond.code yX11_write cX11_write 5 (some .int), Cond.methodLink RX11 420 yX8_put, Cond.instanceMethod yX8_put, Cond.selects RX8 yX8_put yX8_put, Cond.code yX8_put cX8_put 5 none, Cond.methodLink RX8 26 yX8_cutTo, Cond.static yX8_cutTo, Cond.code yX8_cutTo cX8_cutTo 3 (some .long), Cond.methodLink RL 211 yX12_write]
def wsL_law_r68 : List Cond := [Cond.instanceMethod yX12_write, Cond.selects RX12 yX12_write yX12_write, Cond.code yX12_write cX12_write 5 (some .int), Cond.methodLink RX12 491 yX12_cut_, Cond.static yX12_cut_, Cond.code yX12_cut_ cX12_cut_ 4 (some .long), Cond.methodLink RL 212 yX11_paste, Cond.instanceMethod yX11_paste, Cond.selects RX11 yX11_paste yX11_paste, Cond.code yX11_paste cX11_paste 6 (some .int), Cond.fieldLink RX11 423 "NoseDrum$Slots" "width" "[I", Cond.methodLink RX11 426 yX8_holds, Cond.instanceMethod yX8_holds, Cond.selects RX8 yX8_holds yX8_holds, Cond.code yX8_holds cX8_holds 4 (some .boolean), Cond.methodLink RX11 429 yX8_copyNumbers, Cond.instanceMethod yX8_copyNumbers, Cond.selects RX8 yX8_copyNumbers yX8_copyNumbers, Cond.code yX8_copyNumbers cX8_copyNumbers 6 none, Cond.methodLink RX8 30 arraycopyName, Cond.methodLink RL 215 yX12_paste, Cond.instanceMethod yX12_paste, Cond.selects RX12 yX12_paste yX12_paste, Cond.code yX12_paste cX12_paste 7 (some .int)]
def wsL_law : List Cond := (wsL_law_r1 ++ (wsL_law_r2 ++ (wsL_law_r3 ++ (wsL_law_r4 ++ (wsL_law_r5 ++ (wsL_law_r6 ++ (wsL_law_r7 ++ (wsL_law_r8 ++ (wsL_law_r9 ++ (wsL_law_r10 ++ (wsL_law_r11 ++ (wsL_law_r12 ++ (wsL_law_r13 ++ (wsL_law_r14 ++ (wsL_law_r15 ++ (wsL_law_r16 ++ (wsL_law_r17 ++ (wsL_law_r18 ++ (wsL_law_r19 ++ (wsL_law_r20 ++ (wsL_law_r21 ++ (wsL_law_r22 ++ (wsL_law_r23 ++ (wsL_law_r24 ++ (wsL_law_r25 ++ (wsL_law_r26 ++ (wsL_law_r27 ++ (wsL_law_r28 ++ (wsL_law_r29 ++ (wsL_law_r30 ++ (wsL_law_r31 ++ (wsL_law_r32 ++ (wsL_law_r33 ++ (wsL_law_r34 ++ (wsL_law_r35 ++ (wsL_law_r36 ++ (wsL_law_r37 ++ (wsL_law_r38 ++ (wsL_law_r39 ++ (wsL_law_r40 ++ (wsL_law_r41 ++ (wsL_law_r42 ++ (wsL_law_r43 ++ (wsL_law_r44 ++ (wsL_law_r45 ++ (wsL_law_r46 ++ (wsL_law_r47 ++ (wsL_law_r48 ++ (wsL_law_r49 ++ (wsL_law_r50 ++ (wsL_law_r51 ++ (wsL_law_r52 ++ (wsL_law_r53 ++ (wsL_law_r54 ++ (wsL_law_r55 ++ (wsL_law_r56 ++ (wsL_law_r57 ++ (wsL_law_r58 ++ (wsL_law_r59 ++ (wsL_law_r60 ++ (wsL_law_r61 ++ (wsL_law_r62 ++ (wsL_law_r63 ++ (wsL_law_r64 ++ (wsL_law_r65 ++ (wsL_law_r66 ++ (wsL_law_r67 ++ wsL_law_r68))))))))))))))))))))))))))))))))))))))))))))))))))))))))))))))))))) ++ wsX110 ++ wsX120 ++ wsX100 ++ wsX50 ++ wsX00 ++ wsX90 ++ wsX80 ++ wsX60 ++ wsX20 ++ wsX30 ++ wsX10 ++ wsX40 ++ wsX70 ++ ([] : List Cond)
theorem inlX0 : ∀ w ∈ wsX00, w ∈ wsL_law := fun _ h => List.mem_append_left _ (List.mem_append_left _ (List.mem_append_left _ (List.mem_append_left _ (List.mem_append_left _ (List.mem_append_left _ (List.mem_append_left _ (List.mem_append_left _ (List.mem_append_left _ (List.mem_append_right _ h)))))))))
theorem inlX1 : ∀ w ∈ wsX10, w ∈ wsL_law := fun _ h => List.mem_append_left _ (List.mem_append_left _ (List.mem_append_left _ (List.mem_append_right _ h)))
theorem inlX2 : ∀ w ∈ wsX20, w ∈ wsL_law := fun _ h => List.mem_append_left _ (List.mem_append_left _ (List.mem_append_left _ (List.mem_append_left _ (List.mem_append_left _ (List.mem_append_right _ h)))))
theorem inlX3 : ∀ w ∈ wsX30, w ∈ wsL_law := fun _ h => List.mem_append_left _ (List.mem_append_left _ (List.mem_append_left _ (List.mem_append_left _ (List.mem_append_right _ h))))
theorem inlX4 : ∀ w ∈ wsX40, w ∈ wsL_law := fun _ h => List.mem_append_left _ (List.mem_append_left _ (List.mem_append_right _ h))
theorem inlX5 : ∀ w ∈ wsX50, w ∈ wsL_law := fun _ h => List.mem_append_left _ (List.mem_append_left _ (List.mem_append_left _ (List.mem_append_left _ (List.mem_append_left _ (List.mem_append_left _ (List.mem_append_left _ (List.mem_append_left _ (List.mem_append_left _ (List.mem_append_left _ (List.mem_append_right _ h))))))))))
theorem inlX6 : ∀ w ∈ wsX60, w ∈ wsL_law := fun _ h => List.mem_append_left _ (List.mem_append_left _ (List.mem_append_left _ (List.mem_append_left _ (List.mem_append_left _ (List.mem_append_left _ (List.mem_append_right _ h))))))
theorem inlX7 : ∀ w ∈ wsX70, w ∈ wsL_law := fun _ h => List.mem_append_left _ (List.mem_append_right _ h)
theorem inlX8 : ∀ w ∈ wsX80, w ∈ wsL_law := fun _ h => List.mem_append_left _ (List.mem_append_left _ (List.mem_append_left _ (List.mem_append_left _ (List.mem_append_left _ (List.mem_append_left _ (List.mem_append_left _ (List.mem_append_right _ h)))))))
theorem inlX9 : ∀ w ∈ wsX90, w ∈ wsL_law := fun _ h => List.mem_append_left _ (List.mem_append_left _ (List.mem_append_left _ (List.mem_append_left _ (List.mem_append_left _ (List.mem_append_left _ (List.mem_append_left _ (List.mem_append_left _ (List.mem_append_right _ h))))))))
theorem inlX10 : ∀ w ∈ wsX100, w ∈ wsL_law := fun _ h => List.mem_append_left _ (List.mem_append_left _ (List.mem_append_left _ (List.mem_append_left _ (List.mem_append_left _ (List.mem_append_left _ (List.mem_append_left _ (List.mem_append_left _ (List.mem_append_left _ (List.mem_append_left _ (List.mem_append_left _ (List.mem_append_right _ h)))))))))))
theorem inlX11 : ∀ w ∈ wsX110, w ∈ wsL_law := fun _ h => List.mem_append_left _ (List.mem_append_left _ (List.mem_append_left _ (List.mem_append_left _ (List.mem_append_left _ (List.mem_append_left _ (List.mem_append_left _ (List.mem_append_left _ (List.mem_append_left _ (List.mem_append_left _ (List.mem_append_left _ (List.mem_append_left _ (List.mem_append_left _ (List.mem_append_right _ h)))))))))))))
theorem inlX12 : ∀ w ∈ wsX120, w ∈ wsL_law := fun _ h => List.mem_append_left _ (List.mem_append_left _ (List.mem_append_left _ (List.mem_append_left _ (List.mem_append_left _ (List.mem_append_left _ (List.mem_append_left _ (List.mem_append_left _ (List.mem_append_left _ (List.mem_append_left _ (List.mem_append_left _ (List.mem_append_left _ (List.mem_append_right _ h))))))))))))
abbrev vwCl : List vw_C := [(RX0, TX0, 7), (RX1, TX1, 10), (RX2, TX2, 14), (RX3, TX3, 8), (RX4, TX4, 5), (RX5, TX5, 11), (RX6, TX6, 4), (RX7, TX7, 8), (RX8, TX8, 4), (RX9, TX9, 5), (RX10, TX10, 8), (RX11, TX11, 10), (RX12, TX12, 42)]
end
section
theorem sub_of (ws : List Cond) (ps : List Nat) (hp : ws = ps.filterMap (fun i => lw_tbl[i]?)) : ∀ w ∈ ws, w ∈ lw_tbl := by
  intro w hw
  rw [hp] at hw
  obtain ⟨i, -, hi⟩ := List.mem_filterMap.mp hw
  exact List.mem_of_getElem? hi
set_option maxRecDepth 20000 in
theorem it_r1 : ∀ w ∈ wsL_law_r1, w ∈ lw_tbl := sub_of _ [128, 129, 108, 1432, 1433, 120, 2098, 130, 131, 132, 133, 134, 135, 136, 137, 109, 559, 172, 173, 110, 560, 213, 214, 111] (by decide +kernel)
set_option maxRecDepth 20000 in
theorem ig_r1 : ∀ w ∈ wsL_law_r1, goodWord w = true := by decide +kernel
set_option maxRecDepth 20000 in
theorem it_r2 : ∀ w ∈ wsL_law_r2, w ∈ lw_tbl := sub_of _ [561, 250, 251, 112, 562, 277, 278, 113, 563, 300, 301, 114, 564, 322, 565, 298, 566, 324, 115, 567, 568, 139, 140, 141] (by decide +kernel)
set_option maxRecDepth 20000 in
theorem ig_r2 : ∀ w ∈ wsL_law_r2, goodWord w = true := by decide +kernel
set_option maxRecDepth 20000 in
theorem it_r3 : ∀ w ∈ wsL_law_r3, w ∈ lw_tbl := sub_of _ [171, 142, 148, 175, 176, 177, 212, 179, 180, 181, 182, 184, 185, 186, 216, 217, 218, 221, 224, 226, 228, 230, 232, 219] (by decide +kernel)
set_option maxRecDepth 20000 in
theorem ig_r3 : ∀ w ∈ wsL_law_r3, goodWord w = true := by decide +kernel
set_option maxRecDepth 20000 in
theorem it_r4 : ∀ w ∈ wsL_law_r4, w ∈ lw_tbl := sub_of _ [234, 253, 254, 255, 280, 281, 282, 283, 285, 287, 299, 288, 303, 304, 305, 308, 310, 312, 326, 327, 328, 329, 330, 116] (by decide +kernel)
set_option maxRecDepth 20000 in
theorem ig_r4 : ∀ w ∈ wsL_law_r4, goodWord w = true := by decide +kernel
set_option maxRecDepth 20000 in
theorem it_r5 : ∀ w ∈ wsL_law_r5, w ∈ lw_tbl := sub_of _ [514, 379, 380, 117, 518, 429, 430, 118, 522, 456, 457, 119, 524, 526, 332, 333, 334, 340, 344, 347, 350, 354, 357, 360] (by decide +kernel)
set_option maxRecDepth 20000 in
theorem ig_r5 : ∀ w ∈ wsL_law_r5, goodWord w = true := by decide +kernel
set_option maxRecDepth 20000 in
theorem it_r6 : ∀ w ∈ wsL_law_r6, w ∈ lw_tbl := sub_of _ [382, 383, 384, 390, 393, 396, 398, 399, 401, 402, 405, 407, 432, 433, 434, 438, 440, 442, 443, 459, 460, 461, 477, 1434] (by decide +kernel)
set_option maxRecDepth 20000 in
theorem ig_r6 : ∀ w ∈ wsL_law_r6, goodWord w = true := by decide +kernel
set_option maxRecDepth 20000 in
theorem it_r7 : ∀ w ∈ wsL_law_r7, w ∈ lw_tbl := sub_of _ [1435, 1436, 1437, 1441, 1442, 1443, 1444, 1446, 1453, 1454, 1455, 1456, 1457, 1458, 1459, 1460, 1462, 1464, 1465, 1467, 1468, 1469, 1470, 1476] (by decide +kernel)
set_option maxRecDepth 20000 in
theorem ig_r7 : ∀ w ∈ wsL_law_r7, goodWord w = true := by decide +kernel
set_option maxRecDepth 20000 in
theorem it_r8 : ∀ w ∈ wsL_law_r8, w ∈ lw_tbl := sub_of _ [1478, 1479, 1480, 1481, 1438, 1439, 1440, 590, 591, 592, 593, 144, 594, 595, 596, 597, 143, 598, 599, 600, 601, 1579, 1580, 1581] (by decide +kernel)
set_option maxRecDepth 20000 in
theorem ig_r8 : ∀ w ∈ wsL_law_r8, goodWord w = true := by decide +kernel
set_option maxRecDepth 20000 in
theorem it_r9 : ∀ w ∈ wsL_law_r9, w ∈ lw_tbl := sub_of _ [1582, 1445, 602, 603, 604, 605, 1583, 1584, 1585, 1586, 1572, 1573, 1574, 606, 607, 608, 609, 146, 507, 610, 611, 612, 613, 497] (by decide +kernel)
set_option maxRecDepth 20000 in
theorem ig_r9 : ∀ w ∈ wsL_law_r9, goodWord w = true := by decide +kernel
set_option maxRecDepth 20000 in
theorem it_r10 : ∀ w ∈ wsL_law_r10, w ∈ lw_tbl := sub_of _ [501, 503, 505, 508, 510, 511, 512, 513, 338, 388, 436, 614, 615, 616, 617, 462, 465, 467, 470, 473, 475, 479, 618, 619] (by decide +kernel)
set_option maxRecDepth 20000 in
theorem ig_r10 : ∀ w ∈ wsL_law_r10, goodWord w = true := by decide +kernel
set_option maxRecDepth 20000 in
theorem it_r11 : ∀ w ∈ wsL_law_r11, w ∈ lw_tbl := sub_of _ [620, 621, 145, 152, 622, 623, 624, 625, 151, 150, 626, 628, 0, 629, 630, 632, 1, 633, 634, 635, 636, 637, 639, 2] (by decide +kernel)
set_option maxRecDepth 20000 in
theorem ig_r11 : ∀ w ∈ wsL_law_r11, goodWord w = true := by decide +kernel
set_option maxRecDepth 20000 in
theorem it_r12 : ∀ w ∈ wsL_law_r12, w ∈ lw_tbl := sub_of _ [640, 641, 642, 643, 644, 646, 3, 647, 153, 648, 649, 650, 651, 652, 653, 654, 655, 656, 657, 659, 4, 660, 661, 663] (by decide +kernel)
set_option maxRecDepth 20000 in
theorem ig_r12 : ∀ w ∈ wsL_law_r12, goodWord w = true := by decide +kernel
set_option maxRecDepth 20000 in
theorem it_r13 : ∀ w ∈ wsL_law_r13, w ∈ lw_tbl := sub_of _ [5, 664, 666, 667, 668, 669, 670, 671, 672, 673, 674, 675, 676, 121, 677, 2099, 678, 679, 680, 681, 682, 2100, 684, 685] (by decide +kernel)
set_option maxRecDepth 20000 in
theorem ig_r13 : ∀ w ∈ wsL_law_r13, goodWord w = true := by decide +kernel
set_option maxRecDepth 20000 in
theorem it_r14 : ∀ w ∈ wsL_law_r14, w ∈ lw_tbl := sub_of _ [686, 687, 688, 689, 690, 691, 692, 693, 122, 694, 695, 696, 697, 698, 700, 701, 123, 702, 703, 704, 124, 705, 706, 707] (by decide +kernel)
set_option maxRecDepth 20000 in
theorem ig_r14 : ∀ w ∈ wsL_law_r14, goodWord w = true := by decide +kernel
set_option maxRecDepth 20000 in
theorem it_r15 : ∀ w ∈ wsL_law_r15, w ∈ lw_tbl := sub_of _ [708, 709, 710, 711, 712, 713, 714, 715, 716, 718, 720, 722, 723, 724, 725, 727, 728, 729, 730, 734, 735, 737, 6, 738] (by decide +kernel)
set_option maxRecDepth 20000 in
theorem ig_r15 : ∀ w ∈ wsL_law_r15, goodWord w = true := by decide +kernel
set_option maxRecDepth 20000 in
theorem it_r16 : ∀ w ∈ wsL_law_r16, w ∈ lw_tbl := sub_of _ [739, 740, 742, 743, 744, 745, 335, 746, 747, 749, 750, 756, 757, 758, 759, 435, 760, 761, 763, 764, 768, 770, 7, 771] (by decide +kernel)
set_option maxRecDepth 20000 in
theorem ig_r16 : ∀ w ∈ wsL_law_r16, goodWord w = true := by decide +kernel
set_option maxRecDepth 20000 in
theorem it_r17 : ∀ w ∈ wsL_law_r17, w ∈ lw_tbl := sub_of _ [773, 774, 775, 776, 385, 777, 778, 779, 781, 785, 786, 787, 789, 8, 790, 792, 793, 795, 797, 9, 798, 801, 802, 803] (by decide +kernel)
set_option maxRecDepth 20000 in
theorem ig_r17 : ∀ w ∈ wsL_law_r17, goodWord w = true := by decide +kernel
set_option maxRecDepth 20000 in
theorem it_r18 : ∀ w ∈ wsL_law_r18, w ∈ lw_tbl := sub_of _ [804, 805, 806, 807, 808, 809, 810, 811, 812, 516, 358, 521, 389, 887, 889, 888, 126, 813, 814, 815, 816, 336, 817, 818] (by decide +kernel)
set_option maxRecDepth 20000 in
theorem ig_r18 : ∀ w ∈ wsL_law_r18, goodWord w = true := by decide +kernel
set_option maxRecDepth 20000 in
theorem it_r19 : ∀ w ∈ wsL_law_r19, w ∈ lw_tbl := sub_of _ [819, 820, 821, 822, 125, 823, 824, 825, 826, 827, 395, 391, 397, 400, 828, 829, 830, 831, 832, 833, 834, 835, 836, 838] (by decide +kernel)
set_option maxRecDepth 20000 in
theorem ig_r19 : ∀ w ∈ wsL_law_r19, goodWord w = true := by decide +kernel
set_option maxRecDepth 20000 in
theorem it_r20 : ∀ w ∈ wsL_law_r20, w ∈ lw_tbl := sub_of _ [10, 839, 840, 842, 11, 843, 342, 844, 846, 12, 847, 498, 848, 850, 13, 851, 355, 348, 345, 852, 853, 854, 855, 856] (by decide +kernel)
set_option maxRecDepth 20000 in
theorem ig_r20 : ∀ w ∈ wsL_law_r20, goodWord w = true := by decide +kernel
set_option maxRecDepth 20000 in
theorem it_r21 : ∀ w ∈ wsL_law_r21, w ∈ lw_tbl := sub_of _ [857, 858, 859, 860, 861, 862, 863, 864, 865, 125, 866, 867, 869, 14, 870, 871, 872, 873, 874, 875, 876, 878, 15, 879] (by decide +kernel)
set_option maxRecDepth 20000 in
theorem ig_r21 : ∀ w ∈ wsL_law_r21, goodWord w = true := by decide +kernel
set_option maxRecDepth 20000 in
theorem it_r22 : ∀ w ∈ wsL_law_r22, w ∈ lw_tbl := sub_of _ [880, 881, 882, 883, 884, 885, 886, 890, 891, 892, 893, 894, 895, 896, 897, 898, 899, 900, 901, 1591, 1592, 1593, 1594, 1450] (by decide +kernel)
set_option maxRecDepth 20000 in
theorem ig_r22 : ∀ w ∈ wsL_law_r22, goodWord w = true := by decide +kernel
set_option maxRecDepth 20000 in
theorem it_r23 : ∀ w ∈ wsL_law_r23, w ∈ lw_tbl := sub_of _ [1595, 1597, 38, 1598, 1447, 1448, 1452, 1599, 1601, 39, 1602, 1449, 1607, 1608, 1609, 1610, 1451, 1611, 1612, 1603, 1605, 40, 1606, 1613] (by decide +kernel)
set_option maxRecDepth 20000 in
theorem ig_r23 : ∀ w ∈ wsL_law_r23, goodWord w = true := by decide +kernel
set_option maxRecDepth 20000 in
theorem it_r24 : ∀ w ∈ wsL_law_r24, w ∈ lw_tbl := sub_of _ [1615, 41, 1616, 1617, 1619, 42, 1620, 1622, 1624, 43, 1625, 1626, 1628, 44, 1629, 1630, 1632, 45, 1633, 1634, 1635, 1636, 1638, 46] (by decide +kernel)
set_option maxRecDepth 20000 in
theorem ig_r24 : ∀ w ∈ wsL_law_r24, goodWord w = true := by decide +kernel
set_option maxRecDepth 20000 in
theorem it_r25 : ∀ w ∈ wsL_law_r25, w ∈ lw_tbl := sub_of _ [1639, 1641, 1643, 47, 1644, 1645, 1647, 48, 1648, 1651, 1653, 49, 1654, 1655, 1657, 50, 1658, 1667, 1669, 51, 1670, 1676, 1678, 52] (by decide +kernel)
set_option maxRecDepth 20000 in
theorem ig_r25 : ∀ w ∈ wsL_law_r25, goodWord w = true := by decide +kernel
set_option maxRecDepth 20000 in
theorem it_r26 : ∀ w ∈ wsL_law_r26, w ∈ lw_tbl := sub_of _ [1679, 1682, 1684, 53, 1685, 1689, 1691, 54, 1692, 1693, 1695, 55, 1696, 1697, 1699, 56, 1700, 1701, 1703, 57, 1704, 1705, 1707, 58] (by decide +kernel)
set_option maxRecDepth 20000 in
theorem ig_r26 : ∀ w ∈ wsL_law_r26, goodWord w = true := by decide +kernel
set_option maxRecDepth 20000 in
theorem it_r27 : ∀ w ∈ wsL_law_r27, w ∈ lw_tbl := sub_of _ [1708, 1709, 1711, 59, 1712, 1721, 1713, 1715, 60, 1716, 1717, 1719, 61, 1720, 1722, 1724, 62, 1725, 1726, 1728, 63, 1729, 1730, 1732] (by decide +kernel)
set_option maxRecDepth 20000 in
theorem ig_r27 : ∀ w ∈ wsL_law_r27, goodWord w = true := by decide +kernel
set_option maxRecDepth 20000 in
theorem it_r28 : ∀ w ∈ wsL_law_r28, w ∈ lw_tbl := sub_of _ [64, 1733, 1734, 1736, 65, 1737, 1738, 1740, 66, 1741, 1742, 1744, 67, 1745, 902, 903, 904, 905, 520, 387, 509, 906, 907, 908] (by decide +kernel)
set_option maxRecDepth 20000 in
theorem ig_r28 : ∀ w ∈ wsL_law_r28, goodWord w = true := by decide +kernel
set_option maxRecDepth 20000 in
theorem it_r29 : ∀ w ∈ wsL_law_r29, w ∈ lw_tbl := sub_of _ [909, 910, 911, 912, 913, 178, 183, 914, 915, 917, 16, 918, 920, 921, 923, 17, 924, 925, 926, 927, 928, 930, 18, 931] (by decide +kernel)
set_option maxRecDepth 20000 in
theorem ig_r29 : ∀ w ∈ wsL_law_r29, goodWord w = true := by decide +kernel
set_option maxRecDepth 20000 in
theorem it_r30 : ∀ w ∈ wsL_law_r30, w ∈ lw_tbl := sub_of _ [935, 937, 19, 938, 147, 939, 940, 943, 944, 946, 20, 947, 948, 949, 950, 951, 187, 188, 527, 952, 499, 953, 955, 21] (by decide +kernel)
set_option maxRecDepth 20000 in
theorem ig_r30 : ∀ w ∈ wsL_law_r30, goodWord w = true := by decide +kernel
set_option maxRecDepth 20000 in
theorem it_r31 : ∀ w ∈ wsL_law_r31, w ∈ lw_tbl := sub_of _ [956, 961, 957, 959, 22, 960, 962, 964, 23, 965, 966, 967, 969, 24, 970, 1896, 1897, 1898, 1899, 1461, 1463, 1466, 1900, 1902] (by decide +kernel)
set_option maxRecDepth 20000 in
theorem ig_r31 : ∀ w ∈ wsL_law_r31, goodWord w = true := by decide +kernel
set_option maxRecDepth 20000 in
theorem it_r32 : ∀ w ∈ wsL_law_r32, w ∈ lw_tbl := sub_of _ [84, 1903, 1904, 1906, 85, 1907, 1908, 1910, 86, 1911, 1916, 1918, 87, 1919, 1922, 1924, 88, 1925, 1926, 1928, 89, 1929, 1930, 1932] (by decide +kernel)
set_option maxRecDepth 20000 in
theorem ig_r32 : ∀ w ∈ wsL_law_r32, goodWord w = true := by decide +kernel
set_option maxRecDepth 20000 in
theorem it_r33 : ∀ w ∈ wsL_law_r33, w ∈ lw_tbl := sub_of _ [90, 1933, 971, 972, 973, 974, 149, 1587, 1588, 1589, 1590, 975, 976, 977, 978, 227, 979, 980, 981, 982, 983, 984, 985, 986] (by decide +kernel)
set_option maxRecDepth 20000 in
theorem ig_r33 : ∀ w ∈ wsL_law_r33, goodWord w = true := by decide +kernel
set_option maxRecDepth 20000 in
theorem it_r34 : ∀ w ∈ wsL_law_r34, w ∈ lw_tbl := sub_of _ [987, 1746, 1747, 1748, 1749, 1750, 1752, 68, 1753, 1754, 1756, 69, 1757, 988, 989, 990, 991, 229, 992, 993, 994, 995, 996, 1758] (by decide +kernel)
set_option maxRecDepth 20000 in
theorem ig_r34 : ∀ w ∈ wsL_law_r34, goodWord w = true := by decide +kernel
set_option maxRecDepth 20000 in
theorem it_r35 : ∀ w ∈ wsL_law_r35, w ∈ lw_tbl := sub_of _ [1759, 1760, 1761, 1762, 1764, 70, 1765, 997, 998, 999, 1000, 500, 1002, 1001, 1766, 1767, 1768, 1769, 1003, 1004, 1005, 1006, 502, 1007] (by decide +kernel)
set_option maxRecDepth 20000 in
theorem ig_r35 : ∀ w ∈ wsL_law_r35, goodWord w = true := by decide +kernel
set_option maxRecDepth 20000 in
theorem it_r36 : ∀ w ∈ wsL_law_r36, w ∈ lw_tbl := sub_of _ [1009, 25, 1010, 1770, 1771, 1772, 1773, 1011, 1012, 1013, 1014, 1774, 1775, 1776, 1777, 1778, 1015, 1016, 1017, 1018, 1019, 1020, 1021, 1022] (by decide +kernel)
set_option maxRecDepth 20000 in
theorem ig_r36 : ∀ w ∈ wsL_law_r36, goodWord w = true := by decide +kernel
set_option maxRecDepth 20000 in
theorem it_r37 : ∀ w ∈ wsL_law_r37, w ∈ lw_tbl := sub_of _ [1023, 1024, 1025, 464, 472, 469, 1026, 1027, 1028, 1029, 1030, 1031, 1032, 1033, 1034, 1035, 1036, 1037, 1038, 1039, 1040, 1041, 1042, 1043] (by decide +kernel)
set_option maxRecDepth 20000 in
theorem ig_r37 : ∀ w ∈ wsL_law_r37, goodWord w = true := by decide +kernel
set_option maxRecDepth 20000 in
theorem it_r38 : ∀ w ∈ wsL_law_r38, w ∈ lw_tbl := sub_of _ [1044, 1045, 1046, 1047, 1048, 1049, 1050, 1053, 1051, 1052, 1054, 1055, 1056, 1057, 386, 406, 403, 1058, 1060, 26, 1061, 1779, 1780, 1781] (by decide +kernel)
set_option maxRecDepth 20000 in
theorem ig_r38 : ∀ w ∈ wsL_law_r38, goodWord w = true := by decide +kernel
set_option maxRecDepth 20000 in
theorem it_r39 : ∀ w ∈ wsL_law_r39, w ∈ lw_tbl := sub_of _ [1782, 1783, 1784, 1785, 1786, 1788, 71, 1789, 1790, 1792, 72, 1793, 1794, 1796, 73, 1797, 1798, 1800, 74, 1801, 1062, 1063, 1064, 1065] (by decide +kernel)
set_option maxRecDepth 20000 in
theorem ig_r39 : ∀ w ∈ wsL_law_r39, goodWord w = true := by decide +kernel
set_option maxRecDepth 20000 in
theorem it_r40 : ∀ w ∈ wsL_law_r40, w ∈ lw_tbl := sub_of _ [404, 525, 468, 463, 392, 478, 1066, 1067, 1068, 1069, 1802, 1803, 1804, 1805, 1806, 1070, 1071, 1072, 1073, 466, 471, 474, 476, 1074] (by decide +kernel)
set_option maxRecDepth 20000 in
theorem ig_r40 : ∀ w ∈ wsL_law_r40, goodWord w = true := by decide +kernel
set_option maxRecDepth 20000 in
theorem it_r41 : ∀ w ∈ wsL_law_r41, w ∈ lw_tbl := sub_of _ [1075, 1076, 1077, 1807, 1808, 1809, 1810, 1811, 1813, 75, 1814, 1078, 1079, 1080, 1081, 523, 444, 1082, 1083, 1084, 1085, 1815, 1816, 1817] (by decide +kernel)
set_option maxRecDepth 20000 in
theorem ig_r41 : ∀ w ∈ wsL_law_r41, goodWord w = true := by decide +kernel
set_option maxRecDepth 20000 in
theorem it_r42 : ∀ w ∈ wsL_law_r42, w ∈ lw_tbl := sub_of _ [1818, 1819, 1821, 76, 1822, 1086, 1087, 1088, 1089, 231, 1823, 1824, 1825, 1826, 1827, 1829, 77, 1830, 1831, 1833, 78, 1834, 1835, 1837] (by decide +kernel)
set_option maxRecDepth 20000 in
theorem ig_r42 : ∀ w ∈ wsL_law_r42, goodWord w = true := by decide +kernel
set_option maxRecDepth 20000 in
theorem it_r43 : ∀ w ∈ wsL_law_r43, w ∈ lw_tbl := sub_of _ [79, 1838, 1090, 1091, 1092, 1093, 1839, 1840, 1841, 1842, 1094, 1095, 1096, 1097, 1843, 1844, 1845, 1846, 1098, 1099, 1100, 1101, 1102, 1103] (by decide +kernel)
set_option maxRecDepth 20000 in
theorem ig_r43 : ∀ w ∈ wsL_law_r43, goodWord w = true := by decide +kernel
set_option maxRecDepth 20000 in
theorem it_r44 : ∀ w ∈ wsL_law_r44, w ∈ lw_tbl := sub_of _ [1104, 1105, 1847, 1848, 1849, 1850, 1106, 1107, 1108, 1109, 439, 441, 1110, 1111, 1112, 1113, 1851, 1852, 1853, 1854, 1855, 1857, 80, 1858] (by decide +kernel)
set_option maxRecDepth 20000 in
theorem ig_r44 : ∀ w ∈ wsL_law_r44, goodWord w = true := by decide +kernel
set_option maxRecDepth 20000 in
theorem it_r45 : ∀ w ∈ wsL_law_r45, w ∈ lw_tbl := sub_of _ [1114, 1115, 1116, 1117, 437, 233, 1118, 1119, 1120, 1121, 1859, 1860, 1861, 1862, 1863, 1865, 81, 1866, 1122, 1123, 1124, 1125, 517, 359] (by decide +kernel)
set_option maxRecDepth 20000 in
theorem ig_r45 : ∀ w ∈ wsL_law_r45, goodWord w = true := by decide +kernel
set_option maxRecDepth 20000 in
theorem it_r46 : ∀ w ∈ wsL_law_r46, w ∈ lw_tbl := sub_of _ [353, 1130, 1126, 1127, 1128, 1129, 1867, 1868, 1869, 1870, 1871, 1873, 82, 1874, 1875, 1877, 83, 1878, 1131, 1132, 1133, 1134, 361, 1879] (by decide +kernel)
set_option maxRecDepth 20000 in
theorem ig_r46 : ∀ w ∈ wsL_law_r46, goodWord w = true := by decide +kernel
set_option maxRecDepth 20000 in
theorem it_r47 : ∀ w ∈ wsL_law_r47, w ∈ lw_tbl := sub_of _ [1880, 1881, 1882, 1135, 1136, 1137, 1138, 343, 346, 349, 356, 1139, 1883, 1884, 1885, 1886, 1887, 1140, 1141, 1142, 1143, 339, 1144, 1145] (by decide +kernel)
set_option maxRecDepth 20000 in
theorem ig_r47 : ∀ w ∈ wsL_law_r47, goodWord w = true := by decide +kernel
set_option maxRecDepth 20000 in
theorem it_r48 : ∀ w ∈ wsL_law_r48, w ∈ lw_tbl := sub_of _ [1146, 1147, 1148, 1888, 1889, 1890, 1891, 1149, 1150, 1151, 1152, 1153, 1154, 1155, 1156, 1892, 1893, 1894, 1895, 1157, 1158, 1159, 1160, 529] (by decide +kernel)
set_option maxRecDepth 20000 in
theorem ig_r48 : ∀ w ∈ wsL_law_r48, goodWord w = true := by decide +kernel
set_option maxRecDepth 20000 in
theorem it_r49 : ∀ w ∈ wsL_law_r49, w ∈ lw_tbl := sub_of _ [1934, 1935, 1936, 1937, 1938, 1940, 91, 1941, 1161, 1162, 1163, 1164, 1165, 1166, 1167, 1168, 1169, 1170, 1171, 528, 1942, 1943, 1944, 1945] (by decide +kernel)
set_option maxRecDepth 20000 in
theorem ig_r49 : ∀ w ∈ wsL_law_r49, goodWord w = true := by decide +kernel
set_option maxRecDepth 20000 in
theorem it_r50 : ∀ w ∈ wsL_law_r50, w ∈ lw_tbl := sub_of _ [1946, 1948, 92, 1949, 1571, 1950, 1951, 1953, 93, 1954, 1172, 1173, 1174, 1175, 1176, 1178, 27, 1179, 1180, 1181, 1183, 28, 1184, 1955] (by decide +kernel)
set_option maxRecDepth 20000 in
theorem ig_r50 : ∀ w ∈ wsL_law_r50, goodWord w = true := by decide +kernel
set_option maxRecDepth 20000 in
theorem it_r51 : ∀ w ∈ wsL_law_r51, w ∈ lw_tbl := sub_of _ [1956, 1957, 1958, 1959, 1961, 94, 1962, 1185, 1186, 1187, 1188, 1963, 1964, 1965, 1966, 1189, 1190, 1191, 1192, 1193, 1195, 29, 1196, 1967] (by decide +kernel)
set_option maxRecDepth 20000 in
theorem ig_r51 : ∀ w ∈ wsL_law_r51, goodWord w = true := by decide +kernel
set_option maxRecDepth 20000 in
theorem it_r52 : ∀ w ∈ wsL_law_r52, w ∈ lw_tbl := sub_of _ [1968, 1969, 1970, 1197, 1198, 1199, 1200, 1971, 1972, 1973, 1974, 1201, 1202, 1203, 1204, 1205, 1206, 1207, 1208, 1209, 1975, 1976, 1977, 1978] (by decide +kernel)
set_option maxRecDepth 20000 in
theorem ig_r52 : ∀ w ∈ wsL_law_r52, goodWord w = true := by decide +kernel
set_option maxRecDepth 20000 in
theorem it_r53 : ∀ w ∈ wsL_law_r53, w ∈ lw_tbl := sub_of _ [1979, 1981, 95, 1982, 1210, 1211, 1212, 1213, 1214, 1215, 1216, 1217, 1219, 1218, 1983, 1984, 1985, 1986, 1220, 1221, 1222, 1223, 1224, 1226] (by decide +kernel)
set_option maxRecDepth 20000 in
theorem ig_r53 : ∀ w ∈ wsL_law_r53, goodWord w = true := by decide +kernel
set_option maxRecDepth 20000 in
theorem it_r54 : ∀ w ∈ wsL_law_r54, w ∈ lw_tbl := sub_of _ [30, 1227, 286, 307, 309, 1228, 1229, 1230, 1231, 1232, 1233, 1234, 1235, 1236, 1237, 1238, 1239, 1240, 1241, 1242, 306, 1243, 1245, 31] (by decide +kernel)
set_option maxRecDepth 20000 in
theorem ig_r54 : ∀ w ∈ wsL_law_r54, goodWord w = true := by decide +kernel
set_option maxRecDepth 20000 in
theorem it_r55 : ∀ w ∈ wsL_law_r55, w ∈ lw_tbl := sub_of _ [1246, 1247, 1248, 1249, 1987, 1988, 1989, 1990, 1991, 1993, 96, 1994, 1995, 1996, 1997, 1998, 1999, 2001, 97, 2002, 1250, 1251, 1252, 1253] (by decide +kernel)
set_option maxRecDepth 20000 in
theorem ig_r55 : ∀ w ∈ wsL_law_r55, goodWord w = true := by decide +kernel
set_option maxRecDepth 20000 in
theorem it_r56 : ∀ w ∈ wsL_law_r56, w ∈ lw_tbl := sub_of _ [311, 2003, 2004, 2005, 2006, 2007, 2009, 98, 2010, 1254, 1255, 1256, 1257, 1258, 1259, 1260, 1261, 1272, 1262, 1264, 32, 1265, 1266, 1267] (by decide +kernel)
set_option maxRecDepth 20000 in
theorem ig_r56 : ∀ w ∈ wsL_law_r56, goodWord w = true := by decide +kernel
set_option maxRecDepth 20000 in
theorem it_r57 : ∀ w ∈ wsL_law_r57, w ∈ lw_tbl := sub_of _ [127, 1268, 1269, 1270, 1271, 2011, 2012, 2013, 2014, 1273, 1274, 1275, 1276, 1280, 1277, 1278, 1279, 1281, 1282, 1283, 1284, 2015, 2016, 2017] (by decide +kernel)
set_option maxRecDepth 20000 in
theorem ig_r57 : ∀ w ∈ wsL_law_r57, goodWord w = true := by decide +kernel
set_option maxRecDepth 20000 in
theorem it_r58 : ∀ w ∈ wsL_law_r58, w ∈ lw_tbl := sub_of _ [2018, 2019, 2024, 2020, 2022, 99, 2023, 1285, 1286, 1287, 1288, 257, 1289, 1291, 33, 1292, 1293, 1294, 1295, 1296, 256, 258, 260, 262] (by decide +kernel)
set_option maxRecDepth 20000 in
theorem ig_r58 : ∀ w ∈ wsL_law_r58, goodWord w = true := by decide +kernel
set_option maxRecDepth 20000 in
theorem it_r59 : ∀ w ∈ wsL_law_r59, w ∈ lw_tbl := sub_of _ [515, 264, 519, 394, 337, 341, 351, 1297, 1298, 1299, 1300, 352, 1301, 1302, 1303, 1304, 1306, 34, 1307, 222, 1308, 1310, 35, 1311] (by decide +kernel)
set_option maxRecDepth 20000 in
theorem ig_r59 : ∀ w ∈ wsL_law_r59, goodWord w = true := by decide +kernel
set_option maxRecDepth 20000 in
theorem it_r60 : ∀ w ∈ wsL_law_r60, w ∈ lw_tbl := sub_of _ [1312, 1314, 36, 1315, 1316, 1317, 1319, 37, 1320, 2025, 2026, 2027, 2028, 1471, 2029, 2031, 100, 2032, 2033, 2035, 101, 2036, 2037, 2039] (by decide +kernel)
set_option maxRecDepth 20000 in
theorem ig_r60 : ∀ w ∈ wsL_law_r60, goodWord w = true := by decide +kernel
set_option maxRecDepth 20000 in
theorem it_r61 : ∀ w ∈ wsL_law_r61, w ∈ lw_tbl := sub_of _ [102, 2040, 1474, 1472, 1473, 1475, 2041, 2043, 103, 2044, 1321, 1322, 1323, 1324, 259, 261, 265, 263, 2045, 2046, 2047, 2048, 1325, 1326] (by decide +kernel)
set_option maxRecDepth 20000 in
theorem ig_r61 : ∀ w ∈ wsL_law_r61, goodWord w = true := by decide +kernel
set_option maxRecDepth 20000 in
theorem it_r62 : ∀ w ∈ wsL_law_r62, w ∈ lw_tbl := sub_of _ [1327, 1328, 223, 1329, 2049, 2050, 2051, 2052, 1330, 1331, 1332, 1333, 1334, 1335, 1336, 1337, 1338, 1339, 1340, 1341, 1342, 1343, 1344, 1345] (by decide +kernel)
set_option maxRecDepth 20000 in
theorem ig_r62 : ∀ w ∈ wsL_law_r62, goodWord w = true := by decide +kernel
set_option maxRecDepth 20000 in
theorem it_r63 : ∀ w ∈ wsL_law_r63, w ∈ lw_tbl := sub_of _ [1346, 1347, 1348, 1349, 1350, 2053, 2054, 2055, 2056, 1477, 2057, 2059, 104, 2060, 2061, 2062, 2063, 2065, 105, 2066, 2067, 2069, 106, 2070] (by decide +kernel)
set_option maxRecDepth 20000 in
theorem ig_r63 : ∀ w ∈ wsL_law_r63, goodWord w = true := by decide +kernel
set_option maxRecDepth 20000 in
theorem it_r64 : ∀ w ∈ wsL_law_r64, w ∈ lw_tbl := sub_of _ [2071, 2072, 2073, 2074, 1351, 1352, 1353, 1354, 225, 1355, 2075, 2076, 2077, 2078, 1356, 1357, 1358, 1359, 506, 504, 1360, 1361, 1362, 1363] (by decide +kernel)
set_option maxRecDepth 20000 in
theorem ig_r64 : ∀ w ∈ wsL_law_r64, goodWord w = true := by decide +kernel
set_option maxRecDepth 20000 in
theorem it_r65 : ∀ w ∈ wsL_law_r65, w ∈ lw_tbl := sub_of _ [1364, 1365, 1366, 1367, 2079, 2080, 2081, 2082, 1368, 1369, 1370, 1371, 1372, 1373, 1374, 1375, 1395, 1376, 1377, 1378, 1379, 1380, 1381, 1382] (by decide +kernel)
set_option maxRecDepth 20000 in
theorem ig_r65 : ∀ w ∈ wsL_law_r65, goodWord w = true := by decide +kernel
set_option maxRecDepth 20000 in
theorem it_r66 : ∀ w ∈ wsL_law_r66, w ∈ lw_tbl := sub_of _ [1383, 1384, 1385, 1386, 1387, 1388, 1389, 1390, 1391, 1392, 1393, 1394, 1567, 1568, 1569, 1570, 1396, 1397, 1398, 1399, 1575, 1576, 1577, 1578] (by decide +kernel)
set_option maxRecDepth 20000 in
theorem ig_r66 : ∀ w ∈ wsL_law_r66, goodWord w = true := by decide +kernel
set_option maxRecDepth 20000 in
theorem it_r67 : ∀ w ∈ wsL_law_r67, w ∈ lw_tbl := sub_of _ [1400, 1401, 1402, 1403, 1404, 1405, 1406, 1407, 2083, 2084, 2085, 2086, 1408, 1409, 1410, 1411, 1412, 1413, 1414, 1415, 1416, 1417, 1418, 2087] (by decide +kernel)
set_option maxRecDepth 20000 in
theorem ig_r67 : ∀ w ∈ wsL_law_r67, goodWord w = true := by decide +kernel
set_option maxRecDepth 20000 in
theorem it_r68 : ∀ w ∈ wsL_law_r68, w ∈ lw_tbl := sub_of _ [2088, 2089, 2090, 2091, 2092, 2093, 1419, 1420, 1421, 1422, 284, 1423, 1424, 1425, 1426, 1427, 1428, 1429, 1430, 1431, 2094, 2095, 2096, 2097] (by decide +kernel)
set_option maxRecDepth 20000 in
theorem ig_r68 : ∀ w ∈ wsL_law_r68, goodWord w = true := by decide +kernel
set_option maxRecDepth 20000 in
theorem it_X11 : ∀ w ∈ wsX110, w ∈ lw_tbl := sub_of _ [569, 571, 573, 575, 577, 579, 581, 583, 585, 587] (by decide +kernel)
set_option maxRecDepth 20000 in
theorem ig_X11 : ∀ w ∈ wsX110, goodWord w = true := by decide +kernel
set_option maxRecDepth 20000 in
theorem it_X12 : ∀ w ∈ wsX120, w ∈ lw_tbl := sub_of _ [1482, 1484, 1486, 1488, 1490, 1492, 1494, 1496, 1498, 1500, 1502, 1504, 1506, 1508, 1510, 1512, 1514, 1516, 1518, 1520, 1522, 1524, 1526, 1528, 1530, 1532, 1534, 1536, 1538, 1540, 1542, 1544, 1546, 1548, 1550, 1552, 1554, 1556, 1558, 1560, 1562, 1564] (by decide +kernel)
set_option maxRecDepth 20000 in
theorem ig_X12 : ∀ w ∈ wsX120, goodWord w = true := by decide +kernel
set_option maxRecDepth 20000 in
theorem it_X10 : ∀ w ∈ wsX100, w ∈ lw_tbl := sub_of _ [154, 156, 158, 160, 162, 164, 166, 168] (by decide +kernel)
set_option maxRecDepth 20000 in
theorem ig_X10 : ∀ w ∈ wsX100, goodWord w = true := by decide +kernel
set_option maxRecDepth 20000 in
theorem it_X5 : ∀ w ∈ wsX50, w ∈ lw_tbl := sub_of _ [189, 191, 193, 195, 197, 199, 201, 203, 205, 207, 209] (by decide +kernel)
set_option maxRecDepth 20000 in
theorem ig_X5 : ∀ w ∈ wsX50, goodWord w = true := by decide +kernel
set_option maxRecDepth 20000 in
theorem it_X0 : ∀ w ∈ wsX00, w ∈ lw_tbl := sub_of _ [235, 237, 239, 241, 243, 245, 247] (by decide +kernel)
set_option maxRecDepth 20000 in
theorem ig_X0 : ∀ w ∈ wsX00, goodWord w = true := by decide +kernel
set_option maxRecDepth 20000 in
theorem it_X9 : ∀ w ∈ wsX90, w ∈ lw_tbl := sub_of _ [266, 268, 270, 272, 274] (by decide +kernel)
set_option maxRecDepth 20000 in
theorem ig_X9 : ∀ w ∈ wsX90, goodWord w = true := by decide +kernel
set_option maxRecDepth 20000 in
theorem it_X8 : ∀ w ∈ wsX80, w ∈ lw_tbl := sub_of _ [289, 291, 293, 295] (by decide +kernel)
set_option maxRecDepth 20000 in
theorem ig_X8 : ∀ w ∈ wsX80, goodWord w = true := by decide +kernel
set_option maxRecDepth 20000 in
theorem it_X6 : ∀ w ∈ wsX60, w ∈ lw_tbl := sub_of _ [313, 315, 317, 319] (by decide +kernel)
set_option maxRecDepth 20000 in
theorem ig_X6 : ∀ w ∈ wsX60, goodWord w = true := by decide +kernel
set_option maxRecDepth 20000 in
theorem it_X2 : ∀ w ∈ wsX20, w ∈ lw_tbl := sub_of _ [530, 532, 534, 536, 538, 540, 542, 544, 546, 548, 550, 552, 554, 556] (by decide +kernel)
set_option maxRecDepth 20000 in
theorem ig_X2 : ∀ w ∈ wsX20, goodWord w = true := by decide +kernel
set_option maxRecDepth 20000 in
theorem it_X3 : ∀ w ∈ wsX30, w ∈ lw_tbl := sub_of _ [362, 364, 366, 368, 370, 372, 374, 376] (by decide +kernel)
set_option maxRecDepth 20000 in
theorem ig_X3 : ∀ w ∈ wsX30, goodWord w = true := by decide +kernel
set_option maxRecDepth 20000 in
theorem it_X1 : ∀ w ∈ wsX10, w ∈ lw_tbl := sub_of _ [408, 410, 412, 414, 416, 418, 420, 422, 424, 426] (by decide +kernel)
set_option maxRecDepth 20000 in
theorem ig_X1 : ∀ w ∈ wsX10, goodWord w = true := by decide +kernel
set_option maxRecDepth 20000 in
theorem it_X4 : ∀ w ∈ wsX40, w ∈ lw_tbl := sub_of _ [445, 447, 449, 451, 453] (by decide +kernel)
set_option maxRecDepth 20000 in
theorem ig_X4 : ∀ w ∈ wsX40, goodWord w = true := by decide +kernel
set_option maxRecDepth 20000 in
theorem it_X7 : ∀ w ∈ wsX70, w ∈ lw_tbl := sub_of _ [480, 482, 484, 486, 488, 490, 492, 494] (by decide +kernel)
set_option maxRecDepth 20000 in
theorem ig_X7 : ∀ w ∈ wsX70, goodWord w = true := by decide +kernel
end
section
theorem app2 {P : Cond → Prop} {a b : List Cond} (ha : ∀ w ∈ a, P w) (hb : ∀ w ∈ b, P w) : ∀ w ∈ a ++ b, P w := fun w h => (List.mem_append.mp h).elim (ha w) (hb w)
theorem it_t68 : ∀ w ∈ wsL_law_r68, w ∈ lw_tbl := it_r68
theorem it_t67 : ∀ w ∈ (wsL_law_r67 ++ wsL_law_r68), w ∈ lw_tbl := app2 it_r67 it_t68
theorem it_t66 : ∀ w ∈ (wsL_law_r66 ++ (wsL_law_r67 ++ wsL_law_r68)), w ∈ lw_tbl := app2 it_r66 it_t67
theorem it_t65 : ∀ w ∈ (wsL_law_r65 ++ (wsL_law_r66 ++ (wsL_law_r67 ++ wsL_law_r68))), w ∈ lw_tbl := app2 it_r65 it_t66
theorem it_t64 : ∀ w ∈ (wsL_law_r64 ++ (wsL_law_r65 ++ (wsL_law_r66 ++ (wsL_law_r67 ++ wsL_law_r68)))), w ∈ lw_tbl := app2 it_r64 it_t65
theorem it_t63 : ∀ w ∈ (wsL_law_r63 ++ (wsL_law_r64 ++ (wsL_law_r65 ++ (wsL_law_r66 ++ (wsL_law_r67 ++ wsL_law_r68))))), w ∈ lw_tbl := app2 it_r63 it_t64
theorem it_t62 : ∀ w ∈ (wsL_law_r62 ++ (wsL_law_r63 ++ (wsL_law_r64 ++ (wsL_law_r65 ++ (wsL_law_r66 ++ (wsL_law_r67 ++ wsL_law_r68)))))), w ∈ lw_tbl := app2 it_r62 it_t63
theorem it_t61 : ∀ w ∈ (wsL_law_r61 ++ (wsL_law_r62 ++ (wsL_law_r63 ++ (wsL_law_r64 ++ (wsL_law_r65 ++ (wsL_law_r66 ++ (wsL_law_r67 ++ wsL_law_r68))))))), w ∈ lw_tbl := app2 it_r61 it_t62
theorem it_t60 : ∀ w ∈ (wsL_law_r60 ++ (wsL_law_r61 ++ (wsL_law_r62 ++ (wsL_law_r63 ++ (wsL_law_r64 ++ (wsL_law_r65 ++ (wsL_law_r66 ++ (wsL_law_r67 ++ wsL_law_r68)))))))), w ∈ lw_tbl := app2 it_r60 it_t61
theorem it_t59 : ∀ w ∈ (wsL_law_r59 ++ (wsL_law_r60 ++ (wsL_law_r61 ++ (wsL_law_r62 ++ (wsL_law_r63 ++ (wsL_law_r64 ++ (wsL_law_r65 ++ (wsL_law_r66 ++ (wsL_law_r67 ++ wsL_law_r68))))))))), w ∈ lw_tbl := app2 it_r59 it_t60
theorem it_t58 : ∀ w ∈ (wsL_law_r58 ++ (wsL_law_r59 ++ (wsL_law_r60 ++ (wsL_law_r61 ++ (wsL_law_r62 ++ (wsL_law_r63 ++ (wsL_law_r64 ++ (wsL_law_r65 ++ (wsL_law_r66 ++ (wsL_law_r67 ++ wsL_law_r68)))))))))), w ∈ lw_tbl := app2 it_r58 it_t59
theorem it_t57 : ∀ w ∈ (wsL_law_r57 ++ (wsL_law_r58 ++ (wsL_law_r59 ++ (wsL_law_r60 ++ (wsL_law_r61 ++ (wsL_law_r62 ++ (wsL_law_r63 ++ (wsL_law_r64 ++ (wsL_law_r65 ++ (wsL_law_r66 ++ (wsL_law_r67 ++ wsL_law_r68))))))))))), w ∈ lw_tbl := app2 it_r57 it_t58
theorem it_t56 : ∀ w ∈ (wsL_law_r56 ++ (wsL_law_r57 ++ (wsL_law_r58 ++ (wsL_law_r59 ++ (wsL_law_r60 ++ (wsL_law_r61 ++ (wsL_law_r62 ++ (wsL_law_r63 ++ (wsL_law_r64 ++ (wsL_law_r65 ++ (wsL_law_r66 ++ (wsL_law_r67 ++ wsL_law_r68)))))))))))), w ∈ lw_tbl := app2 it_r56 it_t57
theorem it_t55 : ∀ w ∈ (wsL_law_r55 ++ (wsL_law_r56 ++ (wsL_law_r57 ++ (wsL_law_r58 ++ (wsL_law_r59 ++ (wsL_law_r60 ++ (wsL_law_r61 ++ (wsL_law_r62 ++ (wsL_law_r63 ++ (wsL_law_r64 ++ (wsL_law_r65 ++ (wsL_law_r66 ++ (wsL_law_r67 ++ wsL_law_r68))))))))))))), w ∈ lw_tbl := app2 it_r55 it_t56
theorem it_t54 : ∀ w ∈ (wsL_law_r54 ++ (wsL_law_r55 ++ (wsL_law_r56 ++ (wsL_law_r57 ++ (wsL_law_r58 ++ (wsL_law_r59 ++ (wsL_law_r60 ++ (wsL_law_r61 ++ (wsL_law_r62 ++ (wsL_law_r63 ++ (wsL_law_r64 ++ (wsL_law_r65 ++ (wsL_law_r66 ++ (wsL_law_r67 ++ wsL_law_r68)))))))))))))), w ∈ lw_tbl := app2 it_r54 it_t55
theorem it_t53 : ∀ w ∈ (wsL_law_r53 ++ (wsL_law_r54 ++ (wsL_law_r55 ++ (wsL_law_r56 ++ (wsL_law_r57 ++ (wsL_law_r58 ++ (wsL_law_r59 ++ (wsL_law_r60 ++ (wsL_law_r61 ++ (wsL_law_r62 ++ (wsL_law_r63 ++ (wsL_law_r64 ++ (wsL_law_r65 ++ (wsL_law_r66 ++ (wsL_law_r67 ++ wsL_law_r68))))))))))))))), w ∈ lw_tbl := app2 it_r53 it_t54
theorem it_t52 : ∀ w ∈ (wsL_law_r52 ++ (wsL_law_r53 ++ (wsL_law_r54 ++ (wsL_law_r55 ++ (wsL_law_r56 ++ (wsL_law_r57 ++ (wsL_law_r58 ++ (wsL_law_r59 ++ (wsL_law_r60 ++ (wsL_law_r61 ++ (wsL_law_r62 ++ (wsL_law_r63 ++ (wsL_law_r64 ++ (wsL_law_r65 ++ (wsL_law_r66 ++ (wsL_law_r67 ++ wsL_law_r68)))))))))))))))), w ∈ lw_tbl := app2 it_r52 it_t53
theorem it_t51 : ∀ w ∈ (wsL_law_r51 ++ (wsL_law_r52 ++ (wsL_law_r53 ++ (wsL_law_r54 ++ (wsL_law_r55 ++ (wsL_law_r56 ++ (wsL_law_r57 ++ (wsL_law_r58 ++ (wsL_law_r59 ++ (wsL_law_r60 ++ (wsL_law_r61 ++ (wsL_law_r62 ++ (wsL_law_r63 ++ (wsL_law_r64 ++ (wsL_law_r65 ++ (wsL_law_r66 ++ (wsL_law_r67 ++ wsL_law_r68))))))))))))))))), w ∈ lw_tbl := app2 it_r51 it_t52
theorem it_t50 : ∀ w ∈ (wsL_law_r50 ++ (wsL_law_r51 ++ (wsL_law_r52 ++ (wsL_law_r53 ++ (wsL_law_r54 ++ (wsL_law_r55 ++ (wsL_law_r56 ++ (wsL_law_r57 ++ (wsL_law_r58 ++ (wsL_law_r59 ++ (wsL_law_r60 ++ (wsL_law_r61 ++ (wsL_law_r62 ++ (wsL_law_r63 ++ (wsL_law_r64 ++ (wsL_law_r65 ++ (wsL_law_r66 ++ (wsL_law_r67 ++ wsL_law_r68)))))))))))))))))), w ∈ lw_tbl := app2 it_r50 it_t51
theorem it_t49 : ∀ w ∈ (wsL_law_r49 ++ (wsL_law_r50 ++ (wsL_law_r51 ++ (wsL_law_r52 ++ (wsL_law_r53 ++ (wsL_law_r54 ++ (wsL_law_r55 ++ (wsL_law_r56 ++ (wsL_law_r57 ++ (wsL_law_r58 ++ (wsL_law_r59 ++ (wsL_law_r60 ++ (wsL_law_r61 ++ (wsL_law_r62 ++ (wsL_law_r63 ++ (wsL_law_r64 ++ (wsL_law_r65 ++ (wsL_law_r66 ++ (wsL_law_r67 ++ wsL_law_r68))))))))))))))))))), w ∈ lw_tbl := app2 it_r49 it_t50
theorem it_t48 : ∀ w ∈ (wsL_law_r48 ++ (wsL_law_r49 ++ (wsL_law_r50 ++ (wsL_law_r51 ++ (wsL_law_r52 ++ (wsL_law_r53 ++ (wsL_law_r54 ++ (wsL_law_r55 ++ (wsL_law_r56 ++ (wsL_law_r57 ++ (wsL_law_r58 ++ (wsL_law_r59 ++ (wsL_law_r60 ++ (wsL_law_r61 ++ (wsL_law_r62 ++ (wsL_law_r63 ++ (wsL_law_r64 ++ (wsL_law_r65 ++ (wsL_law_r66 ++ (wsL_law_r67 ++ wsL_law_r68)))))))))))))))))))), w ∈ lw_tbl := app2 it_r48 it_t49
theorem it_t47 : ∀ w ∈ (wsL_law_r47 ++ (wsL_law_r48 ++ (wsL_law_r49 ++ (wsL_law_r50 ++ (wsL_law_r51 ++ (wsL_law_r52 ++ (wsL_law_r53 ++ (wsL_law_r54 ++ (wsL_law_r55 ++ (wsL_law_r56 ++ (wsL_law_r57 ++ (wsL_law_r58 ++ (wsL_law_r59 ++ (wsL_law_r60 ++ (wsL_law_r61 ++ (wsL_law_r62 ++ (wsL_law_r63 ++ (wsL_law_r64 ++ (wsL_law_r65 ++ (wsL_law_r66 ++ (wsL_law_r67 ++ wsL_law_r68))))))))))))))))))))), w ∈ lw_tbl := app2 it_r47 it_t48
theorem it_t46 : ∀ w ∈ (wsL_law_r46 ++ (wsL_law_r47 ++ (wsL_law_r48 ++ (wsL_law_r49 ++ (wsL_law_r50 ++ (wsL_law_r51 ++ (wsL_law_r52 ++ (wsL_law_r53 ++ (wsL_law_r54 ++ (wsL_law_r55 ++ (wsL_law_r56 ++ (wsL_law_r57 ++ (wsL_law_r58 ++ (wsL_law_r59 ++ (wsL_law_r60 ++ (wsL_law_r61 ++ (wsL_law_r62 ++ (wsL_law_r63 ++ (wsL_law_r64 ++ (wsL_law_r65 ++ (wsL_law_r66 ++ (wsL_law_r67 ++ wsL_law_r68)))))))))))))))))))))), w ∈ lw_tbl := app2 it_r46 it_t47
theorem it_t45 : ∀ w ∈ (wsL_law_r45 ++ (wsL_law_r46 ++ (wsL_law_r47 ++ (wsL_law_r48 ++ (wsL_law_r49 ++ (wsL_law_r50 ++ (wsL_law_r51 ++ (wsL_law_r52 ++ (wsL_law_r53 ++ (wsL_law_r54 ++ (wsL_law_r55 ++ (wsL_law_r56 ++ (wsL_law_r57 ++ (wsL_law_r58 ++ (wsL_law_r59 ++ (wsL_law_r60 ++ (wsL_law_r61 ++ (wsL_law_r62 ++ (wsL_law_r63 ++ (wsL_law_r64 ++ (wsL_law_r65 ++ (wsL_law_r66 ++ (wsL_law_r67 ++ wsL_law_r68))))))))))))))))))))))), w ∈ lw_tbl := app2 it_r45 it_t46
theorem it_t44 : ∀ w ∈ (wsL_law_r44 ++ (wsL_law_r45 ++ (wsL_law_r46 ++ (wsL_law_r47 ++ (wsL_law_r48 ++ (wsL_law_r49 ++ (wsL_law_r50 ++ (wsL_law_r51 ++ (wsL_law_r52 ++ (wsL_law_r53 ++ (wsL_law_r54 ++ (wsL_law_r55 ++ (wsL_law_r56 ++ (wsL_law_r57 ++ (wsL_law_r58 ++ (wsL_law_r59 ++ (wsL_law_r60 ++ (wsL_law_r61 ++ (wsL_law_r62 ++ (wsL_law_r63 ++ (wsL_law_r64 ++ (wsL_law_r65 ++ (wsL_law_r66 ++ (wsL_law_r67 ++ wsL_law_r68)))))))))))))))))))))))), w ∈ lw_tbl := app2 it_r44 it_t45
theorem it_t43 : ∀ w ∈ (wsL_law_r43 ++ (wsL_law_r44 ++ (wsL_law_r45 ++ (wsL_law_r46 ++ (wsL_law_r47 ++ (wsL_law_r48 ++ (wsL_law_r49 ++ (wsL_law_r50 ++ (wsL_law_r51 ++ (wsL_law_r52 ++ (wsL_law_r53 ++ (wsL_law_r54 ++ (wsL_law_r55 ++ (wsL_law_r56 ++ (wsL_law_r57 ++ (wsL_law_r58 ++ (wsL_law_r59 ++ (wsL_law_r60 ++ (wsL_law_r61 ++ (wsL_law_r62 ++ (wsL_law_r63 ++ (wsL_law_r64 ++ (wsL_law_r65 ++ (wsL_law_r66 ++ (wsL_law_r67 ++ wsL_law_r68))))))))))))))))))))))))), w ∈ lw_tbl := app2 it_r43 it_t44
theorem it_t42 : ∀ w ∈ (wsL_law_r42 ++ (wsL_law_r43 ++ (wsL_law_r44 ++ (wsL_law_r45 ++ (wsL_law_r46 ++ (wsL_law_r47 ++ (wsL_law_r48 ++ (wsL_law_r49 ++ (wsL_law_r50 ++ (wsL_law_r51 ++ (wsL_law_r52 ++ (wsL_law_r53 ++ (wsL_law_r54 ++ (wsL_law_r55 ++ (wsL_law_r56 ++ (wsL_law_r57 ++ (wsL_law_r58 ++ (wsL_law_r59 ++ (wsL_law_r60 ++ (wsL_law_r61 ++ (wsL_law_r62 ++ (wsL_law_r63 ++ (wsL_law_r64 ++ (wsL_law_r65 ++ (wsL_law_r66 ++ (wsL_law_r67 ++ wsL_law_r68)))))))))))))))))))))))))), w ∈ lw_tbl := app2 it_r42 it_t43
theorem it_t41 : ∀ w ∈ (wsL_law_r41 ++ (wsL_law_r42 ++ (wsL_law_r43 ++ (wsL_law_r44 ++ (wsL_law_r45 ++ (wsL_law_r46 ++ (wsL_law_r47 ++ (wsL_law_r48 ++ (wsL_law_r49 ++ (wsL_law_r50 ++ (wsL_law_r51 ++ (wsL_law_r52 ++ (wsL_law_r53 ++ (wsL_law_r54 ++ (wsL_law_r55 ++ (wsL_law_r56 ++ (wsL_law_r57 ++ (wsL_law_r58 ++ (wsL_law_r59 ++ (wsL_law_r60 ++ (wsL_law_r61 ++ (wsL_law_r62 ++ (wsL_law_r63 ++ (wsL_law_r64 ++ (wsL_law_r65 ++ (wsL_law_r66 ++ (wsL_law_r67 ++ wsL_law_r68))))))))))))))))))))))))))), w ∈ lw_tbl := app2 it_r41 it_t42
theorem it_t40 : ∀ w ∈ (wsL_law_r40 ++ (wsL_law_r41 ++ (wsL_law_r42 ++ (wsL_law_r43 ++ (wsL_law_r44 ++ (wsL_law_r45 ++ (wsL_law_r46 ++ (wsL_law_r47 ++ (wsL_law_r48 ++ (wsL_law_r49 ++ (wsL_law_r50 ++ (wsL_law_r51 ++ (wsL_law_r52 ++ (wsL_law_r53 ++ (wsL_law_r54 ++ (wsL_law_r55 ++ (wsL_law_r56 ++ (wsL_law_r57 ++ (wsL_law_r58 ++ (wsL_law_r59 ++ (wsL_law_r60 ++ (wsL_law_r61 ++ (wsL_law_r62 ++ (wsL_law_r63 ++ (wsL_law_r64 ++ (wsL_law_r65 ++ (wsL_law_r66 ++ (wsL_law_r67 ++ wsL_law_r68)))))))))))))))))))))))))))), w ∈ lw_tbl := app2 it_r40 it_t41
theorem it_t39 : ∀ w ∈ (wsL_law_r39 ++ (wsL_law_r40 ++ (wsL_law_r41 ++ (wsL_law_r42 ++ (wsL_law_r43 ++ (wsL_law_r44 ++ (wsL_law_r45 ++ (wsL_law_r46 ++ (wsL_law_r47 ++ (wsL_law_r48 ++ (wsL_law_r49 ++ (wsL_law_r50 ++ (wsL_law_r51 ++ (wsL_law_r52 ++ (wsL_law_r53 ++ (wsL_law_r54 ++ (wsL_law_r55 ++ (wsL_law_r56 ++ (wsL_law_r57 ++ (wsL_law_r58 ++ (wsL_law_r59 ++ (wsL_law_r60 ++ (wsL_law_r61 ++ (wsL_law_r62 ++ (wsL_law_r63 ++ (wsL_law_r64 ++ (wsL_law_r65 ++ (wsL_law_r66 ++ (wsL_law_r67 ++ wsL_law_r68))))))))))))))))))))))))))))), w ∈ lw_tbl := app2 it_r39 it_t40
theorem it_t38 : ∀ w ∈ (wsL_law_r38 ++ (wsL_law_r39 ++ (wsL_law_r40 ++ (wsL_law_r41 ++ (wsL_law_r42 ++ (wsL_law_r43 ++ (wsL_law_r44 ++ (wsL_law_r45 ++ (wsL_law_r46 ++ (wsL_law_r47 ++ (wsL_law_r48 ++ (wsL_law_r49 ++ (wsL_law_r50 ++ (wsL_law_r51 ++ (wsL_law_r52 ++ (wsL_law_r53 ++ (wsL_law_r54 ++ (wsL_law_r55 ++ (wsL_law_r56 ++ (wsL_law_r57 ++ (wsL_law_r58 ++ (wsL_law_r59 ++ (wsL_law_r60 ++ (wsL_law_r61 ++ (wsL_law_r62 ++ (wsL_law_r63 ++ (wsL_law_r64 ++ (wsL_law_r65 ++ (wsL_law_r66 ++ (wsL_law_r67 ++ wsL_law_r68)))))))))))))))))))))))))))))), w ∈ lw_tbl := app2 it_r38 it_t39
theorem it_t37 : ∀ w ∈ (wsL_law_r37 ++ (wsL_law_r38 ++ (wsL_law_r39 ++ (wsL_law_r40 ++ (wsL_law_r41 ++ (wsL_law_r42 ++ (wsL_law_r43 ++ (wsL_law_r44 ++ (wsL_law_r45 ++ (wsL_law_r46 ++ (wsL_law_r47 ++ (wsL_law_r48 ++ (wsL_law_r49 ++ (wsL_law_r50 ++ (wsL_law_r51 ++ (wsL_law_r52 ++ (wsL_law_r53 ++ (wsL_law_r54 ++ (wsL_law_r55 ++ (wsL_law_r56 ++ (wsL_law_r57 ++ (wsL_law_r58 ++ (wsL_law_r59 ++ (wsL_law_r60 ++ (wsL_law_r61 ++ (wsL_law_r62 ++ (wsL_law_r63 ++ (wsL_law_r64 ++ (wsL_law_r65 ++ (wsL_law_r66 ++ (wsL_law_r67 ++ wsL_law_r68))))))))))))))))))))))))))))))), w ∈ lw_tbl := app2 it_r37 it_t38
theorem it_t36 : ∀ w ∈ (wsL_law_r36 ++ (wsL_law_r37 ++ (wsL_law_r38 ++ (wsL_law_r39 ++ (wsL_law_r40 ++ (wsL_law_r41 ++ (wsL_law_r42 ++ (wsL_law_r43 ++ (wsL_law_r44 ++ (wsL_law_r45 ++ (wsL_law_r46 ++ (wsL_law_r47 ++ (wsL_law_r48 ++ (wsL_law_r49 ++ (wsL_law_r50 ++ (wsL_law_r51 ++ (wsL_law_r52 ++ (wsL_law_r53 ++ (wsL_law_r54 ++ (wsL_law_r55 ++ (wsL_law_r56 ++ (wsL_law_r57 ++ (wsL_law_r58 ++ (wsL_law_r59 ++ (wsL_law_r60 ++ (wsL_law_r61 ++ (wsL_law_r62 ++ (wsL_law_r63 ++ (wsL_law_r64 ++ (wsL_law_r65 ++ (wsL_law_r66 ++ (wsL_law_r67 ++ wsL_law_r68)))))))))))))))))))))))))))))))), w ∈ lw_tbl := app2 it_r36 it_t37
theorem it_t35 : ∀ w ∈ (wsL_law_r35 ++ (wsL_law_r36 ++ (wsL_law_r37 ++ (wsL_law_r38 ++ (wsL_law_r39 ++ (wsL_law_r40 ++ (wsL_law_r41 ++ (wsL_law_r42 ++ (wsL_law_r43 ++ (wsL_law_r44 ++ (wsL_law_r45 ++ (wsL_law_r46 ++ (wsL_law_r47 ++ (wsL_law_r48 ++ (wsL_law_r49 ++ (wsL_law_r50 ++ (wsL_law_r51 ++ (wsL_law_r52 ++ (wsL_law_r53 ++ (wsL_law_r54 ++ (wsL_law_r55 ++ (wsL_law_r56 ++ (wsL_law_r57 ++ (wsL_law_r58 ++ (wsL_law_r59 ++ (wsL_law_r60 ++ (wsL_law_r61 ++ (wsL_law_r62 ++ (wsL_law_r63 ++ (wsL_law_r64 ++ (wsL_law_r65 ++ (wsL_law_r66 ++ (wsL_law_r67 ++ wsL_law_r68))))))))))))))))))))))))))))))))), w ∈ lw_tbl := app2 it_r35 it_t36
theorem it_t34 : ∀ w ∈ (wsL_law_r34 ++ (wsL_law_r35 ++ (wsL_law_r36 ++ (wsL_law_r37 ++ (wsL_law_r38 ++ (wsL_law_r39 ++ (wsL_law_r40 ++ (wsL_law_r41 ++ (wsL_law_r42 ++ (wsL_law_r43 ++ (wsL_law_r44 ++ (wsL_law_r45 ++ (wsL_law_r46 ++ (wsL_law_r47 ++ (wsL_law_r48 ++ (wsL_law_r49 ++ (wsL_law_r50 ++ (wsL_law_r51 ++ (wsL_law_r52 ++ (wsL_law_r53 ++ (wsL_law_r54 ++ (wsL_law_r55 ++ (wsL_law_r56 ++ (wsL_law_r57 ++ (wsL_law_r58 ++ (wsL_law_r59 ++ (wsL_law_r60 ++ (wsL_law_r61 ++ (wsL_law_r62 ++ (wsL_law_r63 ++ (wsL_law_r64 ++ (wsL_law_r65 ++ (wsL_law_r66 ++ (wsL_law_r67 ++ wsL_law_r68)))))))))))))))))))))))))))))))))), w ∈ lw_tbl := app2 it_r34 it_t35
theorem it_t33 : ∀ w ∈ (wsL_law_r33 ++ (wsL_law_r34 ++ (wsL_law_r35 ++ (wsL_law_r36 ++ (wsL_law_r37 ++ (wsL_law_r38 ++ (wsL_law_r39 ++ (wsL_law_r40 ++ (wsL_law_r41 ++ (wsL_law_r42 ++ (wsL_law_r43 ++ (wsL_law_r44 ++ (wsL_law_r45 ++ (wsL_law_r46 ++ (wsL_law_r47 ++ (wsL_law_r48 ++ (wsL_law_r49 ++ (wsL_law_r50 ++ (wsL_law_r51 ++ (wsL_law_r52 ++ (wsL_law_r53 ++ (wsL_law_r54 ++ (wsL_law_r55 ++ (wsL_law_r56 ++ (wsL_law_r57 ++ (wsL_law_r58 ++ (wsL_law_r59 ++ (wsL_law_r60 ++ (wsL_law_r61 ++ (wsL_law_r62 ++ (wsL_law_r63 ++ (wsL_law_r64 ++ (wsL_law_r65 ++ (wsL_law_r66 ++ (wsL_law_r67 ++ wsL_law_r68))))))))))))))))))))))))))))))))))), w ∈ lw_tbl := app2 it_r33 it_t34
theorem it_t32 : ∀ w ∈ (wsL_law_r32 ++ (wsL_law_r33 ++ (wsL_law_r34 ++ (wsL_law_r35 ++ (wsL_law_r36 ++ (wsL_law_r37 ++ (wsL_law_r38 ++ (wsL_law_r39 ++ (wsL_law_r40 ++ (wsL_law_r41 ++ (wsL_law_r42 ++ (wsL_law_r43 ++ (wsL_law_r44 ++ (wsL_law_r45 ++ (wsL_law_r46 ++ (wsL_law_r47 ++ (wsL_law_r48 ++ (wsL_law_r49 ++ (wsL_law_r50 ++ (wsL_law_r51 ++ (wsL_law_r52 ++ (wsL_law_r53 ++ (wsL_law_r54 ++ (wsL_law_r55 ++ (wsL_law_r56 ++ (wsL_law_r57 ++ (wsL_law_r58 ++ (wsL_law_r59 ++ (wsL_law_r60 ++ (wsL_law_r61 ++ (wsL_law_r62 ++ (wsL_law_r63 ++ (wsL_law_r64 ++ (wsL_law_r65 ++ (wsL_law_r66 ++ (wsL_law_r67 ++ wsL_law_r68)))))))))))))))))))))))))))))))))))), w ∈ lw_tbl := app2 it_r32 it_t33
theorem it_t31 : ∀ w ∈ (wsL_law_r31 ++ (wsL_law_r32 ++ (wsL_law_r33 ++ (wsL_law_r34 ++ (wsL_law_r35 ++ (wsL_law_r36 ++ (wsL_law_r37 ++ (wsL_law_r38 ++ (wsL_law_r39 ++ (wsL_law_r40 ++ (wsL_law_r41 ++ (wsL_law_r42 ++ (wsL_law_r43 ++ (wsL_law_r44 ++ (wsL_law_r45 ++ (wsL_law_r46 ++ (wsL_law_r47 ++ (wsL_law_r48 ++ (wsL_law_r49 ++ (wsL_law_r50 ++ (wsL_law_r51 ++ (wsL_law_r52 ++ (wsL_law_r53 ++ (wsL_law_r54 ++ (wsL_law_r55 ++ (wsL_law_r56 ++ (wsL_law_r57 ++ (wsL_law_r58 ++ (wsL_law_r59 ++ (wsL_law_r60 ++ (wsL_law_r61 ++ (wsL_law_r62 ++ (wsL_law_r63 ++ (wsL_law_r64 ++ (wsL_law_r65 ++ (wsL_law_r66 ++ (wsL_law_r67 ++ wsL_law_r68))))))))))))))))))))))))))))))))))))), w ∈ lw_tbl := app2 it_r31 it_t32
theorem it_t30 : ∀ w ∈ (wsL_law_r30 ++ (wsL_law_r31 ++ (wsL_law_r32 ++ (wsL_law_r33 ++ (wsL_law_r34 ++ (wsL_law_r35 ++ (wsL_law_r36 ++ (wsL_law_r37 ++ (wsL_law_r38 ++ (wsL_law_r39 ++ (wsL_law_r40 ++ (wsL_law_r41 ++ (wsL_law_r42 ++ (wsL_law_r43 ++ (wsL_law_r44 ++ (wsL_law_r45 ++ (wsL_law_r46 ++ (wsL_law_r47 ++ (wsL_law_r48 ++ (wsL_law_r49 ++ (wsL_law_r50 ++ (wsL_law_r51 ++ (wsL_law_r52 ++ (wsL_law_r53 ++ (wsL_law_r54 ++ (wsL_law_r55 ++ (wsL_law_r56 ++ (wsL_law_r57 ++ (wsL_law_r58 ++ (wsL_law_r59 ++ (wsL_law_r60 ++ (wsL_law_r61 ++ (wsL_law_r62 ++ (wsL_law_r63 ++ (wsL_law_r64 ++ (wsL_law_r65 ++ (wsL_law_r66 ++ (wsL_law_r67 ++ wsL_law_r68)))))))))))))))))))))))))))))))))))))), w ∈ lw_tbl := app2 it_r30 it_t31
theorem it_t29 : ∀ w ∈ (wsL_law_r29 ++ (wsL_law_r30 ++ (wsL_law_r31 ++ (wsL_law_r32 ++ (wsL_law_r33 ++ (wsL_law_r34 ++ (wsL_law_r35 ++ (wsL_law_r36 ++ (wsL_law_r37 ++ (wsL_law_r38 ++ (wsL_law_r39 ++ (wsL_law_r40 ++ (wsL_law_r41 ++ (wsL_law_r42 ++ (wsL_law_r43 ++ (wsL_law_r44 ++ (wsL_law_r45 ++ (wsL_law_r46 ++ (wsL_law_r47 ++ (wsL_law_r48 ++ (wsL_law_r49 ++ (wsL_law_r50 ++ (wsL_law_r51 ++ (wsL_law_r52 ++ (wsL_law_r53 ++ (wsL_law_r54 ++ (wsL_law_r55 ++ (wsL_law_r56 ++ (wsL_law_r57 ++ (wsL_law_r58 ++ (wsL_law_r59 ++ (wsL_law_r60 ++ (wsL_law_r61 ++ (wsL_law_r62 ++ (wsL_law_r63 ++ (wsL_law_r64 ++ (wsL_law_r65 ++ (wsL_law_r66 ++ (wsL_law_r67 ++ wsL_law_r68))))))))))))))))))))))))))))))))))))))), w ∈ lw_tbl := app2 it_r29 it_t30
theorem it_t28 : ∀ w ∈ (wsL_law_r28 ++ (wsL_law_r29 ++ (wsL_law_r30 ++ (wsL_law_r31 ++ (wsL_law_r32 ++ (wsL_law_r33 ++ (wsL_law_r34 ++ (wsL_law_r35 ++ (wsL_law_r36 ++ (wsL_law_r37 ++ (wsL_law_r38 ++ (wsL_law_r39 ++ (wsL_law_r40 ++ (wsL_law_r41 ++ (wsL_law_r42 ++ (wsL_law_r43 ++ (wsL_law_r44 ++ (wsL_law_r45 ++ (wsL_law_r46 ++ (wsL_law_r47 ++ (wsL_law_r48 ++ (wsL_law_r49 ++ (wsL_law_r50 ++ (wsL_law_r51 ++ (wsL_law_r52 ++ (wsL_law_r53 ++ (wsL_law_r54 ++ (wsL_law_r55 ++ (wsL_law_r56 ++ (wsL_law_r57 ++ (wsL_law_r58 ++ (wsL_law_r59 ++ (wsL_law_r60 ++ (wsL_law_r61 ++ (wsL_law_r62 ++ (wsL_law_r63 ++ (wsL_law_r64 ++ (wsL_law_r65 ++ (wsL_law_r66 ++ (wsL_law_r67 ++ wsL_law_r68)))))))))))))))))))))))))))))))))))))))), w ∈ lw_tbl := app2 it_r28 it_t29
theorem it_t27 : ∀ w ∈ (wsL_law_r27 ++ (wsL_law_r28 ++ (wsL_law_r29 ++ (wsL_law_r30 ++ (wsL_law_r31 ++ (wsL_law_r32 ++ (wsL_law_r33 ++ (wsL_law_r34 ++ (wsL_law_r35 ++ (wsL_law_r36 ++ (wsL_law_r37 ++ (wsL_law_r38 ++ (wsL_law_r39 ++ (wsL_law_r40 ++ (wsL_law_r41 ++ (wsL_law_r42 ++ (wsL_law_r43 ++ (wsL_law_r44 ++ (wsL_law_r45 ++ (wsL_law_r46 ++ (wsL_law_r47 ++ (wsL_law_r48 ++ (wsL_law_r49 ++ (wsL_law_r50 ++ (wsL_law_r51 ++ (wsL_law_r52 ++ (wsL_law_r53 ++ (wsL_law_r54 ++ (wsL_law_r55 ++ (wsL_law_r56 ++ (wsL_law_r57 ++ (wsL_law_r58 ++ (wsL_law_r59 ++ (wsL_law_r60 ++ (wsL_law_r61 ++ (wsL_law_r62 ++ (wsL_law_r63 ++ (wsL_law_r64 ++ (wsL_law_r65 ++ (wsL_law_r66 ++ (wsL_law_r67 ++ wsL_law_r68))))))))))))))))))))))))))))))))))))))))), w ∈ lw_tbl := app2 it_r27 it_t28
theorem it_t26 : ∀ w ∈ (wsL_law_r26 ++ (wsL_law_r27 ++ (wsL_law_r28 ++ (wsL_law_r29 ++ (wsL_law_r30 ++ (wsL_law_r31 ++ (wsL_law_r32 ++ (wsL_law_r33 ++ (wsL_law_r34 ++ (wsL_law_r35 ++ (wsL_law_r36 ++ (wsL_law_r37 ++ (wsL_law_r38 ++ (wsL_law_r39 ++ (wsL_law_r40 ++ (wsL_law_r41 ++ (wsL_law_r42 ++ (wsL_law_r43 ++ (wsL_law_r44 ++ (wsL_law_r45 ++ (wsL_law_r46 ++ (wsL_law_r47 ++ (wsL_law_r48 ++ (wsL_law_r49 ++ (wsL_law_r50 ++ (wsL_law_r51 ++ (wsL_law_r52 ++ (wsL_law_r53 ++ (wsL_law_r54 ++ (wsL_law_r55 ++ (wsL_law_r56 ++ (wsL_law_r57 ++ (wsL_law_r58 ++ (wsL_law_r59 ++ (wsL_law_r60 ++ (wsL_law_r61 ++ (wsL_law_r62 ++ (wsL_law_r63 ++ (wsL_law_r64 ++ (wsL_law_r65 ++ (wsL_law_r66 ++ (wsL_law_r67 ++ wsL_law_r68)))))))))))))))))))))))))))))))))))))))))), w ∈ lw_tbl := app2 it_r26 it_t27
theorem it_t25 : ∀ w ∈ (wsL_law_r25 ++ (wsL_law_r26 ++ (wsL_law_r27 ++ (wsL_law_r28 ++ (wsL_law_r29 ++ (wsL_law_r30 ++ (wsL_law_r31 ++ (wsL_law_r32 ++ (wsL_law_r33 ++ (wsL_law_r34 ++ (wsL_law_r35 ++ (wsL_law_r36 ++ (wsL_law_r37 ++ (wsL_law_r38 ++ (wsL_law_r39 ++ (wsL_law_r40 ++ (wsL_law_r41 ++ (wsL_law_r42 ++ (wsL_law_r43 ++ (wsL_law_r44 ++ (wsL_law_r45 ++ (wsL_law_r46 ++ (wsL_law_r47 ++ (wsL_law_r48 ++ (wsL_law_r49 ++ (wsL_law_r50 ++ (wsL_law_r51 ++ (wsL_law_r52 ++ (wsL_law_r53 ++ (wsL_law_r54 ++ (wsL_law_r55 ++ (wsL_law_r56 ++ (wsL_law_r57 ++ (wsL_law_r58 ++ (wsL_law_r59 ++ (wsL_law_r60 ++ (wsL_law_r61 ++ (wsL_law_r62 ++ (wsL_law_r63 ++ (wsL_law_r64 ++ (wsL_law_r65 ++ (wsL_law_r66 ++ (wsL_law_r67 ++ wsL_law_r68))))))))))))))))))))))))))))))))))))))))))), w ∈ lw_tbl := app2 it_r25 it_t26
theorem it_t24 : ∀ w ∈ (wsL_law_r24 ++ (wsL_law_r25 ++ (wsL_law_r26 ++ (wsL_law_r27 ++ (wsL_law_r28 ++ (wsL_law_r29 ++ (wsL_law_r30 ++ (wsL_law_r31 ++ (wsL_law_r32 ++ (wsL_law_r33 ++ (wsL_law_r34 ++ (wsL_law_r35 ++ (wsL_law_r36 ++ (wsL_law_r37 ++ (wsL_law_r38 ++ (wsL_law_r39 ++ (wsL_law_r40 ++ (wsL_law_r41 ++ (wsL_law_r42 ++ (wsL_law_r43 ++ (wsL_law_r44 ++ (wsL_law_r45 ++ (wsL_law_r46 ++ (wsL_law_r47 ++ (wsL_law_r48 ++ (wsL_law_r49 ++ (wsL_law_r50 ++ (wsL_law_r51 ++ (wsL_law_r52 ++ (wsL_law_r53 ++ (wsL_law_r54 ++ (wsL_law_r55 ++ (wsL_law_r56 ++ (wsL_law_r57 ++ (wsL_law_r58 ++ (wsL_law_r59 ++ (wsL_law_r60 ++ (wsL_law_r61 ++ (wsL_law_r62 ++ (wsL_law_r63 ++ (wsL_law_r64 ++ (wsL_law_r65 ++ (wsL_law_r66 ++ (wsL_law_r67 ++ wsL_law_r68)))))))))))))))))))))))))))))))))))))))))))), w ∈ lw_tbl := app2 it_r24 it_t25
theorem it_t23 : ∀ w ∈ (wsL_law_r23 ++ (wsL_law_r24 ++ (wsL_law_r25 ++ (wsL_law_r26 ++ (wsL_law_r27 ++ (wsL_law_r28 ++ (wsL_law_r29 ++ (wsL_law_r30 ++ (wsL_law_r31 ++ (wsL_law_r32 ++ (wsL_law_r33 ++ (wsL_law_r34 ++ (wsL_law_r35 ++ (wsL_law_r36 ++ (wsL_law_r37 ++ (wsL_law_r38 ++ (wsL_law_r39 ++ (wsL_law_r40 ++ (wsL_law_r41 ++ (wsL_law_r42 ++ (wsL_law_r43 ++ (wsL_law_r44 ++ (wsL_law_r45 ++ (wsL_law_r46 ++ (wsL_law_r47 ++ (wsL_law_r48 ++ (wsL_law_r49 ++ (wsL_law_r50 ++ (wsL_law_r51 ++ (wsL_law_r52 ++ (wsL_law_r53 ++ (wsL_law_r54 ++ (wsL_law_r55 ++ (wsL_law_r56 ++ (wsL_law_r57 ++ (wsL_law_r58 ++ (wsL_law_r59 ++ (wsL_law_r60 ++ (wsL_law_r61 ++ (wsL_law_r62 ++ (wsL_law_r63 ++ (wsL_law_r64 ++ (wsL_law_r65 ++ (wsL_law_r66 ++ (wsL_law_r67 ++ wsL_law_r68))))))))))))))))))))))))))))))))))))))))))))), w ∈ lw_tbl := app2 it_r23 it_t24
theorem it_t22 : ∀ w ∈ (wsL_law_r22 ++ (wsL_law_r23 ++ (wsL_law_r24 ++ (wsL_law_r25 ++ (wsL_law_r26 ++ (wsL_law_r27 ++ (wsL_law_r28 ++ (wsL_law_r29 ++ (wsL_law_r30 ++ (wsL_law_r31 ++ (wsL_law_r32 ++ (wsL_law_r33 ++ (wsL_law_r34 ++ (wsL_law_r35 ++ (wsL_law_r36 ++ (wsL_law_r37 ++ (wsL_law_r38 ++ (wsL_law_r39 ++ (wsL_law_r40 ++ (wsL_law_r41 ++ (wsL_law_r42 ++ (wsL_law_r43 ++ (wsL_law_r44 ++ (wsL_law_r45 ++ (wsL_law_r46 ++ (wsL_law_r47 ++ (wsL_law_r48 ++ (wsL_law_r49 ++ (wsL_law_r50 ++ (wsL_law_r51 ++ (wsL_law_r52 ++ (wsL_law_r53 ++ (wsL_law_r54 ++ (wsL_law_r55 ++ (wsL_law_r56 ++ (wsL_law_r57 ++ (wsL_law_r58 ++ (wsL_law_r59 ++ (wsL_law_r60 ++ (wsL_law_r61 ++ (wsL_law_r62 ++ (wsL_law_r63 ++ (wsL_law_r64 ++ (wsL_law_r65 ++ (wsL_law_r66 ++ (wsL_law_r67 ++ wsL_law_r68)))))))))))))))))))))))))))))))))))))))))))))), w ∈ lw_tbl := app2 it_r22 it_t23
theorem it_t21 : ∀ w ∈ (wsL_law_r21 ++ (wsL_law_r22 ++ (wsL_law_r23 ++ (wsL_law_r24 ++ (wsL_law_r25 ++ (wsL_law_r26 ++ (wsL_law_r27 ++ (wsL_law_r28 ++ (wsL_law_r29 ++ (wsL_law_r30 ++ (wsL_law_r31 ++ (wsL_law_r32 ++ (wsL_law_r33 ++ (wsL_law_r34 ++ (wsL_law_r35 ++ (wsL_law_r36 ++ (wsL_law_r37 ++ (wsL_law_r38 ++ (wsL_law_r39 ++ (wsL_law_r40 ++ (wsL_law_r41 ++ (wsL_law_r42 ++ (wsL_law_r43 ++ (wsL_law_r44 ++ (wsL_law_r45 ++ (wsL_law_r46 ++ (wsL_law_r47 ++ (wsL_law_r48 ++ (wsL_law_r49 ++ (wsL_law_r50 ++ (wsL_law_r51 ++ (wsL_law_r52 ++ (wsL_law_r53 ++ (wsL_law_r54 ++ (wsL_law_r55 ++ (wsL_law_r56 ++ (wsL_law_r57 ++ (wsL_law_r58 ++ (wsL_law_r59 ++ (wsL_law_r60 ++ (wsL_law_r61 ++ (wsL_law_r62 ++ (wsL_law_r63 ++ (wsL_law_r64 ++ (wsL_law_r65 ++ (wsL_law_r66 ++ (wsL_law_r67 ++ wsL_law_r68))))))))))))))))))))))))))))))))))))))))))))))), w ∈ lw_tbl := app2 it_r21 it_t22
theorem it_t20 : ∀ w ∈ (wsL_law_r20 ++ (wsL_law_r21 ++ (wsL_law_r22 ++ (wsL_law_r23 ++ (wsL_law_r24 ++ (wsL_law_r25 ++ (wsL_law_r26 ++ (wsL_law_r27 ++ (wsL_law_r28 ++ (wsL_law_r29 ++ (wsL_law_r30 ++ (wsL_law_r31 ++ (wsL_law_r32 ++ (wsL_law_r33 ++ (wsL_law_r34 ++ (wsL_law_r35 ++ (wsL_law_r36 ++ (wsL_law_r37 ++ (wsL_law_r38 ++ (wsL_law_r39 ++ (wsL_law_r40 ++ (wsL_law_r41 ++ (wsL_law_r42 ++ (wsL_law_r43 ++ (wsL_law_r44 ++ (wsL_law_r45 ++ (wsL_law_r46 ++ (wsL_law_r47 ++ (wsL_law_r48 ++ (wsL_law_r49 ++ (wsL_law_r50 ++ (wsL_law_r51 ++ (wsL_law_r52 ++ (wsL_law_r53 ++ (wsL_law_r54 ++ (wsL_law_r55 ++ (wsL_law_r56 ++ (wsL_law_r57 ++ (wsL_law_r58 ++ (wsL_law_r59 ++ (wsL_law_r60 ++ (wsL_law_r61 ++ (wsL_law_r62 ++ (wsL_law_r63 ++ (wsL_law_r64 ++ (wsL_law_r65 ++ (wsL_law_r66 ++ (wsL_law_r67 ++ wsL_law_r68)))))))))))))))))))))))))))))))))))))))))))))))), w ∈ lw_tbl := app2 it_r20 it_t21
theorem it_t19 : ∀ w ∈ (wsL_law_r19 ++ (wsL_law_r20 ++ (wsL_law_r21 ++ (wsL_law_r22 ++ (wsL_law_r23 ++ (wsL_law_r24 ++ (wsL_law_r25 ++ (wsL_law_r26 ++ (wsL_law_r27 ++ (wsL_law_r28 ++ (wsL_law_r29 ++ (wsL_law_r30 ++ (wsL_law_r31 ++ (wsL_law_r32 ++ (wsL_law_r33 ++ (wsL_law_r34 ++ (wsL_law_r35 ++ (wsL_law_r36 ++ (wsL_law_r37 ++ (wsL_law_r38 ++ (wsL_law_r39 ++ (wsL_law_r40 ++ (wsL_law_r41 ++ (wsL_law_r42 ++ (wsL_law_r43 ++ (wsL_law_r44 ++ (wsL_law_r45 ++ (wsL_law_r46 ++ (wsL_law_r47 ++ (wsL_law_r48 ++ (wsL_law_r49 ++ (wsL_law_r50 ++ (wsL_law_r51 ++ (wsL_law_r52 ++ (wsL_law_r53 ++ (wsL_law_r54 ++ (wsL_law_r55 ++ (wsL_law_r56 ++ (wsL_law_r57 ++ (wsL_law_r58 ++ (wsL_law_r59 ++ (wsL_law_r60 ++ (wsL_law_r61 ++ (wsL_law_r62 ++ (wsL_law_r63 ++ (wsL_law_r64 ++ (wsL_law_r65 ++ (wsL_law_r66 ++ (wsL_law_r67 ++ wsL_law_r68))))))))))))))))))))))))))))))))))))))))))))))))), w ∈ lw_tbl := app2 it_r19 it_t20
theorem it_t18 : ∀ w ∈ (wsL_law_r18 ++ (wsL_law_r19 ++ (wsL_law_r20 ++ (wsL_law_r21 ++ (wsL_law_r22 ++ (wsL_law_r23 ++ (wsL_law_r24 ++ (wsL_law_r25 ++ (wsL_law_r26 ++ (wsL_law_r27 ++ (wsL_law_r28 ++ (wsL_law_r29 ++ (wsL_law_r30 ++ (wsL_law_r31 ++ (wsL_law_r32 ++ (wsL_law_r33 ++ (wsL_law_r34 ++ (wsL_law_r35 ++ (wsL_law_r36 ++ (wsL_law_r37 ++ (wsL_law_r38 ++ (wsL_law_r39 ++ (wsL_law_r40 ++ (wsL_law_r41 ++ (wsL_law_r42 ++ (wsL_law_r43 ++ (wsL_law_r44 ++ (wsL_law_r45 ++ (wsL_law_r46 ++ (wsL_law_r47 ++ (wsL_law_r48 ++ (wsL_law_r49 ++ (wsL_law_r50 ++ (wsL_law_r51 ++ (wsL_law_r52 ++ (wsL_law_r53 ++ (wsL_law_r54 ++ (wsL_law_r55 ++ (wsL_law_r56 ++ (wsL_law_r57 ++ (wsL_law_r58 ++ (wsL_law_r59 ++ (wsL_law_r60 ++ (wsL_law_r61 ++ (wsL_law_r62 ++ (wsL_law_r63 ++ (wsL_law_r64 ++ (wsL_law_r65 ++ (wsL_law_r66 ++ (wsL_law_r67 ++ wsL_law_r68)))))))))))))))))))))))))))))))))))))))))))))))))), w ∈ lw_tbl := app2 it_r18 it_t19
theorem it_t17 : ∀ w ∈ (wsL_law_r17 ++ (wsL_law_r18 ++ (wsL_law_r19 ++ (wsL_law_r20 ++ (wsL_law_r21 ++ (wsL_law_r22 ++ (wsL_law_r23 ++ (wsL_law_r24 ++ (wsL_law_r25 ++ (wsL_law_r26 ++ (wsL_law_r27 ++ (wsL_law_r28 ++ (wsL_law_r29 ++ (wsL_law_r30 ++ (wsL_law_r31 ++ (wsL_law_r32 ++ (wsL_law_r33 ++ (wsL_law_r34 ++ (wsL_law_r35 ++ (wsL_law_r36 ++ (wsL_law_r37 ++ (wsL_law_r38 ++ (wsL_law_r39 ++ (wsL_law_r40 ++ (wsL_law_r41 ++ (wsL_law_r42 ++ (wsL_law_r43 ++ (wsL_law_r44 ++ (wsL_law_r45 ++ (wsL_law_r46 ++ (wsL_law_r47 ++ (wsL_law_r48 ++ (wsL_law_r49 ++ (wsL_law_r50 ++ (wsL_law_r51 ++ (wsL_law_r52 ++ (wsL_law_r53 ++ (wsL_law_r54 ++ (wsL_law_r55 ++ (wsL_law_r56 ++ (wsL_law_r57 ++ (wsL_law_r58 ++ (wsL_law_r59 ++ (wsL_law_r60 ++ (wsL_law_r61 ++ (wsL_law_r62 ++ (wsL_law_r63 ++ (wsL_law_r64 ++ (wsL_law_r65 ++ (wsL_law_r66 ++ (wsL_law_r67 ++ wsL_law_r68))))))))))))))))))))))))))))))))))))))))))))))))))), w ∈ lw_tbl := app2 it_r17 it_t18
theorem it_t16 : ∀ w ∈ (wsL_law_r16 ++ (wsL_law_r17 ++ (wsL_law_r18 ++ (wsL_law_r19 ++ (wsL_law_r20 ++ (wsL_law_r21 ++ (wsL_law_r22 ++ (wsL_law_r23 ++ (wsL_law_r24 ++ (wsL_law_r25 ++ (wsL_law_r26 ++ (wsL_law_r27 ++ (wsL_law_r28 ++ (wsL_law_r29 ++ (wsL_law_r30 ++ (wsL_law_r31 ++ (wsL_law_r32 ++ (wsL_law_r33 ++ (wsL_law_r34 ++ (wsL_law_r35 ++ (wsL_law_r36 ++ (wsL_law_r37 ++ (wsL_law_r38 ++ (wsL_law_r39 ++ (wsL_law_r40 ++ (wsL_law_r41 ++ (wsL_law_r42 ++ (wsL_law_r43 ++ (wsL_law_r44 ++ (wsL_law_r45 ++ (wsL_law_r46 ++ (wsL_law_r47 ++ (wsL_law_r48 ++ (wsL_law_r49 ++ (wsL_law_r50 ++ (wsL_law_r51 ++ (wsL_law_r52 ++ (wsL_law_r53 ++ (wsL_law_r54 ++ (wsL_law_r55 ++ (wsL_law_r56 ++ (wsL_law_r57 ++ (wsL_law_r58 ++ (wsL_law_r59 ++ (wsL_law_r60 ++ (wsL_law_r61 ++ (wsL_law_r62 ++ (wsL_law_r63 ++ (wsL_law_r64 ++ (wsL_law_r65 ++ (wsL_law_r66 ++ (wsL_law_r67 ++ wsL_law_r68)))))))))))))))))))))))))))))))))))))))))))))))))))), w ∈ lw_tbl := app2 it_r16 it_t17
theorem it_t15 : ∀ w ∈ (wsL_law_r15 ++ (wsL_law_r16 ++ (wsL_law_r17 ++ (wsL_law_r18 ++ (wsL_law_r19 ++ (wsL_law_r20 ++ (wsL_law_r21 ++ (wsL_law_r22 ++ (wsL_law_r23 ++ (wsL_law_r24 ++ (wsL_law_r25 ++ (wsL_law_r26 ++ (wsL_law_r27 ++ (wsL_law_r28 ++ (wsL_law_r29 ++ (wsL_law_r30 ++ (wsL_law_r31 ++ (wsL_law_r32 ++ (wsL_law_r33 ++ (wsL_law_r34 ++ (wsL_law_r35 ++ (wsL_law_r36 ++ (wsL_law_r37 ++ (wsL_law_r38 ++ (wsL_law_r39 ++ (wsL_law_r40 ++ (wsL_law_r41 ++ (wsL_law_r42 ++ (wsL_law_r43 ++ (wsL_law_r44 ++ (wsL_law_r45 ++ (wsL_law_r46 ++ (wsL_law_r47 ++ (wsL_law_r48 ++ (wsL_law_r49 ++ (wsL_law_r50 ++ (wsL_law_r51 ++ (wsL_law_r52 ++ (wsL_law_r53 ++ (wsL_law_r54 ++ (wsL_law_r55 ++ (wsL_law_r56 ++ (wsL_law_r57 ++ (wsL_law_r58 ++ (wsL_law_r59 ++ (wsL_law_r60 ++ (wsL_law_r61 ++ (wsL_law_r62 ++ (wsL_law_r63 ++ (wsL_law_r64 ++ (wsL_law_r65 ++ (wsL_law_r66 ++ (wsL_law_r67 ++ wsL_law_r68))))))))))))))))))))))))))))))))))))))))))))))))))))), w ∈ lw_tbl := app2 it_r15 it_t16
theorem it_t14 : ∀ w ∈ (wsL_law_r14 ++ (wsL_law_r15 ++ (wsL_law_r16 ++ (wsL_law_r17 ++ (wsL_law_r18 ++ (wsL_law_r19 ++ (wsL_law_r20 ++ (wsL_law_r21 ++ (wsL_law_r22 ++ (wsL_law_r23 ++ (wsL_law_r24 ++ (wsL_law_r25 ++ (wsL_law_r26 ++ (wsL_law_r27 ++ (wsL_law_r28 ++ (wsL_law_r29 ++ (wsL_law_r30 ++ (wsL_law_r31 ++ (wsL_law_r32 ++ (wsL_law_r33 ++ (wsL_law_r34 ++ (wsL_law_r35 ++ (wsL_law_r36 ++ (wsL_law_r37 ++ (wsL_law_r38 ++ (wsL_law_r39 ++ (wsL_law_r40 ++ (wsL_law_r41 ++ (wsL_law_r42 ++ (wsL_law_r43 ++ (wsL_law_r44 ++ (wsL_law_r45 ++ (wsL_law_r46 ++ (wsL_law_r47 ++ (wsL_law_r48 ++ (wsL_law_r49 ++ (wsL_law_r50 ++ (wsL_law_r51 ++ (wsL_law_r52 ++ (wsL_law_r53 ++ (wsL_law_r54 ++ (wsL_law_r55 ++ (wsL_law_r56 ++ (wsL_law_r57 ++ (wsL_law_r58 ++ (wsL_law_r59 ++ (wsL_law_r60 ++ (wsL_law_r61 ++ (wsL_law_r62 ++ (wsL_law_r63 ++ (wsL_law_r64 ++ (wsL_law_r65 ++ (wsL_law_r66 ++ (wsL_law_r67 ++ wsL_law_r68)))))))))))))))))))))))))))))))))))))))))))))))))))))), w ∈ lw_tbl := app2 it_r14 it_t15
theorem it_t13 : ∀ w ∈ (wsL_law_r13 ++ (wsL_law_r14 ++ (wsL_law_r15 ++ (wsL_law_r16 ++ (wsL_law_r17 ++ (wsL_law_r18 ++ (wsL_law_r19 ++ (wsL_law_r20 ++ (wsL_law_r21 ++ (wsL_law_r22 ++ (wsL_law_r23 ++ (wsL_law_r24 ++ (wsL_law_r25 ++ (wsL_law_r26 ++ (wsL_law_r27 ++ (wsL_law_r28 ++ (wsL_law_r29 ++ (wsL_law_r30 ++ (wsL_law_r31 ++ (wsL_law_r32 ++ (wsL_law_r33 ++ (wsL_law_r34 ++ (wsL_law_r35 ++ (wsL_law_r36 ++ (wsL_law_r37 ++ (wsL_law_r38 ++ (wsL_law_r39 ++ (wsL_law_r40 ++ (wsL_law_r41 ++ (wsL_law_r42 ++ (wsL_law_r43 ++ (wsL_law_r44 ++ (wsL_law_r45 ++ (wsL_law_r46 ++ (wsL_law_r47 ++ (wsL_law_r48 ++ (wsL_law_r49 ++ (wsL_law_r50 ++ (wsL_law_r51 ++ (wsL_law_r52 ++ (wsL_law_r53 ++ (wsL_law_r54 ++ (wsL_law_r55 ++ (wsL_law_r56 ++ (wsL_law_r57 ++ (wsL_law_r58 ++ (wsL_law_r59 ++ (wsL_law_r60 ++ (wsL_law_r61 ++ (wsL_law_r62 ++ (wsL_law_r63 ++ (wsL_law_r64 ++ (wsL_law_r65 ++ (wsL_law_r66 ++ (wsL_law_r67 ++ wsL_law_r68))))))))))))))))))))))))))))))))))))))))))))))))))))))), w ∈ lw_tbl := app2 it_r13 it_t14
theorem it_t12 : ∀ w ∈ (wsL_law_r12 ++ (wsL_law_r13 ++ (wsL_law_r14 ++ (wsL_law_r15 ++ (wsL_law_r16 ++ (wsL_law_r17 ++ (wsL_law_r18 ++ (wsL_law_r19 ++ (wsL_law_r20 ++ (wsL_law_r21 ++ (wsL_law_r22 ++ (wsL_law_r23 ++ (wsL_law_r24 ++ (wsL_law_r25 ++ (wsL_law_r26 ++ (wsL_law_r27 ++ (wsL_law_r28 ++ (wsL_law_r29 ++ (wsL_law_r30 ++ (wsL_law_r31 ++ (wsL_law_r32 ++ (wsL_law_r33 ++ (wsL_law_r34 ++ (wsL_law_r35 ++ (wsL_law_r36 ++ (wsL_law_r37 ++ (wsL_law_r38 ++ (wsL_law_r39 ++ (wsL_law_r40 ++ (wsL_law_r41 ++ (wsL_law_r42 ++ (wsL_law_r43 ++ (wsL_law_r44 ++ (wsL_law_r45 ++ (wsL_law_r46 ++ (wsL_law_r47 ++ (wsL_law_r48 ++ (wsL_law_r49 ++ (wsL_law_r50 ++ (wsL_law_r51 ++ (wsL_law_r52 ++ (wsL_law_r53 ++ (wsL_law_r54 ++ (wsL_law_r55 ++ (wsL_law_r56 ++ (wsL_law_r57 ++ (wsL_law_r58 ++ (wsL_law_r59 ++ (wsL_law_r60 ++ (wsL_law_r61 ++ (wsL_law_r62 ++ (wsL_law_r63 ++ (wsL_law_r64 ++ (wsL_law_r65 ++ (wsL_law_r66 ++ (wsL_law_r67 ++ wsL_law_r68)))))))))))))))))))))))))))))))))))))))))))))))))))))))), w ∈ lw_tbl := app2 it_r12 it_t13
theorem it_t11 : ∀ w ∈ (wsL_law_r11 ++ (wsL_law_r12 ++ (wsL_law_r13 ++ (wsL_law_r14 ++ (wsL_law_r15 ++ (wsL_law_r16 ++ (wsL_law_r17 ++ (wsL_law_r18 ++ (wsL_law_r19 ++ (wsL_law_r20 ++ (wsL_law_r21 ++ (wsL_law_r22 ++ (wsL_law_r23 ++ (wsL_law_r24 ++ (wsL_law_r25 ++ (wsL_law_r26 ++ (wsL_law_r27 ++ (wsL_law_r28 ++ (wsL_law_r29 ++ (wsL_law_r30 ++ (wsL_law_r31 ++ (wsL_law_r32 ++ (wsL_law_r33 ++ (wsL_law_r34 ++ (wsL_law_r35 ++ (wsL_law_r36 ++ (wsL_law_r37 ++ (wsL_law_r38 ++ (wsL_law_r39 ++ (wsL_law_r40 ++ (wsL_law_r41 ++ (wsL_law_r42 ++ (wsL_law_r43 ++ (wsL_law_r44 ++ (wsL_law_r45 ++ (wsL_law_r46 ++ (wsL_law_r47 ++ (wsL_law_r48 ++ (wsL_law_r49 ++ (wsL_law_r50 ++ (wsL_law_r51 ++ (wsL_law_r52 ++ (wsL_law_r53 ++ (wsL_law_r54 ++ (wsL_law_r55 ++ (wsL_law_r56 ++ (wsL_law_r57 ++ (wsL_law_r58 ++ (wsL_law_r59 ++ (wsL_law_r60 ++ (wsL_law_r61 ++ (wsL_law_r62 ++ (wsL_law_r63 ++ (wsL_law_r64 ++ (wsL_law_r65 ++ (wsL_law_r66 ++ (wsL_law_r67 ++ wsL_law_r68))))))))))))))))))))))))))))))))))))))))))))))))))))))))), w ∈ lw_tbl := app2 it_r11 it_t12
theorem it_t10 : ∀ w ∈ (wsL_law_r10 ++ (wsL_law_r11 ++ (wsL_law_r12 ++ (wsL_law_r13 ++ (wsL_law_r14 ++ (wsL_law_r15 ++ (wsL_law_r16 ++ (wsL_law_r17 ++ (wsL_law_r18 ++ (wsL_law_r19 ++ (wsL_law_r20 ++ (wsL_law_r21 ++ (wsL_law_r22 ++ (wsL_law_r23 ++ (wsL_law_r24 ++ (wsL_law_r25 ++ (wsL_law_r26 ++ (wsL_law_r27 ++ (wsL_law_r28 ++ (wsL_law_r29 ++ (wsL_law_r30 ++ (wsL_law_r31 ++ (wsL_law_r32 ++ (wsL_law_r33 ++ (wsL_law_r34 ++ (wsL_law_r35 ++ (wsL_law_r36 ++ (wsL_law_r37 ++ (wsL_law_r38 ++ (wsL_law_r39 ++ (wsL_law_r40 ++ (wsL_law_r41 ++ (wsL_law_r42 ++ (wsL_law_r43 ++ (wsL_law_r44 ++ (wsL_law_r45 ++ (wsL_law_r46 ++ (wsL_law_r47 ++ (wsL_law_r48 ++ (wsL_law_r49 ++ (wsL_law_r50 ++ (wsL_law_r51 ++ (wsL_law_r52 ++ (wsL_law_r53 ++ (wsL_law_r54 ++ (wsL_law_r55 ++ (wsL_law_r56 ++ (wsL_law_r57 ++ (wsL_law_r58 ++ (wsL_law_r59 ++ (wsL_law_r60 ++ (wsL_law_r61 ++ (wsL_law_r62 ++ (wsL_law_r63 ++ (wsL_law_r64 ++ (wsL_law_r65 ++ (wsL_law_r66 ++ (wsL_law_r67 ++ wsL_law_r68)))))))))))))))))))))))))))))))))))))))))))))))))))))))))), w ∈ lw_tbl := app2 it_r10 it_t11
theorem it_t9 : ∀ w ∈ (wsL_law_r9 ++ (wsL_law_r10 ++ (wsL_law_r11 ++ (wsL_law_r12 ++ (wsL_law_r13 ++ (wsL_law_r14 ++ (wsL_law_r15 ++ (wsL_law_r16 ++ (wsL_law_r17 ++ (wsL_law_r18 ++ (wsL_law_r19 ++ (wsL_law_r20 ++ (wsL_law_r21 ++ (wsL_law_r22 ++ (wsL_law_r23 ++ (wsL_law_r24 ++ (wsL_law_r25 ++ (wsL_law_r26 ++ (wsL_law_r27 ++ (wsL_law_r28 ++ (wsL_law_r29 ++ (wsL_law_r30 ++ (wsL_law_r31 ++ (wsL_law_r32 ++ (wsL_law_r33 ++ (wsL_law_r34 ++ (wsL_law_r35 ++ (wsL_law_r36 ++ (wsL_law_r37 ++ (wsL_law_r38 ++ (wsL_law_r39 ++ (wsL_law_r40 ++ (wsL_law_r41 ++ (wsL_law_r42 ++ (wsL_law_r43 ++ (wsL_law_r44 ++ (wsL_law_r45 ++ (wsL_law_r46 ++ (wsL_law_r47 ++ (wsL_law_r48 ++ (wsL_law_r49 ++ (wsL_law_r50 ++ (wsL_law_r51 ++ (wsL_law_r52 ++ (wsL_law_r53 ++ (wsL_law_r54 ++ (wsL_law_r55 ++ (wsL_law_r56 ++ (wsL_law_r57 ++ (wsL_law_r58 ++ (wsL_law_r59 ++ (wsL_law_r60 ++ (wsL_law_r61 ++ (wsL_law_r62 ++ (wsL_law_r63 ++ (wsL_law_r64 ++ (wsL_law_r65 ++ (wsL_law_r66 ++ (wsL_law_r67 ++ wsL_law_r68))))))))))))))))))))))))))))))))))))))))))))))))))))))))))), w ∈ lw_tbl := app2 it_r9 it_t10
theorem it_t8 : ∀ w ∈ (wsL_law_r8 ++ (wsL_law_r9 ++ (wsL_law_r10 ++ (wsL_law_r11 ++ (wsL_law_r12 ++ (wsL_law_r13 ++ (wsL_law_r14 ++ (wsL_law_r15 ++ (wsL_law_r16 ++ (wsL_law_r17 ++ (wsL_law_r18 ++ (wsL_law_r19 ++ (wsL_law_r20 ++ (wsL_law_r21 ++ (wsL_law_r22 ++ (wsL_law_r23 ++ (wsL_law_r24 ++ (wsL_law_r25 ++ (wsL_law_r26 ++ (wsL_law_r27 ++ (wsL_law_r28 ++ (wsL_law_r29 ++ (wsL_law_r30 ++ (wsL_law_r31 ++ (wsL_law_r32 ++ (wsL_law_r33 ++ (wsL_law_r34 ++ (wsL_law_r35 ++ (wsL_law_r36 ++ (wsL_law_r37 ++ (wsL_law_r38 ++ (wsL_law_r39 ++ (wsL_law_r40 ++ (wsL_law_r41 ++ (wsL_law_r42 ++ (wsL_law_r43 ++ (wsL_law_r44 ++ (wsL_law_r45 ++ (wsL_law_r46 ++ (wsL_law_r47 ++ (wsL_law_r48 ++ (wsL_law_r49 ++ (wsL_law_r50 ++ (wsL_law_r51 ++ (wsL_law_r52 ++ (wsL_law_r53 ++ (wsL_law_r54 ++ (wsL_law_r55 ++ (wsL_law_r56 ++ (wsL_law_r57 ++ (wsL_law_r58 ++ (wsL_law_r59 ++ (wsL_law_r60 ++ (wsL_law_r61 ++ (wsL_law_r62 ++ (wsL_law_r63 ++ (wsL_law_r64 ++ (wsL_law_r65 ++ (wsL_law_r66 ++ (wsL_law_r67 ++ wsL_law_r68)))))))))))))))))))))))))))))))))))))))))))))))))))))))))))), w ∈ lw_tbl := app2 it_r8 it_t9
theorem it_t7 : ∀ w ∈ (wsL_law_r7 ++ (wsL_law_r8 ++ (wsL_law_r9 ++ (wsL_law_r10 ++ (wsL_law_r11 ++ (wsL_law_r12 ++ (wsL_law_r13 ++ (wsL_law_r14 ++ (wsL_law_r15 ++ (wsL_law_r16 ++ (wsL_law_r17 ++ (wsL_law_r18 ++ (wsL_law_r19 ++ (wsL_law_r20 ++ (wsL_law_r21 ++ (wsL_law_r22 ++ (wsL_law_r23 ++ (wsL_law_r24 ++ (wsL_law_r25 ++ (wsL_law_r26 ++ (wsL_law_r27 ++ (wsL_law_r28 ++ (wsL_law_r29 ++ (wsL_law_r30 ++ (wsL_law_r31 ++ (wsL_law_r32 ++ (wsL_law_r33 ++ (wsL_law_r34 ++ (wsL_law_r35 ++ (wsL_law_r36 ++ (wsL_law_r37 ++ (wsL_law_r38 ++ (wsL_law_r39 ++ (wsL_law_r40 ++ (wsL_law_r41 ++ (wsL_law_r42 ++ (wsL_law_r43 ++ (wsL_law_r44 ++ (wsL_law_r45 ++ (wsL_law_r46 ++ (wsL_law_r47 ++ (wsL_law_r48 ++ (wsL_law_r49 ++ (wsL_law_r50 ++ (wsL_law_r51 ++ (wsL_law_r52 ++ (wsL_law_r53 ++ (wsL_law_r54 ++ (wsL_law_r55 ++ (wsL_law_r56 ++ (wsL_law_r57 ++ (wsL_law_r58 ++ (wsL_law_r59 ++ (wsL_law_r60 ++ (wsL_law_r61 ++ (wsL_law_r62 ++ (wsL_law_r63 ++ (wsL_law_r64 ++ (wsL_law_r65 ++ (wsL_law_r66 ++ (wsL_law_r67 ++ wsL_law_r68))))))))))))))))))))))))))))))))))))))))))))))))))))))))))))), w ∈ lw_tbl := app2 it_r7 it_t8
theorem it_t6 : ∀ w ∈ (wsL_law_r6 ++ (wsL_law_r7 ++ (wsL_law_r8 ++ (wsL_law_r9 ++ (wsL_law_r10 ++ (wsL_law_r11 ++ (wsL_law_r12 ++ (wsL_law_r13 ++ (wsL_law_r14 ++ (wsL_law_r15 ++ (wsL_law_r16 ++ (wsL_law_r17 ++ (wsL_law_r18 ++ (wsL_law_r19 ++ (wsL_law_r20 ++ (wsL_law_r21 ++ (wsL_law_r22 ++ (wsL_law_r23 ++ (wsL_law_r24 ++ (wsL_law_r25 ++ (wsL_law_r26 ++ (wsL_law_r27 ++ (wsL_law_r28 ++ (wsL_law_r29 ++ (wsL_law_r30 ++ (wsL_law_r31 ++ (wsL_law_r32 ++ (wsL_law_r33 ++ (wsL_law_r34 ++ (wsL_law_r35 ++ (wsL_law_r36 ++ (wsL_law_r37 ++ (wsL_law_r38 ++ (wsL_law_r39 ++ (wsL_law_r40 ++ (wsL_law_r41 ++ (wsL_law_r42 ++ (wsL_law_r43 ++ (wsL_law_r44 ++ (wsL_law_r45 ++ (wsL_law_r46 ++ (wsL_law_r47 ++ (wsL_law_r48 ++ (wsL_law_r49 ++ (wsL_law_r50 ++ (wsL_law_r51 ++ (wsL_law_r52 ++ (wsL_law_r53 ++ (wsL_law_r54 ++ (wsL_law_r55 ++ (wsL_law_r56 ++ (wsL_law_r57 ++ (wsL_law_r58 ++ (wsL_law_r59 ++ (wsL_law_r60 ++ (wsL_law_r61 ++ (wsL_law_r62 ++ (wsL_law_r63 ++ (wsL_law_r64 ++ (wsL_law_r65 ++ (wsL_law_r66 ++ (wsL_law_r67 ++ wsL_law_r68)))))))))))))))))))))))))))))))))))))))))))))))))))))))))))))), w ∈ lw_tbl := app2 it_r6 it_t7
theorem it_t5 : ∀ w ∈ (wsL_law_r5 ++ (wsL_law_r6 ++ (wsL_law_r7 ++ (wsL_law_r8 ++ (wsL_law_r9 ++ (wsL_law_r10 ++ (wsL_law_r11 ++ (wsL_law_r12 ++ (wsL_law_r13 ++ (wsL_law_r14 ++ (wsL_law_r15 ++ (wsL_law_r16 ++ (wsL_law_r17 ++ (wsL_law_r18 ++ (wsL_law_r19 ++ (wsL_law_r20 ++ (wsL_law_r21 ++ (wsL_law_r22 ++ (wsL_law_r23 ++ (wsL_law_r24 ++ (wsL_law_r25 ++ (wsL_law_r26 ++ (wsL_law_r27 ++ (wsL_law_r28 ++ (wsL_law_r29 ++ (wsL_law_r30 ++ (wsL_law_r31 ++ (wsL_law_r32 ++ (wsL_law_r33 ++ (wsL_law_r34 ++ (wsL_law_r35 ++ (wsL_law_r36 ++ (wsL_law_r37 ++ (wsL_law_r38 ++ (wsL_law_r39 ++ (wsL_law_r40 ++ (wsL_law_r41 ++ (wsL_law_r42 ++ (wsL_law_r43 ++ (wsL_law_r44 ++ (wsL_law_r45 ++ (wsL_law_r46 ++ (wsL_law_r47 ++ (wsL_law_r48 ++ (wsL_law_r49 ++ (wsL_law_r50 ++ (wsL_law_r51 ++ (wsL_law_r52 ++ (wsL_law_r53 ++ (wsL_law_r54 ++ (wsL_law_r55 ++ (wsL_law_r56 ++ (wsL_law_r57 ++ (wsL_law_r58 ++ (wsL_law_r59 ++ (wsL_law_r60 ++ (wsL_law_r61 ++ (wsL_law_r62 ++ (wsL_law_r63 ++ (wsL_law_r64 ++ (wsL_law_r65 ++ (wsL_law_r66 ++ (wsL_law_r67 ++ wsL_law_r68))))))))))))))))))))))))))))))))))))))))))))))))))))))))))))))), w ∈ lw_tbl := app2 it_r5 it_t6
theorem it_t4 : ∀ w ∈ (wsL_law_r4 ++ (wsL_law_r5 ++ (wsL_law_r6 ++ (wsL_law_r7 ++ (wsL_law_r8 ++ (wsL_law_r9 ++ (wsL_law_r10 ++ (wsL_law_r11 ++ (wsL_law_r12 ++ (wsL_law_r13 ++ (wsL_law_r14 ++ (wsL_law_r15 ++ (wsL_law_r16 ++ (wsL_law_r17 ++ (wsL_law_r18 ++ (wsL_law_r19 ++ (wsL_law_r20 ++ (wsL_law_r21 ++ (wsL_law_r22 ++ (wsL_law_r23 ++ (wsL_law_r24 ++ (wsL_law_r25 ++ (wsL_law_r26 ++ (wsL_law_r27 ++ (wsL_law_r28 ++ (wsL_law_r29 ++ (wsL_law_r30 ++ (wsL_law_r31 ++ (wsL_law_r32 ++ (wsL_law_r33 ++ (wsL_law_r34 ++ (wsL_law_r35 ++ (wsL_law_r36 ++ (wsL_law_r37 ++ (wsL_law_r38 ++ (wsL_law_r39 ++ (wsL_law_r40 ++ (wsL_law_r41 ++ (wsL_law_r42 ++ (wsL_law_r43 ++ (wsL_law_r44 ++ (wsL_law_r45 ++ (wsL_law_r46 ++ (wsL_law_r47 ++ (wsL_law_r48 ++ (wsL_law_r49 ++ (wsL_law_r50 ++ (wsL_law_r51 ++ (wsL_law_r52 ++ (wsL_law_r53 ++ (wsL_law_r54 ++ (wsL_law_r55 ++ (wsL_law_r56 ++ (wsL_law_r57 ++ (wsL_law_r58 ++ (wsL_law_r59 ++ (wsL_law_r60 ++ (wsL_law_r61 ++ (wsL_law_r62 ++ (wsL_law_r63 ++ (wsL_law_r64 ++ (wsL_law_r65 ++ (wsL_law_r66 ++ (wsL_law_r67 ++ wsL_law_r68)))))))))))))))))))))))))))))))))))))))))))))))))))))))))))))))), w ∈ lw_tbl := app2 it_r4 it_t5
theorem it_t3 : ∀ w ∈ (wsL_law_r3 ++ (wsL_law_r4 ++ (wsL_law_r5 ++ (wsL_law_r6 ++ (wsL_law_r7 ++ (wsL_law_r8 ++ (wsL_law_r9 ++ (wsL_law_r10 ++ (wsL_law_r11 ++ (wsL_law_r12 ++ (wsL_law_r13 ++ (wsL_law_r14 ++ (wsL_law_r15 ++ (wsL_law_r16 ++ (wsL_law_r17 ++ (wsL_law_r18 ++ (wsL_law_r19 ++ (wsL_law_r20 ++ (wsL_law_r21 ++ (wsL_law_r22 ++ (wsL_law_r23 ++ (wsL_law_r24 ++ (wsL_law_r25 ++ (wsL_law_r26 ++ (wsL_law_r27 ++ (wsL_law_r28 ++ (wsL_law_r29 ++ (wsL_law_r30 ++ (wsL_law_r31 ++ (wsL_law_r32 ++ (wsL_law_r33 ++ (wsL_law_r34 ++ (wsL_law_r35 ++ (wsL_law_r36 ++ (wsL_law_r37 ++ (wsL_law_r38 ++ (wsL_law_r39 ++ (wsL_law_r40 ++ (wsL_law_r41 ++ (wsL_law_r42 ++ (wsL_law_r43 ++ (wsL_law_r44 ++ (wsL_law_r45 ++ (wsL_law_r46 ++ (wsL_law_r47 ++ (wsL_law_r48 ++ (wsL_law_r49 ++ (wsL_law_r50 ++ (wsL_law_r51 ++ (wsL_law_r52 ++ (wsL_law_r53 ++ (wsL_law_r54 ++ (wsL_law_r55 ++ (wsL_law_r56 ++ (wsL_law_r57 ++ (wsL_law_r58 ++ (wsL_law_r59 ++ (wsL_law_r60 ++ (wsL_law_r61 ++ (wsL_law_r62 ++ (wsL_law_r63 ++ (wsL_law_r64 ++ (wsL_law_r65 ++ (wsL_law_r66 ++ (wsL_law_r67 ++ wsL_law_r68))))))))))))))))))))))))))))))))))))))))))))))))))))))))))))))))), w ∈ lw_tbl := app2 it_r3 it_t4
theorem it_t2 : ∀ w ∈ (wsL_law_r2 ++ (wsL_law_r3 ++ (wsL_law_r4 ++ (wsL_law_r5 ++ (wsL_law_r6 ++ (wsL_law_r7 ++ (wsL_law_r8 ++ (wsL_law_r9 ++ (wsL_law_r10 ++ (wsL_law_r11 ++ (wsL_law_r12 ++ (wsL_law_r13 ++ (wsL_law_r14 ++ (wsL_law_r15 ++ (wsL_law_r16 ++ (wsL_law_r17 ++ (wsL_law_r18 ++ (wsL_law_r19 ++ (wsL_law_r20 ++ (wsL_law_r21 ++ (wsL_law_r22 ++ (wsL_law_r23 ++ (wsL_law_r24 ++ (wsL_law_r25 ++ (wsL_law_r26 ++ (wsL_law_r27 ++ (wsL_law_r28 ++ (wsL_law_r29 ++ (wsL_law_r30 ++ (wsL_law_r31 ++ (wsL_law_r32 ++ (wsL_law_r33 ++ (wsL_law_r34 ++ (wsL_law_r35 ++ (wsL_law_r36 ++ (wsL_law_r37 ++ (wsL_law_r38 ++ (wsL_law_r39 ++ (wsL_law_r40 ++ (wsL_law_r41 ++ (wsL_law_r42 ++ (wsL_law_r43 ++ (wsL_law_r44 ++ (wsL_law_r45 ++ (wsL_law_r46 ++ (wsL_law_r47 ++ (wsL_law_r48 ++ (wsL_law_r49 ++ (wsL_law_r50 ++ (wsL_law_r51 ++ (wsL_law_r52 ++ (wsL_law_r53 ++ (wsL_law_r54 ++ (wsL_law_r55 ++ (wsL_law_r56 ++ (wsL_law_r57 ++ (wsL_law_r58 ++ (wsL_law_r59 ++ (wsL_law_r60 ++ (wsL_law_r61 ++ (wsL_law_r62 ++ (wsL_law_r63 ++ (wsL_law_r64 ++ (wsL_law_r65 ++ (wsL_law_r66 ++ (wsL_law_r67 ++ wsL_law_r68)))))))))))))))))))))))))))))))))))))))))))))))))))))))))))))))))), w ∈ lw_tbl := app2 it_r2 it_t3
theorem it_t1 : ∀ w ∈ (wsL_law_r1 ++ (wsL_law_r2 ++ (wsL_law_r3 ++ (wsL_law_r4 ++ (wsL_law_r5 ++ (wsL_law_r6 ++ (wsL_law_r7 ++ (wsL_law_r8 ++ (wsL_law_r9 ++ (wsL_law_r10 ++ (wsL_law_r11 ++ (wsL_law_r12 ++ (wsL_law_r13 ++ (wsL_law_r14 ++ (wsL_law_r15 ++ (wsL_law_r16 ++ (wsL_law_r17 ++ (wsL_law_r18 ++ (wsL_law_r19 ++ (wsL_law_r20 ++ (wsL_law_r21 ++ (wsL_law_r22 ++ (wsL_law_r23 ++ (wsL_law_r24 ++ (wsL_law_r25 ++ (wsL_law_r26 ++ (wsL_law_r27 ++ (wsL_law_r28 ++ (wsL_law_r29 ++ (wsL_law_r30 ++ (wsL_law_r31 ++ (wsL_law_r32 ++ (wsL_law_r33 ++ (wsL_law_r34 ++ (wsL_law_r35 ++ (wsL_law_r36 ++ (wsL_law_r37 ++ (wsL_law_r38 ++ (wsL_law_r39 ++ (wsL_law_r40 ++ (wsL_law_r41 ++ (wsL_law_r42 ++ (wsL_law_r43 ++ (wsL_law_r44 ++ (wsL_law_r45 ++ (wsL_law_r46 ++ (wsL_law_r47 ++ (wsL_law_r48 ++ (wsL_law_r49 ++ (wsL_law_r50 ++ (wsL_law_r51 ++ (wsL_law_r52 ++ (wsL_law_r53 ++ (wsL_law_r54 ++ (wsL_law_r55 ++ (wsL_law_r56 ++ (wsL_law_r57 ++ (wsL_law_r58 ++ (wsL_law_r59 ++ (wsL_law_r60 ++ (wsL_law_r61 ++ (wsL_law_r62 ++ (wsL_law_r63 ++ (wsL_law_r64 ++ (wsL_law_r65 ++ (wsL_law_r66 ++ (wsL_law_r67 ++ wsL_law_r68))))))))))))))))))))))))))))))))))))))))))))))))))))))))))))))))))), w ∈ lw_tbl := app2 it_r1 it_t2
theorem it_o11 : ∀ w ∈ (wsL_law_r1 ++ (wsL_law_r2 ++ (wsL_law_r3 ++ (wsL_law_r4 ++ (wsL_law_r5 ++ (wsL_law_r6 ++ (wsL_law_r7 ++ (wsL_law_r8 ++ (wsL_law_r9 ++ (wsL_law_r10 ++ (wsL_law_r11 ++ (wsL_law_r12 ++ (wsL_law_r13 ++ (wsL_law_r14 ++ (wsL_law_r15 ++ (wsL_law_r16 ++ (wsL_law_r17 ++ (wsL_law_r18 ++ (wsL_law_r19 ++ (wsL_law_r20 ++ (wsL_law_r21 ++ (wsL_law_r22 ++ (wsL_law_r23 ++ (wsL_law_r24 ++ (wsL_law_r25 ++ (wsL_law_r26 ++ (wsL_law_r27 ++ (wsL_law_r28 ++ (wsL_law_r29 ++ (wsL_law_r30 ++ (wsL_law_r31 ++ (wsL_law_r32 ++ (wsL_law_r33 ++ (wsL_law_r34 ++ (wsL_law_r35 ++ (wsL_law_r36 ++ (wsL_law_r37 ++ (wsL_law_r38 ++ (wsL_law_r39 ++ (wsL_law_r40 ++ (wsL_law_r41 ++ (wsL_law_r42 ++ (wsL_law_r43 ++ (wsL_law_r44 ++ (wsL_law_r45 ++ (wsL_law_r46 ++ (wsL_law_r47 ++ (wsL_law_r48 ++ (wsL_law_r49 ++ (wsL_law_r50 ++ (wsL_law_r51 ++ (wsL_law_r52 ++ (wsL_law_r53 ++ (wsL_law_r54 ++ (wsL_law_r55 ++ (wsL_law_r56 ++ (wsL_law_r57 ++ (wsL_law_r58 ++ (wsL_law_r59 ++ (wsL_law_r60 ++ (wsL_law_r61 ++ (wsL_law_r62 ++ (wsL_law_r63 ++ (wsL_law_r64 ++ (wsL_law_r65 ++ (wsL_law_r66 ++ (wsL_law_r67 ++ wsL_law_r68))))))))))))))))))))))))))))))))))))))))))))))))))))))))))))))))))) ++ wsX110, w ∈ lw_tbl := app2 it_t1 it_X11
theorem it_o12 : ∀ w ∈ (wsL_law_r1 ++ (wsL_law_r2 ++ (wsL_law_r3 ++ (wsL_law_r4 ++ (wsL_law_r5 ++ (wsL_law_r6 ++ (wsL_law_r7 ++ (wsL_law_r8 ++ (wsL_law_r9 ++ (wsL_law_r10 ++ (wsL_law_r11 ++ (wsL_law_r12 ++ (wsL_law_r13 ++ (wsL_law_r14 ++ (wsL_law_r15 ++ (wsL_law_r16 ++ (wsL_law_r17 ++ (wsL_law_r18 ++ (wsL_law_r19 ++ (wsL_law_r20 ++ (wsL_law_r21 ++ (wsL_law_r22 ++ (wsL_law_r23 ++ (wsL_law_r24 ++ (wsL_law_r25 ++ (wsL_law_r26 ++ (wsL_law_r27 ++ (wsL_law_r28 ++ (wsL_law_r29 ++ (wsL_law_r30 ++ (wsL_law_r31 ++ (wsL_law_r32 ++ (wsL_law_r33 ++ (wsL_law_r34 ++ (wsL_law_r35 ++ (wsL_law_r36 ++ (wsL_law_r37 ++ (wsL_law_r38 ++ (wsL_law_r39 ++ (wsL_law_r40 ++ (wsL_law_r41 ++ (wsL_law_r42 ++ (wsL_law_r43 ++ (wsL_law_r44 ++ (wsL_law_r45 ++ (wsL_law_r46 ++ (wsL_law_r47 ++ (wsL_law_r48 ++ (wsL_law_r49 ++ (wsL_law_r50 ++ (wsL_law_r51 ++ (wsL_law_r52 ++ (wsL_law_r53 ++ (wsL_law_r54 ++ (wsL_law_r55 ++ (wsL_law_r56 ++ (wsL_law_r57 ++ (wsL_law_r58 ++ (wsL_law_r59 ++ (wsL_law_r60 ++ (wsL_law_r61 ++ (wsL_law_r62 ++ (wsL_law_r63 ++ (wsL_law_r64 ++ (wsL_law_r65 ++ (wsL_law_r66 ++ (wsL_law_r67 ++ wsL_law_r68))))))))))))))))))))))))))))))))))))))))))))))))))))))))))))))))))) ++ wsX110 ++ wsX120, w ∈ lw_tbl := app2 it_o11 it_X12
theorem it_o10 : ∀ w ∈ (wsL_law_r1 ++ (wsL_law_r2 ++ (wsL_law_r3 ++ (wsL_law_r4 ++ (wsL_law_r5 ++ (wsL_law_r6 ++ (wsL_law_r7 ++ (wsL_law_r8 ++ (wsL_law_r9 ++ (wsL_law_r10 ++ (wsL_law_r11 ++ (wsL_law_r12 ++ (wsL_law_r13 ++ (wsL_law_r14 ++ (wsL_law_r15 ++ (wsL_law_r16 ++ (wsL_law_r17 ++ (wsL_law_r18 ++ (wsL_law_r19 ++ (wsL_law_r20 ++ (wsL_law_r21 ++ (wsL_law_r22 ++ (wsL_law_r23 ++ (wsL_law_r24 ++ (wsL_law_r25 ++ (wsL_law_r26 ++ (wsL_law_r27 ++ (wsL_law_r28 ++ (wsL_law_r29 ++ (wsL_law_r30 ++ (wsL_law_r31 ++ (wsL_law_r32 ++ (wsL_law_r33 ++ (wsL_law_r34 ++ (wsL_law_r35 ++ (wsL_law_r36 ++ (wsL_law_r37 ++ (wsL_law_r38 ++ (wsL_law_r39 ++ (wsL_law_r40 ++ (wsL_law_r41 ++ (wsL_law_r42 ++ (wsL_law_r43 ++ (wsL_law_r44 ++ (wsL_law_r45 ++ (wsL_law_r46 ++ (wsL_law_r47 ++ (wsL_law_r48 ++ (wsL_law_r49 ++ (wsL_law_r50 ++ (wsL_law_r51 ++ (wsL_law_r52 ++ (wsL_law_r53 ++ (wsL_law_r54 ++ (wsL_law_r55 ++ (wsL_law_r56 ++ (wsL_law_r57 ++ (wsL_law_r58 ++ (wsL_law_r59 ++ (wsL_law_r60 ++ (wsL_law_r61 ++ (wsL_law_r62 ++ (wsL_law_r63 ++ (wsL_law_r64 ++ (wsL_law_r65 ++ (wsL_law_r66 ++ (wsL_law_r67 ++ wsL_law_r68))))))))))))))))))))))))))))))))))))))))))))))))))))))))))))))))))) ++ wsX110 ++ wsX120 ++ wsX100, w ∈ lw_tbl := app2 it_o12 it_X10
theorem it_o5 : ∀ w ∈ (wsL_law_r1 ++ (wsL_law_r2 ++ (wsL_law_r3 ++ (wsL_law_r4 ++ (wsL_law_r5 ++ (wsL_law_r6 ++ (wsL_law_r7 ++ (wsL_law_r8 ++ (wsL_law_r9 ++ (wsL_law_r10 ++ (wsL_law_r11 ++ (wsL_law_r12 ++ (wsL_law_r13 ++ (wsL_law_r14 ++ (wsL_law_r15 ++ (wsL_law_r16 ++ (wsL_law_r17 ++ (wsL_law_r18 ++ (wsL_law_r19 ++ (wsL_law_r20 ++ (wsL_law_r21 ++ (wsL_law_r22 ++ (wsL_law_r23 ++ (wsL_law_r24 ++ (wsL_law_r25 ++ (wsL_law_r26 ++ (wsL_law_r27 ++ (wsL_law_r28 ++ (wsL_law_r29 ++ (wsL_law_r30 ++ (wsL_law_r31 ++ (wsL_law_r32 ++ (wsL_law_r33 ++ (wsL_law_r34 ++ (wsL_law_r35 ++ (wsL_law_r36 ++ (wsL_law_r37 ++ (wsL_law_r38 ++ (wsL_law_r39 ++ (wsL_law_r40 ++ (wsL_law_r41 ++ (wsL_law_r42 ++ (wsL_law_r43 ++ (wsL_law_r44 ++ (wsL_law_r45 ++ (wsL_law_r46 ++ (wsL_law_r47 ++ (wsL_law_r48 ++ (wsL_law_r49 ++ (wsL_law_r50 ++ (wsL_law_r51 ++ (wsL_law_r52 ++ (wsL_law_r53 ++ (wsL_law_r54 ++ (wsL_law_r55 ++ (wsL_law_r56 ++ (wsL_law_r57 ++ (wsL_law_r58 ++ (wsL_law_r59 ++ (wsL_law_r60 ++ (wsL_law_r61 ++ (wsL_law_r62 ++ (wsL_law_r63 ++ (wsL_law_r64 ++ (wsL_law_r65 ++ (wsL_law_r66 ++ (wsL_law_r67 ++ wsL_law_r68))))))))))))))))))))))))))))))))))))))))))))))))))))))))))))))))))) ++ wsX110 ++ wsX120 ++ wsX100 ++ wsX50, w ∈ lw_tbl := app2 it_o10 it_X5
theorem it_o0 : ∀ w ∈ (wsL_law_r1 ++ (wsL_law_r2 ++ (wsL_law_r3 ++ (wsL_law_r4 ++ (wsL_law_r5 ++ (wsL_law_r6 ++ (wsL_law_r7 ++ (wsL_law_r8 ++ (wsL_law_r9 ++ (wsL_law_r10 ++ (wsL_law_r11 ++ (wsL_law_r12 ++ (wsL_law_r13 ++ (wsL_law_r14 ++ (wsL_law_r15 ++ (wsL_law_r16 ++ (wsL_law_r17 ++ (wsL_law_r18 ++ (wsL_law_r19 ++ (wsL_law_r20 ++ (wsL_law_r21 ++ (wsL_law_r22 ++ (wsL_law_r23 ++ (wsL_law_r24 ++ (wsL_law_r25 ++ (wsL_law_r26 ++ (wsL_law_r27 ++ (wsL_law_r28 ++ (wsL_law_r29 ++ (wsL_law_r30 ++ (wsL_law_r31 ++ (wsL_law_r32 ++ (wsL_law_r33 ++ (wsL_law_r34 ++ (wsL_law_r35 ++ (wsL_law_r36 ++ (wsL_law_r37 ++ (wsL_law_r38 ++ (wsL_law_r39 ++ (wsL_law_r40 ++ (wsL_law_r41 ++ (wsL_law_r42 ++ (wsL_law_r43 ++ (wsL_law_r44 ++ (wsL_law_r45 ++ (wsL_law_r46 ++ (wsL_law_r47 ++ (wsL_law_r48 ++ (wsL_law_r49 ++ (wsL_law_r50 ++ (wsL_law_r51 ++ (wsL_law_r52 ++ (wsL_law_r53 ++ (wsL_law_r54 ++ (wsL_law_r55 ++ (wsL_law_r56 ++ (wsL_law_r57 ++ (wsL_law_r58 ++ (wsL_law_r59 ++ (wsL_law_r60 ++ (wsL_law_r61 ++ (wsL_law_r62 ++ (wsL_law_r63 ++ (wsL_law_r64 ++ (wsL_law_r65 ++ (wsL_law_r66 ++ (wsL_law_r67 ++ wsL_law_r68))))))))))))))))))))))))))))))))))))))))))))))))))))))))))))))))))) ++ wsX110 ++ wsX120 ++ wsX100 ++ wsX50 ++ wsX00, w ∈ lw_tbl := app2 it_o5 it_X0
theorem it_o9 : ∀ w ∈ (wsL_law_r1 ++ (wsL_law_r2 ++ (wsL_law_r3 ++ (wsL_law_r4 ++ (wsL_law_r5 ++ (wsL_law_r6 ++ (wsL_law_r7 ++ (wsL_law_r8 ++ (wsL_law_r9 ++ (wsL_law_r10 ++ (wsL_law_r11 ++ (wsL_law_r12 ++ (wsL_law_r13 ++ (wsL_law_r14 ++ (wsL_law_r15 ++ (wsL_law_r16 ++ (wsL_law_r17 ++ (wsL_law_r18 ++ (wsL_law_r19 ++ (wsL_law_r20 ++ (wsL_law_r21 ++ (wsL_law_r22 ++ (wsL_law_r23 ++ (wsL_law_r24 ++ (wsL_law_r25 ++ (wsL_law_r26 ++ (wsL_law_r27 ++ (wsL_law_r28 ++ (wsL_law_r29 ++ (wsL_law_r30 ++ (wsL_law_r31 ++ (wsL_law_r32 ++ (wsL_law_r33 ++ (wsL_law_r34 ++ (wsL_law_r35 ++ (wsL_law_r36 ++ (wsL_law_r37 ++ (wsL_law_r38 ++ (wsL_law_r39 ++ (wsL_law_r40 ++ (wsL_law_r41 ++ (wsL_law_r42 ++ (wsL_law_r43 ++ (wsL_law_r44 ++ (wsL_law_r45 ++ (wsL_law_r46 ++ (wsL_law_r47 ++ (wsL_law_r48 ++ (wsL_law_r49 ++ (wsL_law_r50 ++ (wsL_law_r51 ++ (wsL_law_r52 ++ (wsL_law_r53 ++ (wsL_law_r54 ++ (wsL_law_r55 ++ (wsL_law_r56 ++ (wsL_law_r57 ++ (wsL_law_r58 ++ (wsL_law_r59 ++ (wsL_law_r60 ++ (wsL_law_r61 ++ (wsL_law_r62 ++ (wsL_law_r63 ++ (wsL_law_r64 ++ (wsL_law_r65 ++ (wsL_law_r66 ++ (wsL_law_r67 ++ wsL_law_r68))))))))))))))))))))))))))))))))))))))))))))))))))))))))))))))))))) ++ wsX110 ++ wsX120 ++ wsX100 ++ wsX50 ++ wsX00 ++ wsX90, w ∈ lw_tbl := app2 it_o0 it_X9
theorem it_o8 : ∀ w ∈ (wsL_law_r1 ++ (wsL_law_r2 ++ (wsL_law_r3 ++ (wsL_law_r4 ++ (wsL_law_r5 ++ (wsL_law_r6 ++ (wsL_law_r7 ++ (wsL_law_r8 ++ (wsL_law_r9 ++ (wsL_law_r10 ++ (wsL_law_r11 ++ (wsL_law_r12 ++ (wsL_law_r13 ++ (wsL_law_r14 ++ (wsL_law_r15 ++ (wsL_law_r16 ++ (wsL_law_r17 ++ (wsL_law_r18 ++ (wsL_law_r19 ++ (wsL_law_r20 ++ (wsL_law_r21 ++ (wsL_law_r22 ++ (wsL_law_r23 ++ (wsL_law_r24 ++ (wsL_law_r25 ++ (wsL_law_r26 ++ (wsL_law_r27 ++ (wsL_law_r28 ++ (wsL_law_r29 ++ (wsL_law_r30 ++ (wsL_law_r31 ++ (wsL_law_r32 ++ (wsL_law_r33 ++ (wsL_law_r34 ++ (wsL_law_r35 ++ (wsL_law_r36 ++ (wsL_law_r37 ++ (wsL_law_r38 ++ (wsL_law_r39 ++ (wsL_law_r40 ++ (wsL_law_r41 ++ (wsL_law_r42 ++ (wsL_law_r43 ++ (wsL_law_r44 ++ (wsL_law_r45 ++ (wsL_law_r46 ++ (wsL_law_r47 ++ (wsL_law_r48 ++ (wsL_law_r49 ++ (wsL_law_r50 ++ (wsL_law_r51 ++ (wsL_law_r52 ++ (wsL_law_r53 ++ (wsL_law_r54 ++ (wsL_law_r55 ++ (wsL_law_r56 ++ (wsL_law_r57 ++ (wsL_law_r58 ++ (wsL_law_r59 ++ (wsL_law_r60 ++ (wsL_law_r61 ++ (wsL_law_r62 ++ (wsL_law_r63 ++ (wsL_law_r64 ++ (wsL_law_r65 ++ (wsL_law_r66 ++ (wsL_law_r67 ++ wsL_law_r68))))))))))))))))))))))))))))))))))))))))))))))))))))))))))))))))))) ++ wsX110 ++ wsX120 ++ wsX100 ++ wsX50 ++ wsX00 ++ wsX90 ++ wsX80, w ∈ lw_tbl := app2 it_o9 it_X8
theorem it_o6 : ∀ w ∈ (wsL_law_r1 ++ (wsL_law_r2 ++ (wsL_law_r3 ++ (wsL_law_r4 ++ (wsL_law_r5 ++ (wsL_law_r6 ++ (wsL_law_r7 ++ (wsL_law_r8 ++ (wsL_law_r9 ++ (wsL_law_r10 ++ (wsL_law_r11 ++ (wsL_law_r12 ++ (wsL_law_r13 ++ (wsL_law_r14 ++ (wsL_law_r15 ++ (wsL_law_r16 ++ (wsL_law_r17 ++ (wsL_law_r18 ++ (wsL_law_r19 ++ (wsL_law_r20 ++ (wsL_law_r21 ++ (wsL_law_r22 ++ (wsL_law_r23 ++ (wsL_law_r24 ++ (wsL_law_r25 ++ (wsL_law_r26 ++ (wsL_law_r27 ++ (wsL_law_r28 ++ (wsL_law_r29 ++ (wsL_law_r30 ++ (wsL_law_r31 ++ (wsL_law_r32 ++ (wsL_law_r33 ++ (wsL_law_r34 ++ (wsL_law_r35 ++ (wsL_law_r36 ++ (wsL_law_r37 ++ (wsL_law_r38 ++ (wsL_law_r39 ++ (wsL_law_r40 ++ (wsL_law_r41 ++ (wsL_law_r42 ++ (wsL_law_r43 ++ (wsL_law_r44 ++ (wsL_law_r45 ++ (wsL_law_r46 ++ (wsL_law_r47 ++ (wsL_law_r48 ++ (wsL_law_r49 ++ (wsL_law_r50 ++ (wsL_law_r51 ++ (wsL_law_r52 ++ (wsL_law_r53 ++ (wsL_law_r54 ++ (wsL_law_r55 ++ (wsL_law_r56 ++ (wsL_law_r57 ++ (wsL_law_r58 ++ (wsL_law_r59 ++ (wsL_law_r60 ++ (wsL_law_r61 ++ (wsL_law_r62 ++ (wsL_law_r63 ++ (wsL_law_r64 ++ (wsL_law_r65 ++ (wsL_law_r66 ++ (wsL_law_r67 ++ wsL_law_r68))))))))))))))))))))))))))))))))))))))))))))))))))))))))))))))))))) ++ wsX110 ++ wsX120 ++ wsX100 ++ wsX50 ++ wsX00 ++ wsX90 ++ wsX80 ++ wsX60, w ∈ lw_tbl := app2 it_o8 it_X6
theorem it_o2 : ∀ w ∈ (wsL_law_r1 ++ (wsL_law_r2 ++ (wsL_law_r3 ++ (wsL_law_r4 ++ (wsL_law_r5 ++ (wsL_law_r6 ++ (wsL_law_r7 ++ (wsL_law_r8 ++ (wsL_law_r9 ++ (wsL_law_r10 ++ (wsL_law_r11 ++ (wsL_law_r12 ++ (wsL_law_r13 ++ (wsL_law_r14 ++ (wsL_law_r15 ++ (wsL_law_r16 ++ (wsL_law_r17 ++ (wsL_law_r18 ++ (wsL_law_r19 ++ (wsL_law_r20 ++ (wsL_law_r21 ++ (wsL_law_r22 ++ (wsL_law_r23 ++ (wsL_law_r24 ++ (wsL_law_r25 ++ (wsL_law_r26 ++ (wsL_law_r27 ++ (wsL_law_r28 ++ (wsL_law_r29 ++ (wsL_law_r30 ++ (wsL_law_r31 ++ (wsL_law_r32 ++ (wsL_law_r33 ++ (wsL_law_r34 ++ (wsL_law_r35 ++ (wsL_law_r36 ++ (wsL_law_r37 ++ (wsL_law_r38 ++ (wsL_law_r39 ++ (wsL_law_r40 ++ (wsL_law_r41 ++ (wsL_law_r42 ++ (wsL_law_r43 ++ (wsL_law_r44 ++ (wsL_law_r45 ++ (wsL_law_r46 ++ (wsL_law_r47 ++ (wsL_law_r48 ++ (wsL_law_r49 ++ (wsL_law_r50 ++ (wsL_law_r51 ++ (wsL_law_r52 ++ (wsL_law_r53 ++ (wsL_law_r54 ++ (wsL_law_r55 ++ (wsL_law_r56 ++ (wsL_law_r57 ++ (wsL_law_r58 ++ (wsL_law_r59 ++ (wsL_law_r60 ++ (wsL_law_r61 ++ (wsL_law_r62 ++ (wsL_law_r63 ++ (wsL_law_r64 ++ (wsL_law_r65 ++ (wsL_law_r66 ++ (wsL_law_r67 ++ wsL_law_r68))))))))))))))))))))))))))))))))))))))))))))))))))))))))))))))))))) ++ wsX110 ++ wsX120 ++ wsX100 ++ wsX50 ++ wsX00 ++ wsX90 ++ wsX80 ++ wsX60 ++ wsX20, w ∈ lw_tbl := app2 it_o6 it_X2
theorem it_o3 : ∀ w ∈ (wsL_law_r1 ++ (wsL_law_r2 ++ (wsL_law_r3 ++ (wsL_law_r4 ++ (wsL_law_r5 ++ (wsL_law_r6 ++ (wsL_law_r7 ++ (wsL_law_r8 ++ (wsL_law_r9 ++ (wsL_law_r10 ++ (wsL_law_r11 ++ (wsL_law_r12 ++ (wsL_law_r13 ++ (wsL_law_r14 ++ (wsL_law_r15 ++ (wsL_law_r16 ++ (wsL_law_r17 ++ (wsL_law_r18 ++ (wsL_law_r19 ++ (wsL_law_r20 ++ (wsL_law_r21 ++ (wsL_law_r22 ++ (wsL_law_r23 ++ (wsL_law_r24 ++ (wsL_law_r25 ++ (wsL_law_r26 ++ (wsL_law_r27 ++ (wsL_law_r28 ++ (wsL_law_r29 ++ (wsL_law_r30 ++ (wsL_law_r31 ++ (wsL_law_r32 ++ (wsL_law_r33 ++ (wsL_law_r34 ++ (wsL_law_r35 ++ (wsL_law_r36 ++ (wsL_law_r37 ++ (wsL_law_r38 ++ (wsL_law_r39 ++ (wsL_law_r40 ++ (wsL_law_r41 ++ (wsL_law_r42 ++ (wsL_law_r43 ++ (wsL_law_r44 ++ (wsL_law_r45 ++ (wsL_law_r46 ++ (wsL_law_r47 ++ (wsL_law_r48 ++ (wsL_law_r49 ++ (wsL_law_r50 ++ (wsL_law_r51 ++ (wsL_law_r52 ++ (wsL_law_r53 ++ (wsL_law_r54 ++ (wsL_law_r55 ++ (wsL_law_r56 ++ (wsL_law_r57 ++ (wsL_law_r58 ++ (wsL_law_r59 ++ (wsL_law_r60 ++ (wsL_law_r61 ++ (wsL_law_r62 ++ (wsL_law_r63 ++ (wsL_law_r64 ++ (wsL_law_r65 ++ (wsL_law_r66 ++ (wsL_law_r67 ++ wsL_law_r68))))))))))))))))))))))))))))))))))))))))))))))))))))))))))))))))))) ++ wsX110 ++ wsX120 ++ wsX100 ++ wsX50 ++ wsX00 ++ wsX90 ++ wsX80 ++ wsX60 ++ wsX20 ++ wsX30, w ∈ lw_tbl := app2 it_o2 it_X3
theorem it_o1 : ∀ w ∈ (wsL_law_r1 ++ (wsL_law_r2 ++ (wsL_law_r3 ++ (wsL_law_r4 ++ (wsL_law_r5 ++ (wsL_law_r6 ++ (wsL_law_r7 ++ (wsL_law_r8 ++ (wsL_law_r9 ++ (wsL_law_r10 ++ (wsL_law_r11 ++ (wsL_law_r12 ++ (wsL_law_r13 ++ (wsL_law_r14 ++ (wsL_law_r15 ++ (wsL_law_r16 ++ (wsL_law_r17 ++ (wsL_law_r18 ++ (wsL_law_r19 ++ (wsL_law_r20 ++ (wsL_law_r21 ++ (wsL_law_r22 ++ (wsL_law_r23 ++ (wsL_law_r24 ++ (wsL_law_r25 ++ (wsL_law_r26 ++ (wsL_law_r27 ++ (wsL_law_r28 ++ (wsL_law_r29 ++ (wsL_law_r30 ++ (wsL_law_r31 ++ (wsL_law_r32 ++ (wsL_law_r33 ++ (wsL_law_r34 ++ (wsL_law_r35 ++ (wsL_law_r36 ++ (wsL_law_r37 ++ (wsL_law_r38 ++ (wsL_law_r39 ++ (wsL_law_r40 ++ (wsL_law_r41 ++ (wsL_law_r42 ++ (wsL_law_r43 ++ (wsL_law_r44 ++ (wsL_law_r45 ++ (wsL_law_r46 ++ (wsL_law_r47 ++ (wsL_law_r48 ++ (wsL_law_r49 ++ (wsL_law_r50 ++ (wsL_law_r51 ++ (wsL_law_r52 ++ (wsL_law_r53 ++ (wsL_law_r54 ++ (wsL_law_r55 ++ (wsL_law_r56 ++ (wsL_law_r57 ++ (wsL_law_r58 ++ (wsL_law_r59 ++ (wsL_law_r60 ++ (wsL_law_r61 ++ (wsL_law_r62 ++ (wsL_law_r63 ++ (wsL_law_r64 ++ (wsL_law_r65 ++ (wsL_law_r66 ++ (wsL_law_r67 ++ wsL_law_r68))))))))))))))))))))))))))))))))))))))))))))))))))))))))))))))))))) ++ wsX110 ++ wsX120 ++ wsX100 ++ wsX50 ++ wsX00 ++ wsX90 ++ wsX80 ++ wsX60 ++ wsX20 ++ wsX30 ++ wsX10, w ∈ lw_tbl := app2 it_o3 it_X1
theorem it_o4 : ∀ w ∈ (wsL_law_r1 ++ (wsL_law_r2 ++ (wsL_law_r3 ++ (wsL_law_r4 ++ (wsL_law_r5 ++ (wsL_law_r6 ++ (wsL_law_r7 ++ (wsL_law_r8 ++ (wsL_law_r9 ++ (wsL_law_r10 ++ (wsL_law_r11 ++ (wsL_law_r12 ++ (wsL_law_r13 ++ (wsL_law_r14 ++ (wsL_law_r15 ++ (wsL_law_r16 ++ (wsL_law_r17 ++ (wsL_law_r18 ++ (wsL_law_r19 ++ (wsL_law_r20 ++ (wsL_law_r21 ++ (wsL_law_r22 ++ (wsL_law_r23 ++ (wsL_law_r24 ++ (wsL_law_r25 ++ (wsL_law_r26 ++ (wsL_law_r27 ++ (wsL_law_r28 ++ (wsL_law_r29 ++ (wsL_law_r30 ++ (wsL_law_r31 ++ (wsL_law_r32 ++ (wsL_law_r33 ++ (wsL_law_r34 ++ (wsL_law_r35 ++ (wsL_law_r36 ++ (wsL_law_r37 ++ (wsL_law_r38 ++ (wsL_law_r39 ++ (wsL_law_r40 ++ (wsL_law_r41 ++ (wsL_law_r42 ++ (wsL_law_r43 ++ (wsL_law_r44 ++ (wsL_law_r45 ++ (wsL_law_r46 ++ (wsL_law_r47 ++ (wsL_law_r48 ++ (wsL_law_r49 ++ (wsL_law_r50 ++ (wsL_law_r51 ++ (wsL_law_r52 ++ (wsL_law_r53 ++ (wsL_law_r54 ++ (wsL_law_r55 ++ (wsL_law_r56 ++ (wsL_law_r57 ++ (wsL_law_r58 ++ (wsL_law_r59 ++ (wsL_law_r60 ++ (wsL_law_r61 ++ (wsL_law_r62 ++ (wsL_law_r63 ++ (wsL_law_r64 ++ (wsL_law_r65 ++ (wsL_law_r66 ++ (wsL_law_r67 ++ wsL_law_r68))))))))))))))))))))))))))))))))))))))))))))))))))))))))))))))))))) ++ wsX110 ++ wsX120 ++ wsX100 ++ wsX50 ++ wsX00 ++ wsX90 ++ wsX80 ++ wsX60 ++ wsX20 ++ wsX30 ++ wsX10 ++ wsX40, w ∈ lw_tbl := app2 it_o1 it_X4
theorem it_o7 : ∀ w ∈ (wsL_law_r1 ++ (wsL_law_r2 ++ (wsL_law_r3 ++ (wsL_law_r4 ++ (wsL_law_r5 ++ (wsL_law_r6 ++ (wsL_law_r7 ++ (wsL_law_r8 ++ (wsL_law_r9 ++ (wsL_law_r10 ++ (wsL_law_r11 ++ (wsL_law_r12 ++ (wsL_law_r13 ++ (wsL_law_r14 ++ (wsL_law_r15 ++ (wsL_law_r16 ++ (wsL_law_r17 ++ (wsL_law_r18 ++ (wsL_law_r19 ++ (wsL_law_r20 ++ (wsL_law_r21 ++ (wsL_law_r22 ++ (wsL_law_r23 ++ (wsL_law_r24 ++ (wsL_law_r25 ++ (wsL_law_r26 ++ (wsL_law_r27 ++ (wsL_law_r28 ++ (wsL_law_r29 ++ (wsL_law_r30 ++ (wsL_law_r31 ++ (wsL_law_r32 ++ (wsL_law_r33 ++ (wsL_law_r34 ++ (wsL_law_r35 ++ (wsL_law_r36 ++ (wsL_law_r37 ++ (wsL_law_r38 ++ (wsL_law_r39 ++ (wsL_law_r40 ++ (wsL_law_r41 ++ (wsL_law_r42 ++ (wsL_law_r43 ++ (wsL_law_r44 ++ (wsL_law_r45 ++ (wsL_law_r46 ++ (wsL_law_r47 ++ (wsL_law_r48 ++ (wsL_law_r49 ++ (wsL_law_r50 ++ (wsL_law_r51 ++ (wsL_law_r52 ++ (wsL_law_r53 ++ (wsL_law_r54 ++ (wsL_law_r55 ++ (wsL_law_r56 ++ (wsL_law_r57 ++ (wsL_law_r58 ++ (wsL_law_r59 ++ (wsL_law_r60 ++ (wsL_law_r61 ++ (wsL_law_r62 ++ (wsL_law_r63 ++ (wsL_law_r64 ++ (wsL_law_r65 ++ (wsL_law_r66 ++ (wsL_law_r67 ++ wsL_law_r68))))))))))))))))))))))))))))))))))))))))))))))))))))))))))))))))))) ++ wsX110 ++ wsX120 ++ wsX100 ++ wsX50 ++ wsX00 ++ wsX90 ++ wsX80 ++ wsX60 ++ wsX20 ++ wsX30 ++ wsX10 ++ wsX40 ++ wsX70, w ∈ lw_tbl := app2 it_o4 it_X7
theorem wsL_law_in : ∀ w ∈ wsL_law, w ∈ lw_tbl := app2 it_o7 (fun _ h => absurd h List.not_mem_nil)
theorem ig_t68 : ∀ w ∈ wsL_law_r68, goodWord w = true := ig_r68
theorem ig_t67 : ∀ w ∈ (wsL_law_r67 ++ wsL_law_r68), goodWord w = true := app2 ig_r67 ig_t68
theorem ig_t66 : ∀ w ∈ (wsL_law_r66 ++ (wsL_law_r67 ++ wsL_law_r68)), goodWord w = true := app2 ig_r66 ig_t67
theorem ig_t65 : ∀ w ∈ (wsL_law_r65 ++ (wsL_law_r66 ++ (wsL_law_r67 ++ wsL_law_r68))), goodWord w = true := app2 ig_r65 ig_t66
theorem ig_t64 : ∀ w ∈ (wsL_law_r64 ++ (wsL_law_r65 ++ (wsL_law_r66 ++ (wsL_law_r67 ++ wsL_law_r68)))), goodWord w = true := app2 ig_r64 ig_t65
theorem ig_t63 : ∀ w ∈ (wsL_law_r63 ++ (wsL_law_r64 ++ (wsL_law_r65 ++ (wsL_law_r66 ++ (wsL_law_r67 ++ wsL_law_r68))))), goodWord w = true := app2 ig_r63 ig_t64
theorem ig_t62 : ∀ w ∈ (wsL_law_r62 ++ (wsL_law_r63 ++ (wsL_law_r64 ++ (wsL_law_r65 ++ (wsL_law_r66 ++ (wsL_law_r67 ++ wsL_law_r68)))))), goodWord w = true := app2 ig_r62 ig_t63
theorem ig_t61 : ∀ w ∈ (wsL_law_r61 ++ (wsL_law_r62 ++ (wsL_law_r63 ++ (wsL_law_r64 ++ (wsL_law_r65 ++ (wsL_law_r66 ++ (wsL_law_r67 ++ wsL_law_r68))))))), goodWord w = true := app2 ig_r61 ig_t62
theorem ig_t60 : ∀ w ∈ (wsL_law_r60 ++ (wsL_law_r61 ++ (wsL_law_r62 ++ (wsL_law_r63 ++ (wsL_law_r64 ++ (wsL_law_r65 ++ (wsL_law_r66 ++ (wsL_law_r67 ++ wsL_law_r68)))))))), goodWord w = true := app2 ig_r60 ig_t61
theorem ig_t59 : ∀ w ∈ (wsL_law_r59 ++ (wsL_law_r60 ++ (wsL_law_r61 ++ (wsL_law_r62 ++ (wsL_law_r63 ++ (wsL_law_r64 ++ (wsL_law_r65 ++ (wsL_law_r66 ++ (wsL_law_r67 ++ wsL_law_r68))))))))), goodWord w = true := app2 ig_r59 ig_t60
theorem ig_t58 : ∀ w ∈ (wsL_law_r58 ++ (wsL_law_r59 ++ (wsL_law_r60 ++ (wsL_law_r61 ++ (wsL_law_r62 ++ (wsL_law_r63 ++ (wsL_law_r64 ++ (wsL_law_r65 ++ (wsL_law_r66 ++ (wsL_law_r67 ++ wsL_law_r68)))))))))), goodWord w = true := app2 ig_r58 ig_t59
theorem ig_t57 : ∀ w ∈ (wsL_law_r57 ++ (wsL_law_r58 ++ (wsL_law_r59 ++ (wsL_law_r60 ++ (wsL_law_r61 ++ (wsL_law_r62 ++ (wsL_law_r63 ++ (wsL_law_r64 ++ (wsL_law_r65 ++ (wsL_law_r66 ++ (wsL_law_r67 ++ wsL_law_r68))))))))))), goodWord w = true := app2 ig_r57 ig_t58
theorem ig_t56 : ∀ w ∈ (wsL_law_r56 ++ (wsL_law_r57 ++ (wsL_law_r58 ++ (wsL_law_r59 ++ (wsL_law_r60 ++ (wsL_law_r61 ++ (wsL_law_r62 ++ (wsL_law_r63 ++ (wsL_law_r64 ++ (wsL_law_r65 ++ (wsL_law_r66 ++ (wsL_law_r67 ++ wsL_law_r68)))))))))))), goodWord w = true := app2 ig_r56 ig_t57
theorem ig_t55 : ∀ w ∈ (wsL_law_r55 ++ (wsL_law_r56 ++ (wsL_law_r57 ++ (wsL_law_r58 ++ (wsL_law_r59 ++ (wsL_law_r60 ++ (wsL_law_r61 ++ (wsL_law_r62 ++ (wsL_law_r63 ++ (wsL_law_r64 ++ (wsL_law_r65 ++ (wsL_law_r66 ++ (wsL_law_r67 ++ wsL_law_r68))))))))))))), goodWord w = true := app2 ig_r55 ig_t56
theorem ig_t54 : ∀ w ∈ (wsL_law_r54 ++ (wsL_law_r55 ++ (wsL_law_r56 ++ (wsL_law_r57 ++ (wsL_law_r58 ++ (wsL_law_r59 ++ (wsL_law_r60 ++ (wsL_law_r61 ++ (wsL_law_r62 ++ (wsL_law_r63 ++ (wsL_law_r64 ++ (wsL_law_r65 ++ (wsL_law_r66 ++ (wsL_law_r67 ++ wsL_law_r68)))))))))))))), goodWord w = true := app2 ig_r54 ig_t55
theorem ig_t53 : ∀ w ∈ (wsL_law_r53 ++ (wsL_law_r54 ++ (wsL_law_r55 ++ (wsL_law_r56 ++ (wsL_law_r57 ++ (wsL_law_r58 ++ (wsL_law_r59 ++ (wsL_law_r60 ++ (wsL_law_r61 ++ (wsL_law_r62 ++ (wsL_law_r63 ++ (wsL_law_r64 ++ (wsL_law_r65 ++ (wsL_law_r66 ++ (wsL_law_r67 ++ wsL_law_r68))))))))))))))), goodWord w = true := app2 ig_r53 ig_t54
theorem ig_t52 : ∀ w ∈ (wsL_law_r52 ++ (wsL_law_r53 ++ (wsL_law_r54 ++ (wsL_law_r55 ++ (wsL_law_r56 ++ (wsL_law_r57 ++ (wsL_law_r58 ++ (wsL_law_r59 ++ (wsL_law_r60 ++ (wsL_law_r61 ++ (wsL_law_r62 ++ (wsL_law_r63 ++ (wsL_law_r64 ++ (wsL_law_r65 ++ (wsL_law_r66 ++ (wsL_law_r67 ++ wsL_law_r68)))))))))))))))), goodWord w = true := app2 ig_r52 ig_t53
theorem ig_t51 : ∀ w ∈ (wsL_law_r51 ++ (wsL_law_r52 ++ (wsL_law_r53 ++ (wsL_law_r54 ++ (wsL_law_r55 ++ (wsL_law_r56 ++ (wsL_law_r57 ++ (wsL_law_r58 ++ (wsL_law_r59 ++ (wsL_law_r60 ++ (wsL_law_r61 ++ (wsL_law_r62 ++ (wsL_law_r63 ++ (wsL_law_r64 ++ (wsL_law_r65 ++ (wsL_law_r66 ++ (wsL_law_r67 ++ wsL_law_r68))))))))))))))))), goodWord w = true := app2 ig_r51 ig_t52
theorem ig_t50 : ∀ w ∈ (wsL_law_r50 ++ (wsL_law_r51 ++ (wsL_law_r52 ++ (wsL_law_r53 ++ (wsL_law_r54 ++ (wsL_law_r55 ++ (wsL_law_r56 ++ (wsL_law_r57 ++ (wsL_law_r58 ++ (wsL_law_r59 ++ (wsL_law_r60 ++ (wsL_law_r61 ++ (wsL_law_r62 ++ (wsL_law_r63 ++ (wsL_law_r64 ++ (wsL_law_r65 ++ (wsL_law_r66 ++ (wsL_law_r67 ++ wsL_law_r68)))))))))))))))))), goodWord w = true := app2 ig_r50 ig_t51
theorem ig_t49 : ∀ w ∈ (wsL_law_r49 ++ (wsL_law_r50 ++ (wsL_law_r51 ++ (wsL_law_r52 ++ (wsL_law_r53 ++ (wsL_law_r54 ++ (wsL_law_r55 ++ (wsL_law_r56 ++ (wsL_law_r57 ++ (wsL_law_r58 ++ (wsL_law_r59 ++ (wsL_law_r60 ++ (wsL_law_r61 ++ (wsL_law_r62 ++ (wsL_law_r63 ++ (wsL_law_r64 ++ (wsL_law_r65 ++ (wsL_law_r66 ++ (wsL_law_r67 ++ wsL_law_r68))))))))))))))))))), goodWord w = true := app2 ig_r49 ig_t50
theorem ig_t48 : ∀ w ∈ (wsL_law_r48 ++ (wsL_law_r49 ++ (wsL_law_r50 ++ (wsL_law_r51 ++ (wsL_law_r52 ++ (wsL_law_r53 ++ (wsL_law_r54 ++ (wsL_law_r55 ++ (wsL_law_r56 ++ (wsL_law_r57 ++ (wsL_law_r58 ++ (wsL_law_r59 ++ (wsL_law_r60 ++ (wsL_law_r61 ++ (wsL_law_r62 ++ (wsL_law_r63 ++ (wsL_law_r64 ++ (wsL_law_r65 ++ (wsL_law_r66 ++ (wsL_law_r67 ++ wsL_law_r68)))))))))))))))))))), goodWord w = true := app2 ig_r48 ig_t49
theorem ig_t47 : ∀ w ∈ (wsL_law_r47 ++ (wsL_law_r48 ++ (wsL_law_r49 ++ (wsL_law_r50 ++ (wsL_law_r51 ++ (wsL_law_r52 ++ (wsL_law_r53 ++ (wsL_law_r54 ++ (wsL_law_r55 ++ (wsL_law_r56 ++ (wsL_law_r57 ++ (wsL_law_r58 ++ (wsL_law_r59 ++ (wsL_law_r60 ++ (wsL_law_r61 ++ (wsL_law_r62 ++ (wsL_law_r63 ++ (wsL_law_r64 ++ (wsL_law_r65 ++ (wsL_law_r66 ++ (wsL_law_r67 ++ wsL_law_r68))))))))))))))))))))), goodWord w = true := app2 ig_r47 ig_t48
theorem ig_t46 : ∀ w ∈ (wsL_law_r46 ++ (wsL_law_r47 ++ (wsL_law_r48 ++ (wsL_law_r49 ++ (wsL_law_r50 ++ (wsL_law_r51 ++ (wsL_law_r52 ++ (wsL_law_r53 ++ (wsL_law_r54 ++ (wsL_law_r55 ++ (wsL_law_r56 ++ (wsL_law_r57 ++ (wsL_law_r58 ++ (wsL_law_r59 ++ (wsL_law_r60 ++ (wsL_law_r61 ++ (wsL_law_r62 ++ (wsL_law_r63 ++ (wsL_law_r64 ++ (wsL_law_r65 ++ (wsL_law_r66 ++ (wsL_law_r67 ++ wsL_law_r68)))))))))))))))))))))), goodWord w = true := app2 ig_r46 ig_t47
theorem ig_t45 : ∀ w ∈ (wsL_law_r45 ++ (wsL_law_r46 ++ (wsL_law_r47 ++ (wsL_law_r48 ++ (wsL_law_r49 ++ (wsL_law_r50 ++ (wsL_law_r51 ++ (wsL_law_r52 ++ (wsL_law_r53 ++ (wsL_law_r54 ++ (wsL_law_r55 ++ (wsL_law_r56 ++ (wsL_law_r57 ++ (wsL_law_r58 ++ (wsL_law_r59 ++ (wsL_law_r60 ++ (wsL_law_r61 ++ (wsL_law_r62 ++ (wsL_law_r63 ++ (wsL_law_r64 ++ (wsL_law_r65 ++ (wsL_law_r66 ++ (wsL_law_r67 ++ wsL_law_r68))))))))))))))))))))))), goodWord w = true := app2 ig_r45 ig_t46
theorem ig_t44 : ∀ w ∈ (wsL_law_r44 ++ (wsL_law_r45 ++ (wsL_law_r46 ++ (wsL_law_r47 ++ (wsL_law_r48 ++ (wsL_law_r49 ++ (wsL_law_r50 ++ (wsL_law_r51 ++ (wsL_law_r52 ++ (wsL_law_r53 ++ (wsL_law_r54 ++ (wsL_law_r55 ++ (wsL_law_r56 ++ (wsL_law_r57 ++ (wsL_law_r58 ++ (wsL_law_r59 ++ (wsL_law_r60 ++ (wsL_law_r61 ++ (wsL_law_r62 ++ (wsL_law_r63 ++ (wsL_law_r64 ++ (wsL_law_r65 ++ (wsL_law_r66 ++ (wsL_law_r67 ++ wsL_law_r68)))))))))))))))))))))))), goodWord w = true := app2 ig_r44 ig_t45
theorem ig_t43 : ∀ w ∈ (wsL_law_r43 ++ (wsL_law_r44 ++ (wsL_law_r45 ++ (wsL_law_r46 ++ (wsL_law_r47 ++ (wsL_law_r48 ++ (wsL_law_r49 ++ (wsL_law_r50 ++ (wsL_law_r51 ++ (wsL_law_r52 ++ (wsL_law_r53 ++ (wsL_law_r54 ++ (wsL_law_r55 ++ (wsL_law_r56 ++ (wsL_law_r57 ++ (wsL_law_r58 ++ (wsL_law_r59 ++ (wsL_law_r60 ++ (wsL_law_r61 ++ (wsL_law_r62 ++ (wsL_law_r63 ++ (wsL_law_r64 ++ (wsL_law_r65 ++ (wsL_law_r66 ++ (wsL_law_r67 ++ wsL_law_r68))))))))))))))))))))))))), goodWord w = true := app2 ig_r43 ig_t44
theorem ig_t42 : ∀ w ∈ (wsL_law_r42 ++ (wsL_law_r43 ++ (wsL_law_r44 ++ (wsL_law_r45 ++ (wsL_law_r46 ++ (wsL_law_r47 ++ (wsL_law_r48 ++ (wsL_law_r49 ++ (wsL_law_r50 ++ (wsL_law_r51 ++ (wsL_law_r52 ++ (wsL_law_r53 ++ (wsL_law_r54 ++ (wsL_law_r55 ++ (wsL_law_r56 ++ (wsL_law_r57 ++ (wsL_law_r58 ++ (wsL_law_r59 ++ (wsL_law_r60 ++ (wsL_law_r61 ++ (wsL_law_r62 ++ (wsL_law_r63 ++ (wsL_law_r64 ++ (wsL_law_r65 ++ (wsL_law_r66 ++ (wsL_law_r67 ++ wsL_law_r68)))))))))))))))))))))))))), goodWord w = true := app2 ig_r42 ig_t43
theorem ig_t41 : ∀ w ∈ (wsL_law_r41 ++ (wsL_law_r42 ++ (wsL_law_r43 ++ (wsL_law_r44 ++ (wsL_law_r45 ++ (wsL_law_r46 ++ (wsL_law_r47 ++ (wsL_law_r48 ++ (wsL_law_r49 ++ (wsL_law_r50 ++ (wsL_law_r51 ++ (wsL_law_r52 ++ (wsL_law_r53 ++ (wsL_law_r54 ++ (wsL_law_r55 ++ (wsL_law_r56 ++ (wsL_law_r57 ++ (wsL_law_r58 ++ (wsL_law_r59 ++ (wsL_law_r60 ++ (wsL_law_r61 ++ (wsL_law_r62 ++ (wsL_law_r63 ++ (wsL_law_r64 ++ (wsL_law_r65 ++ (wsL_law_r66 ++ (wsL_law_r67 ++ wsL_law_r68))))))))))))))))))))))))))), goodWord w = true := app2 ig_r41 ig_t42
theorem ig_t40 : ∀ w ∈ (wsL_law_r40 ++ (wsL_law_r41 ++ (wsL_law_r42 ++ (wsL_law_r43 ++ (wsL_law_r44 ++ (wsL_law_r45 ++ (wsL_law_r46 ++ (wsL_law_r47 ++ (wsL_law_r48 ++ (wsL_law_r49 ++ (wsL_law_r50 ++ (wsL_law_r51 ++ (wsL_law_r52 ++ (wsL_law_r53 ++ (wsL_law_r54 ++ (wsL_law_r55 ++ (wsL_law_r56 ++ (wsL_law_r57 ++ (wsL_law_r58 ++ (wsL_law_r59 ++ (wsL_law_r60 ++ (wsL_law_r61 ++ (wsL_law_r62 ++ (wsL_law_r63 ++ (wsL_law_r64 ++ (wsL_law_r65 ++ (wsL_law_r66 ++ (wsL_law_r67 ++ wsL_law_r68)))))))))))))))))))))))))))), goodWord w = true := app2 ig_r40 ig_t41
theorem ig_t39 : ∀ w ∈ (wsL_law_r39 ++ (wsL_law_r40 ++ (wsL_law_r41 ++ (wsL_law_r42 ++ (wsL_law_r43 ++ (wsL_law_r44 ++ (wsL_law_r45 ++ (wsL_law_r46 ++ (wsL_law_r47 ++ (wsL_law_r48 ++ (wsL_law_r49 ++ (wsL_law_r50 ++ (wsL_law_r51 ++ (wsL_law_r52 ++ (wsL_law_r53 ++ (wsL_law_r54 ++ (wsL_law_r55 ++ (wsL_law_r56 ++ (wsL_law_r57 ++ (wsL_law_r58 ++ (wsL_law_r59 ++ (wsL_law_r60 ++ (wsL_law_r61 ++ (wsL_law_r62 ++ (wsL_law_r63 ++ (wsL_law_r64 ++ (wsL_law_r65 ++ (wsL_law_r66 ++ (wsL_law_r67 ++ wsL_law_r68))))))))))))))))))))))))))))), goodWord w = true := app2 ig_r39 ig_t40
theorem ig_t38 : ∀ w ∈ (wsL_law_r38 ++ (wsL_law_r39 ++ (wsL_law_r40 ++ (wsL_law_r41 ++ (wsL_law_r42 ++ (wsL_law_r43 ++ (wsL_law_r44 ++ (wsL_law_r45 ++ (wsL_law_r46 ++ (wsL_law_r47 ++ (wsL_law_r48 ++ (wsL_law_r49 ++ (wsL_law_r50 ++ (wsL_law_r51 ++ (wsL_law_r52 ++ (wsL_law_r53 ++ (wsL_law_r54 ++ (wsL_law_r55 ++ (wsL_law_r56 ++ (wsL_law_r57 ++ (wsL_law_r58 ++ (wsL_law_r59 ++ (wsL_law_r60 ++ (wsL_law_r61 ++ (wsL_law_r62 ++ (wsL_law_r63 ++ (wsL_law_r64 ++ (wsL_law_r65 ++ (wsL_law_r66 ++ (wsL_law_r67 ++ wsL_law_r68)))))))))))))))))))))))))))))), goodWord w = true := app2 ig_r38 ig_t39
theorem ig_t37 : ∀ w ∈ (wsL_law_r37 ++ (wsL_law_r38 ++ (wsL_law_r39 ++ (wsL_law_r40 ++ (wsL_law_r41 ++ (wsL_law_r42 ++ (wsL_law_r43 ++ (wsL_law_r44 ++ (wsL_law_r45 ++ (wsL_law_r46 ++ (wsL_law_r47 ++ (wsL_law_r48 ++ (wsL_law_r49 ++ (wsL_law_r50 ++ (wsL_law_r51 ++ (wsL_law_r52 ++ (wsL_law_r53 ++ (wsL_law_r54 ++ (wsL_law_r55 ++ (wsL_law_r56 ++ (wsL_law_r57 ++ (wsL_law_r58 ++ (wsL_law_r59 ++ (wsL_law_r60 ++ (wsL_law_r61 ++ (wsL_law_r62 ++ (wsL_law_r63 ++ (wsL_law_r64 ++ (wsL_law_r65 ++ (wsL_law_r66 ++ (wsL_law_r67 ++ wsL_law_r68))))))))))))))))))))))))))))))), goodWord w = true := app2 ig_r37 ig_t38
theorem ig_t36 : ∀ w ∈ (wsL_law_r36 ++ (wsL_law_r37 ++ (wsL_law_r38 ++ (wsL_law_r39 ++ (wsL_law_r40 ++ (wsL_law_r41 ++ (wsL_law_r42 ++ (wsL_law_r43 ++ (wsL_law_r44 ++ (wsL_law_r45 ++ (wsL_law_r46 ++ (wsL_law_r47 ++ (wsL_law_r48 ++ (wsL_law_r49 ++ (wsL_law_r50 ++ (wsL_law_r51 ++ (wsL_law_r52 ++ (wsL_law_r53 ++ (wsL_law_r54 ++ (wsL_law_r55 ++ (wsL_law_r56 ++ (wsL_law_r57 ++ (wsL_law_r58 ++ (wsL_law_r59 ++ (wsL_law_r60 ++ (wsL_law_r61 ++ (wsL_law_r62 ++ (wsL_law_r63 ++ (wsL_law_r64 ++ (wsL_law_r65 ++ (wsL_law_r66 ++ (wsL_law_r67 ++ wsL_law_r68)))))))))))))))))))))))))))))))), goodWord w = true := app2 ig_r36 ig_t37
theorem ig_t35 : ∀ w ∈ (wsL_law_r35 ++ (wsL_law_r36 ++ (wsL_law_r37 ++ (wsL_law_r38 ++ (wsL_law_r39 ++ (wsL_law_r40 ++ (wsL_law_r41 ++ (wsL_law_r42 ++ (wsL_law_r43 ++ (wsL_law_r44 ++ (wsL_law_r45 ++ (wsL_law_r46 ++ (wsL_law_r47 ++ (wsL_law_r48 ++ (wsL_law_r49 ++ (wsL_law_r50 ++ (wsL_law_r51 ++ (wsL_law_r52 ++ (wsL_law_r53 ++ (wsL_law_r54 ++ (wsL_law_r55 ++ (wsL_law_r56 ++ (wsL_law_r57 ++ (wsL_law_r58 ++ (wsL_law_r59 ++ (wsL_law_r60 ++ (wsL_law_r61 ++ (wsL_law_r62 ++ (wsL_law_r63 ++ (wsL_law_r64 ++ (wsL_law_r65 ++ (wsL_law_r66 ++ (wsL_law_r67 ++ wsL_law_r68))))))))))))))))))))))))))))))))), goodWord w = true := app2 ig_r35 ig_t36
theorem ig_t34 : ∀ w ∈ (wsL_law_r34 ++ (wsL_law_r35 ++ (wsL_law_r36 ++ (wsL_law_r37 ++ (wsL_law_r38 ++ (wsL_law_r39 ++ (wsL_law_r40 ++ (wsL_law_r41 ++ (wsL_law_r42 ++ (wsL_law_r43 ++ (wsL_law_r44 ++ (wsL_law_r45 ++ (wsL_law_r46 ++ (wsL_law_r47 ++ (wsL_law_r48 ++ (wsL_law_r49 ++ (wsL_law_r50 ++ (wsL_law_r51 ++ (wsL_law_r52 ++ (wsL_law_r53 ++ (wsL_law_r54 ++ (wsL_law_r55 ++ (wsL_law_r56 ++ (wsL_law_r57 ++ (wsL_law_r58 ++ (wsL_law_r59 ++ (wsL_law_r60 ++ (wsL_law_r61 ++ (wsL_law_r62 ++ (wsL_law_r63 ++ (wsL_law_r64 ++ (wsL_law_r65 ++ (wsL_law_r66 ++ (wsL_law_r67 ++ wsL_law_r68)))))))))))))))))))))))))))))))))), goodWord w = true := app2 ig_r34 ig_t35
theorem ig_t33 : ∀ w ∈ (wsL_law_r33 ++ (wsL_law_r34 ++ (wsL_law_r35 ++ (wsL_law_r36 ++ (wsL_law_r37 ++ (wsL_law_r38 ++ (wsL_law_r39 ++ (wsL_law_r40 ++ (wsL_law_r41 ++ (wsL_law_r42 ++ (wsL_law_r43 ++ (wsL_law_r44 ++ (wsL_law_r45 ++ (wsL_law_r46 ++ (wsL_law_r47 ++ (wsL_law_r48 ++ (wsL_law_r49 ++ (wsL_law_r50 ++ (wsL_law_r51 ++ (wsL_law_r52 ++ (wsL_law_r53 ++ (wsL_law_r54 ++ (wsL_law_r55 ++ (wsL_law_r56 ++ (wsL_law_r57 ++ (wsL_law_r58 ++ (wsL_law_r59 ++ (wsL_law_r60 ++ (wsL_law_r61 ++ (wsL_law_r62 ++ (wsL_law_r63 ++ (wsL_law_r64 ++ (wsL_law_r65 ++ (wsL_law_r66 ++ (wsL_law_r67 ++ wsL_law_r68))))))))))))))))))))))))))))))))))), goodWord w = true := app2 ig_r33 ig_t34
theorem ig_t32 : ∀ w ∈ (wsL_law_r32 ++ (wsL_law_r33 ++ (wsL_law_r34 ++ (wsL_law_r35 ++ (wsL_law_r36 ++ (wsL_law_r37 ++ (wsL_law_r38 ++ (wsL_law_r39 ++ (wsL_law_r40 ++ (wsL_law_r41 ++ (wsL_law_r42 ++ (wsL_law_r43 ++ (wsL_law_r44 ++ (wsL_law_r45 ++ (wsL_law_r46 ++ (wsL_law_r47 ++ (wsL_law_r48 ++ (wsL_law_r49 ++ (wsL_law_r50 ++ (wsL_law_r51 ++ (wsL_law_r52 ++ (wsL_law_r53 ++ (wsL_law_r54 ++ (wsL_law_r55 ++ (wsL_law_r56 ++ (wsL_law_r57 ++ (wsL_law_r58 ++ (wsL_law_r59 ++ (wsL_law_r60 ++ (wsL_law_r61 ++ (wsL_law_r62 ++ (wsL_law_r63 ++ (wsL_law_r64 ++ (wsL_law_r65 ++ (wsL_law_r66 ++ (wsL_law_r67 ++ wsL_law_r68)))))))))))))))))))))))))))))))))))), goodWord w = true := app2 ig_r32 ig_t33
theorem ig_t31 : ∀ w ∈ (wsL_law_r31 ++ (wsL_law_r32 ++ (wsL_law_r33 ++ (wsL_law_r34 ++ (wsL_law_r35 ++ (wsL_law_r36 ++ (wsL_law_r37 ++ (wsL_law_r38 ++ (wsL_law_r39 ++ (wsL_law_r40 ++ (wsL_law_r41 ++ (wsL_law_r42 ++ (wsL_law_r43 ++ (wsL_law_r44 ++ (wsL_law_r45 ++ (wsL_law_r46 ++ (wsL_law_r47 ++ (wsL_law_r48 ++ (wsL_law_r49 ++ (wsL_law_r50 ++ (wsL_law_r51 ++ (wsL_law_r52 ++ (wsL_law_r53 ++ (wsL_law_r54 ++ (wsL_law_r55 ++ (wsL_law_r56 ++ (wsL_law_r57 ++ (wsL_law_r58 ++ (wsL_law_r59 ++ (wsL_law_r60 ++ (wsL_law_r61 ++ (wsL_law_r62 ++ (wsL_law_r63 ++ (wsL_law_r64 ++ (wsL_law_r65 ++ (wsL_law_r66 ++ (wsL_law_r67 ++ wsL_law_r68))))))))))))))))))))))))))))))))))))), goodWord w = true := app2 ig_r31 ig_t32
theorem ig_t30 : ∀ w ∈ (wsL_law_r30 ++ (wsL_law_r31 ++ (wsL_law_r32 ++ (wsL_law_r33 ++ (wsL_law_r34 ++ (wsL_law_r35 ++ (wsL_law_r36 ++ (wsL_law_r37 ++ (wsL_law_r38 ++ (wsL_law_r39 ++ (wsL_law_r40 ++ (wsL_law_r41 ++ (wsL_law_r42 ++ (wsL_law_r43 ++ (wsL_law_r44 ++ (wsL_law_r45 ++ (wsL_law_r46 ++ (wsL_law_r47 ++ (wsL_law_r48 ++ (wsL_law_r49 ++ (wsL_law_r50 ++ (wsL_law_r51 ++ (wsL_law_r52 ++ (wsL_law_r53 ++ (wsL_law_r54 ++ (wsL_law_r55 ++ (wsL_law_r56 ++ (wsL_law_r57 ++ (wsL_law_r58 ++ (wsL_law_r59 ++ (wsL_law_r60 ++ (wsL_law_r61 ++ (wsL_law_r62 ++ (wsL_law_r63 ++ (wsL_law_r64 ++ (wsL_law_r65 ++ (wsL_law_r66 ++ (wsL_law_r67 ++ wsL_law_r68)))))))))))))))))))))))))))))))))))))), goodWord w = true := app2 ig_r30 ig_t31
theorem ig_t29 : ∀ w ∈ (wsL_law_r29 ++ (wsL_law_r30 ++ (wsL_law_r31 ++ (wsL_law_r32 ++ (wsL_law_r33 ++ (wsL_law_r34 ++ (wsL_law_r35 ++ (wsL_law_r36 ++ (wsL_law_r37 ++ (wsL_law_r38 ++ (wsL_law_r39 ++ (wsL_law_r40 ++ (wsL_law_r41 ++ (wsL_law_r42 ++ (wsL_law_r43 ++ (wsL_law_r44 ++ (wsL_law_r45 ++ (wsL_law_r46 ++ (wsL_law_r47 ++ (wsL_law_r48 ++ (wsL_law_r49 ++ (wsL_law_r50 ++ (wsL_law_r51 ++ (wsL_law_r52 ++ (wsL_law_r53 ++ (wsL_law_r54 ++ (wsL_law_r55 ++ (wsL_law_r56 ++ (wsL_law_r57 ++ (wsL_law_r58 ++ (wsL_law_r59 ++ (wsL_law_r60 ++ (wsL_law_r61 ++ (wsL_law_r62 ++ (wsL_law_r63 ++ (wsL_law_r64 ++ (wsL_law_r65 ++ (wsL_law_r66 ++ (wsL_law_r67 ++ wsL_law_r68))))))))))))))))))))))))))))))))))))))), goodWord w = true := app2 ig_r29 ig_t30
theorem ig_t28 : ∀ w ∈ (wsL_law_r28 ++ (wsL_law_r29 ++ (wsL_law_r30 ++ (wsL_law_r31 ++ (wsL_law_r32 ++ (wsL_law_r33 ++ (wsL_law_r34 ++ (wsL_law_r35 ++ (wsL_law_r36 ++ (wsL_law_r37 ++ (wsL_law_r38 ++ (wsL_law_r39 ++ (wsL_law_r40 ++ (wsL_law_r41 ++ (wsL_law_r42 ++ (wsL_law_r43 ++ (wsL_law_r44 ++ (wsL_law_r45 ++ (wsL_law_r46 ++ (wsL_law_r47 ++ (wsL_law_r48 ++ (wsL_law_r49 ++ (wsL_law_r50 ++ (wsL_law_r51 ++ (wsL_law_r52 ++ (wsL_law_r53 ++ (wsL_law_r54 ++ (wsL_law_r55 ++ (wsL_law_r56 ++ (wsL_law_r57 ++ (wsL_law_r58 ++ (wsL_law_r59 ++ (wsL_law_r60 ++ (wsL_law_r61 ++ (wsL_law_r62 ++ (wsL_law_r63 ++ (wsL_law_r64 ++ (wsL_law_r65 ++ (wsL_law_r66 ++ (wsL_law_r67 ++ wsL_law_r68)))))))))))))))))))))))))))))))))))))))), goodWord w = true := app2 ig_r28 ig_t29
theorem ig_t27 : ∀ w ∈ (wsL_law_r27 ++ (wsL_law_r28 ++ (wsL_law_r29 ++ (wsL_law_r30 ++ (wsL_law_r31 ++ (wsL_law_r32 ++ (wsL_law_r33 ++ (wsL_law_r34 ++ (wsL_law_r35 ++ (wsL_law_r36 ++ (wsL_law_r37 ++ (wsL_law_r38 ++ (wsL_law_r39 ++ (wsL_law_r40 ++ (wsL_law_r41 ++ (wsL_law_r42 ++ (wsL_law_r43 ++ (wsL_law_r44 ++ (wsL_law_r45 ++ (wsL_law_r46 ++ (wsL_law_r47 ++ (wsL_law_r48 ++ (wsL_law_r49 ++ (wsL_law_r50 ++ (wsL_law_r51 ++ (wsL_law_r52 ++ (wsL_law_r53 ++ (wsL_law_r54 ++ (wsL_law_r55 ++ (wsL_law_r56 ++ (wsL_law_r57 ++ (wsL_law_r58 ++ (wsL_law_r59 ++ (wsL_law_r60 ++ (wsL_law_r61 ++ (wsL_law_r62 ++ (wsL_law_r63 ++ (wsL_law_r64 ++ (wsL_law_r65 ++ (wsL_law_r66 ++ (wsL_law_r67 ++ wsL_law_r68))))))))))))))))))))))))))))))))))))))))), goodWord w = true := app2 ig_r27 ig_t28
theorem ig_t26 : ∀ w ∈ (wsL_law_r26 ++ (wsL_law_r27 ++ (wsL_law_r28 ++ (wsL_law_r29 ++ (wsL_law_r30 ++ (wsL_law_r31 ++ (wsL_law_r32 ++ (wsL_law_r33 ++ (wsL_law_r34 ++ (wsL_law_r35 ++ (wsL_law_r36 ++ (wsL_law_r37 ++ (wsL_law_r38 ++ (wsL_law_r39 ++ (wsL_law_r40 ++ (wsL_law_r41 ++ (wsL_law_r42 ++ (wsL_law_r43 ++ (wsL_law_r44 ++ (wsL_law_r45 ++ (wsL_law_r46 ++ (wsL_law_r47 ++ (wsL_law_r48 ++ (wsL_law_r49 ++ (wsL_law_r50 ++ (wsL_law_r51 ++ (wsL_law_r52 ++ (wsL_law_r53 ++ (wsL_law_r54 ++ (wsL_law_r55 ++ (wsL_law_r56 ++ (wsL_law_r57 ++ (wsL_law_r58 ++ (wsL_law_r59 ++ (wsL_law_r60 ++ (wsL_law_r61 ++ (wsL_law_r62 ++ (wsL_law_r63 ++ (wsL_law_r64 ++ (wsL_law_r65 ++ (wsL_law_r66 ++ (wsL_law_r67 ++ wsL_law_r68)))))))))))))))))))))))))))))))))))))))))), goodWord w = true := app2 ig_r26 ig_t27
theorem ig_t25 : ∀ w ∈ (wsL_law_r25 ++ (wsL_law_r26 ++ (wsL_law_r27 ++ (wsL_law_r28 ++ (wsL_law_r29 ++ (wsL_law_r30 ++ (wsL_law_r31 ++ (wsL_law_r32 ++ (wsL_law_r33 ++ (wsL_law_r34 ++ (wsL_law_r35 ++ (wsL_law_r36 ++ (wsL_law_r37 ++ (wsL_law_r38 ++ (wsL_law_r39 ++ (wsL_law_r40 ++ (wsL_law_r41 ++ (wsL_law_r42 ++ (wsL_law_r43 ++ (wsL_law_r44 ++ (wsL_law_r45 ++ (wsL_law_r46 ++ (wsL_law_r47 ++ (wsL_law_r48 ++ (wsL_law_r49 ++ (wsL_law_r50 ++ (wsL_law_r51 ++ (wsL_law_r52 ++ (wsL_law_r53 ++ (wsL_law_r54 ++ (wsL_law_r55 ++ (wsL_law_r56 ++ (wsL_law_r57 ++ (wsL_law_r58 ++ (wsL_law_r59 ++ (wsL_law_r60 ++ (wsL_law_r61 ++ (wsL_law_r62 ++ (wsL_law_r63 ++ (wsL_law_r64 ++ (wsL_law_r65 ++ (wsL_law_r66 ++ (wsL_law_r67 ++ wsL_law_r68))))))))))))))))))))))))))))))))))))))))))), goodWord w = true := app2 ig_r25 ig_t26
theorem ig_t24 : ∀ w ∈ (wsL_law_r24 ++ (wsL_law_r25 ++ (wsL_law_r26 ++ (wsL_law_r27 ++ (wsL_law_r28 ++ (wsL_law_r29 ++ (wsL_law_r30 ++ (wsL_law_r31 ++ (wsL_law_r32 ++ (wsL_law_r33 ++ (wsL_law_r34 ++ (wsL_law_r35 ++ (wsL_law_r36 ++ (wsL_law_r37 ++ (wsL_law_r38 ++ (wsL_law_r39 ++ (wsL_law_r40 ++ (wsL_law_r41 ++ (wsL_law_r42 ++ (wsL_law_r43 ++ (wsL_law_r44 ++ (wsL_law_r45 ++ (wsL_law_r46 ++ (wsL_law_r47 ++ (wsL_law_r48 ++ (wsL_law_r49 ++ (wsL_law_r50 ++ (wsL_law_r51 ++ (wsL_law_r52 ++ (wsL_law_r53 ++ (wsL_law_r54 ++ (wsL_law_r55 ++ (wsL_law_r56 ++ (wsL_law_r57 ++ (wsL_law_r58 ++ (wsL_law_r59 ++ (wsL_law_r60 ++ (wsL_law_r61 ++ (wsL_law_r62 ++ (wsL_law_r63 ++ (wsL_law_r64 ++ (wsL_law_r65 ++ (wsL_law_r66 ++ (wsL_law_r67 ++ wsL_law_r68)))))))))))))))))))))))))))))))))))))))))))), goodWord w = true := app2 ig_r24 ig_t25
theorem ig_t23 : ∀ w ∈ (wsL_law_r23 ++ (wsL_law_r24 ++ (wsL_law_r25 ++ (wsL_law_r26 ++ (wsL_law_r27 ++ (wsL_law_r28 ++ (wsL_law_r29 ++ (wsL_law_r30 ++ (wsL_law_r31 ++ (wsL_law_r32 ++ (wsL_law_r33 ++ (wsL_law_r34 ++ (wsL_law_r35 ++ (wsL_law_r36 ++ (wsL_law_r37 ++ (wsL_law_r38 ++ (wsL_law_r39 ++ (wsL_law_r40 ++ (wsL_law_r41 ++ (wsL_law_r42 ++ (wsL_law_r43 ++ (wsL_law_r44 ++ (wsL_law_r45 ++ (wsL_law_r46 ++ (wsL_law_r47 ++ (wsL_law_r48 ++ (wsL_law_r49 ++ (wsL_law_r50 ++ (wsL_law_r51 ++ (wsL_law_r52 ++ (wsL_law_r53 ++ (wsL_law_r54 ++ (wsL_law_r55 ++ (wsL_law_r56 ++ (wsL_law_r57 ++ (wsL_law_r58 ++ (wsL_law_r59 ++ (wsL_law_r60 ++ (wsL_law_r61 ++ (wsL_law_r62 ++ (wsL_law_r63 ++ (wsL_law_r64 ++ (wsL_law_r65 ++ (wsL_law_r66 ++ (wsL_law_r67 ++ wsL_law_r68))))))))))))))))))))))))))))))))))))))))))))), goodWord w = true := app2 ig_r23 ig_t24
theorem ig_t22 : ∀ w ∈ (wsL_law_r22 ++ (wsL_law_r23 ++ (wsL_law_r24 ++ (wsL_law_r25 ++ (wsL_law_r26 ++ (wsL_law_r27 ++ (wsL_law_r28 ++ (wsL_law_r29 ++ (wsL_law_r30 ++ (wsL_law_r31 ++ (wsL_law_r32 ++ (wsL_law_r33 ++ (wsL_law_r34 ++ (wsL_law_r35 ++ (wsL_law_r36 ++ (wsL_law_r37 ++ (wsL_law_r38 ++ (wsL_law_r39 ++ (wsL_law_r40 ++ (wsL_law_r41 ++ (wsL_law_r42 ++ (wsL_law_r43 ++ (wsL_law_r44 ++ (wsL_law_r45 ++ (wsL_law_r46 ++ (wsL_law_r47 ++ (wsL_law_r48 ++ (wsL_law_r49 ++ (wsL_law_r50 ++ (wsL_law_r51 ++ (wsL_law_r52 ++ (wsL_law_r53 ++ (wsL_law_r54 ++ (wsL_law_r55 ++ (wsL_law_r56 ++ (wsL_law_r57 ++ (wsL_law_r58 ++ (wsL_law_r59 ++ (wsL_law_r60 ++ (wsL_law_r61 ++ (wsL_law_r62 ++ (wsL_law_r63 ++ (wsL_law_r64 ++ (wsL_law_r65 ++ (wsL_law_r66 ++ (wsL_law_r67 ++ wsL_law_r68)))))))))))))))))))))))))))))))))))))))))))))), goodWord w = true := app2 ig_r22 ig_t23
theorem ig_t21 : ∀ w ∈ (wsL_law_r21 ++ (wsL_law_r22 ++ (wsL_law_r23 ++ (wsL_law_r24 ++ (wsL_law_r25 ++ (wsL_law_r26 ++ (wsL_law_r27 ++ (wsL_law_r28 ++ (wsL_law_r29 ++ (wsL_law_r30 ++ (wsL_law_r31 ++ (wsL_law_r32 ++ (wsL_law_r33 ++ (wsL_law_r34 ++ (wsL_law_r35 ++ (wsL_law_r36 ++ (wsL_law_r37 ++ (wsL_law_r38 ++ (wsL_law_r39 ++ (wsL_law_r40 ++ (wsL_law_r41 ++ (wsL_law_r42 ++ (wsL_law_r43 ++ (wsL_law_r44 ++ (wsL_law_r45 ++ (wsL_law_r46 ++ (wsL_law_r47 ++ (wsL_law_r48 ++ (wsL_law_r49 ++ (wsL_law_r50 ++ (wsL_law_r51 ++ (wsL_law_r52 ++ (wsL_law_r53 ++ (wsL_law_r54 ++ (wsL_law_r55 ++ (wsL_law_r56 ++ (wsL_law_r57 ++ (wsL_law_r58 ++ (wsL_law_r59 ++ (wsL_law_r60 ++ (wsL_law_r61 ++ (wsL_law_r62 ++ (wsL_law_r63 ++ (wsL_law_r64 ++ (wsL_law_r65 ++ (wsL_law_r66 ++ (wsL_law_r67 ++ wsL_law_r68))))))))))))))))))))))))))))))))))))))))))))))), goodWord w = true := app2 ig_r21 ig_t22
theorem ig_t20 : ∀ w ∈ (wsL_law_r20 ++ (wsL_law_r21 ++ (wsL_law_r22 ++ (wsL_law_r23 ++ (wsL_law_r24 ++ (wsL_law_r25 ++ (wsL_law_r26 ++ (wsL_law_r27 ++ (wsL_law_r28 ++ (wsL_law_r29 ++ (wsL_law_r30 ++ (wsL_law_r31 ++ (wsL_law_r32 ++ (wsL_law_r33 ++ (wsL_law_r34 ++ (wsL_law_r35 ++ (wsL_law_r36 ++ (wsL_law_r37 ++ (wsL_law_r38 ++ (wsL_law_r39 ++ (wsL_law_r40 ++ (wsL_law_r41 ++ (wsL_law_r42 ++ (wsL_law_r43 ++ (wsL_law_r44 ++ (wsL_law_r45 ++ (wsL_law_r46 ++ (wsL_law_r47 ++ (wsL_law_r48 ++ (wsL_law_r49 ++ (wsL_law_r50 ++ (wsL_law_r51 ++ (wsL_law_r52 ++ (wsL_law_r53 ++ (wsL_law_r54 ++ (wsL_law_r55 ++ (wsL_law_r56 ++ (wsL_law_r57 ++ (wsL_law_r58 ++ (wsL_law_r59 ++ (wsL_law_r60 ++ (wsL_law_r61 ++ (wsL_law_r62 ++ (wsL_law_r63 ++ (wsL_law_r64 ++ (wsL_law_r65 ++ (wsL_law_r66 ++ (wsL_law_r67 ++ wsL_law_r68)))))))))))))))))))))))))))))))))))))))))))))))), goodWord w = true := app2 ig_r20 ig_t21
theorem ig_t19 : ∀ w ∈ (wsL_law_r19 ++ (wsL_law_r20 ++ (wsL_law_r21 ++ (wsL_law_r22 ++ (wsL_law_r23 ++ (wsL_law_r24 ++ (wsL_law_r25 ++ (wsL_law_r26 ++ (wsL_law_r27 ++ (wsL_law_r28 ++ (wsL_law_r29 ++ (wsL_law_r30 ++ (wsL_law_r31 ++ (wsL_law_r32 ++ (wsL_law_r33 ++ (wsL_law_r34 ++ (wsL_law_r35 ++ (wsL_law_r36 ++ (wsL_law_r37 ++ (wsL_law_r38 ++ (wsL_law_r39 ++ (wsL_law_r40 ++ (wsL_law_r41 ++ (wsL_law_r42 ++ (wsL_law_r43 ++ (wsL_law_r44 ++ (wsL_law_r45 ++ (wsL_law_r46 ++ (wsL_law_r47 ++ (wsL_law_r48 ++ (wsL_law_r49 ++ (wsL_law_r50 ++ (wsL_law_r51 ++ (wsL_law_r52 ++ (wsL_law_r53 ++ (wsL_law_r54 ++ (wsL_law_r55 ++ (wsL_law_r56 ++ (wsL_law_r57 ++ (wsL_law_r58 ++ (wsL_law_r59 ++ (wsL_law_r60 ++ (wsL_law_r61 ++ (wsL_law_r62 ++ (wsL_law_r63 ++ (wsL_law_r64 ++ (wsL_law_r65 ++ (wsL_law_r66 ++ (wsL_law_r67 ++ wsL_law_r68))))))))))))))))))))))))))))))))))))))))))))))))), goodWord w = true := app2 ig_r19 ig_t20
theorem ig_t18 : ∀ w ∈ (wsL_law_r18 ++ (wsL_law_r19 ++ (wsL_law_r20 ++ (wsL_law_r21 ++ (wsL_law_r22 ++ (wsL_law_r23 ++ (wsL_law_r24 ++ (wsL_law_r25 ++ (wsL_law_r26 ++ (wsL_law_r27 ++ (wsL_law_r28 ++ (wsL_law_r29 ++ (wsL_law_r30 ++ (wsL_law_r31 ++ (wsL_law_r32 ++ (wsL_law_r33 ++ (wsL_law_r34 ++ (wsL_law_r35 ++ (wsL_law_r36 ++ (wsL_law_r37 ++ (wsL_law_r38 ++ (wsL_law_r39 ++ (wsL_law_r40 ++ (wsL_law_r41 ++ (wsL_law_r42 ++ (wsL_law_r43 ++ (wsL_law_r44 ++ (wsL_law_r45 ++ (wsL_law_r46 ++ (wsL_law_r47 ++ (wsL_law_r48 ++ (wsL_law_r49 ++ (wsL_law_r50 ++ (wsL_law_r51 ++ (wsL_law_r52 ++ (wsL_law_r53 ++ (wsL_law_r54 ++ (wsL_law_r55 ++ (wsL_law_r56 ++ (wsL_law_r57 ++ (wsL_law_r58 ++ (wsL_law_r59 ++ (wsL_law_r60 ++ (wsL_law_r61 ++ (wsL_law_r62 ++ (wsL_law_r63 ++ (wsL_law_r64 ++ (wsL_law_r65 ++ (wsL_law_r66 ++ (wsL_law_r67 ++ wsL_law_r68)))))))))))))))))))))))))))))))))))))))))))))))))), goodWord w = true := app2 ig_r18 ig_t19
theorem ig_t17 : ∀ w ∈ (wsL_law_r17 ++ (wsL_law_r18 ++ (wsL_law_r19 ++ (wsL_law_r20 ++ (wsL_law_r21 ++ (wsL_law_r22 ++ (wsL_law_r23 ++ (wsL_law_r24 ++ (wsL_law_r25 ++ (wsL_law_r26 ++ (wsL_law_r27 ++ (wsL_law_r28 ++ (wsL_law_r29 ++ (wsL_law_r30 ++ (wsL_law_r31 ++ (wsL_law_r32 ++ (wsL_law_r33 ++ (wsL_law_r34 ++ (wsL_law_r35 ++ (wsL_law_r36 ++ (wsL_law_r37 ++ (wsL_law_r38 ++ (wsL_law_r39 ++ (wsL_law_r40 ++ (wsL_law_r41 ++ (wsL_law_r42 ++ (wsL_law_r43 ++ (wsL_law_r44 ++ (wsL_law_r45 ++ (wsL_law_r46 ++ (wsL_law_r47 ++ (wsL_law_r48 ++ (wsL_law_r49 ++ (wsL_law_r50 ++ (wsL_law_r51 ++ (wsL_law_r52 ++ (wsL_law_r53 ++ (wsL_law_r54 ++ (wsL_law_r55 ++ (wsL_law_r56 ++ (wsL_law_r57 ++ (wsL_law_r58 ++ (wsL_law_r59 ++ (wsL_law_r60 ++ (wsL_law_r61 ++ (wsL_law_r62 ++ (wsL_law_r63 ++ (wsL_law_r64 ++ (wsL_law_r65 ++ (wsL_law_r66 ++ (wsL_law_r67 ++ wsL_law_r68))))))))))))))))))))))))))))))))))))))))))))))))))), goodWord w = true := app2 ig_r17 ig_t18
theorem ig_t16 : ∀ w ∈ (wsL_law_r16 ++ (wsL_law_r17 ++ (wsL_law_r18 ++ (wsL_law_r19 ++ (wsL_law_r20 ++ (wsL_law_r21 ++ (wsL_law_r22 ++ (wsL_law_r23 ++ (wsL_law_r24 ++ (wsL_law_r25 ++ (wsL_law_r26 ++ (wsL_law_r27 ++ (wsL_law_r28 ++ (wsL_law_r29 ++ (wsL_law_r30 ++ (wsL_law_r31 ++ (wsL_law_r32 ++ (wsL_law_r33 ++ (wsL_law_r34 ++ (wsL_law_r35 ++ (wsL_law_r36 ++ (wsL_law_r37 ++ (wsL_law_r38 ++ (wsL_law_r39 ++ (wsL_law_r40 ++ (wsL_law_r41 ++ (wsL_law_r42 ++ (wsL_law_r43 ++ (wsL_law_r44 ++ (wsL_law_r45 ++ (wsL_law_r46 ++ (wsL_law_r47 ++ (wsL_law_r48 ++ (wsL_law_r49 ++ (wsL_law_r50 ++ (wsL_law_r51 ++ (wsL_law_r52 ++ (wsL_law_r53 ++ (wsL_law_r54 ++ (wsL_law_r55 ++ (wsL_law_r56 ++ (wsL_law_r57 ++ (wsL_law_r58 ++ (wsL_law_r59 ++ (wsL_law_r60 ++ (wsL_law_r61 ++ (wsL_law_r62 ++ (wsL_law_r63 ++ (wsL_law_r64 ++ (wsL_law_r65 ++ (wsL_law_r66 ++ (wsL_law_r67 ++ wsL_law_r68)))))))))))))))))))))))))))))))))))))))))))))))))))), goodWord w = true := app2 ig_r16 ig_t17
theorem ig_t15 : ∀ w ∈ (wsL_law_r15 ++ (wsL_law_r16 ++ (wsL_law_r17 ++ (wsL_law_r18 ++ (wsL_law_r19 ++ (wsL_law_r20 ++ (wsL_law_r21 ++ (wsL_law_r22 ++ (wsL_law_r23 ++ (wsL_law_r24 ++ (wsL_law_r25 ++ (wsL_law_r26 ++ (wsL_law_r27 ++ (wsL_law_r28 ++ (wsL_law_r29 ++ (wsL_law_r30 ++ (wsL_law_r31 ++ (wsL_law_r32 ++ (wsL_law_r33 ++ (wsL_law_r34 ++ (wsL_law_r35 ++ (wsL_law_r36 ++ (wsL_law_r37 ++ (wsL_law_r38 ++ (wsL_law_r39 ++ (wsL_law_r40 ++ (wsL_law_r41 ++ (wsL_law_r42 ++ (wsL_law_r43 ++ (wsL_law_r44 ++ (wsL_law_r45 ++ (wsL_law_r46 ++ (wsL_law_r47 ++ (wsL_law_r48 ++ (wsL_law_r49 ++ (wsL_law_r50 ++ (wsL_law_r51 ++ (wsL_law_r52 ++ (wsL_law_r53 ++ (wsL_law_r54 ++ (wsL_law_r55 ++ (wsL_law_r56 ++ (wsL_law_r57 ++ (wsL_law_r58 ++ (wsL_law_r59 ++ (wsL_law_r60 ++ (wsL_law_r61 ++ (wsL_law_r62 ++ (wsL_law_r63 ++ (wsL_law_r64 ++ (wsL_law_r65 ++ (wsL_law_r66 ++ (wsL_law_r67 ++ wsL_law_r68))))))))))))))))))))))))))))))))))))))))))))))))))))), goodWord w = true := app2 ig_r15 ig_t16
theorem ig_t14 : ∀ w ∈ (wsL_law_r14 ++ (wsL_law_r15 ++ (wsL_law_r16 ++ (wsL_law_r17 ++ (wsL_law_r18 ++ (wsL_law_r19 ++ (wsL_law_r20 ++ (wsL_law_r21 ++ (wsL_law_r22 ++ (wsL_law_r23 ++ (wsL_law_r24 ++ (wsL_law_r25 ++ (wsL_law_r26 ++ (wsL_law_r27 ++ (wsL_law_r28 ++ (wsL_law_r29 ++ (wsL_law_r30 ++ (wsL_law_r31 ++ (wsL_law_r32 ++ (wsL_law_r33 ++ (wsL_law_r34 ++ (wsL_law_r35 ++ (wsL_law_r36 ++ (wsL_law_r37 ++ (wsL_law_r38 ++ (wsL_law_r39 ++ (wsL_law_r40 ++ (wsL_law_r41 ++ (wsL_law_r42 ++ (wsL_law_r43 ++ (wsL_law_r44 ++ (wsL_law_r45 ++ (wsL_law_r46 ++ (wsL_law_r47 ++ (wsL_law_r48 ++ (wsL_law_r49 ++ (wsL_law_r50 ++ (wsL_law_r51 ++ (wsL_law_r52 ++ (wsL_law_r53 ++ (wsL_law_r54 ++ (wsL_law_r55 ++ (wsL_law_r56 ++ (wsL_law_r57 ++ (wsL_law_r58 ++ (wsL_law_r59 ++ (wsL_law_r60 ++ (wsL_law_r61 ++ (wsL_law_r62 ++ (wsL_law_r63 ++ (wsL_law_r64 ++ (wsL_law_r65 ++ (wsL_law_r66 ++ (wsL_law_r67 ++ wsL_law_r68)))))))))))))))))))))))))))))))))))))))))))))))))))))), goodWord w = true := app2 ig_r14 ig_t15
theorem ig_t13 : ∀ w ∈ (wsL_law_r13 ++ (wsL_law_r14 ++ (wsL_law_r15 ++ (wsL_law_r16 ++ (wsL_law_r17 ++ (wsL_law_r18 ++ (wsL_law_r19 ++ (wsL_law_r20 ++ (wsL_law_r21 ++ (wsL_law_r22 ++ (wsL_law_r23 ++ (wsL_law_r24 ++ (wsL_law_r25 ++ (wsL_law_r26 ++ (wsL_law_r27 ++ (wsL_law_r28 ++ (wsL_law_r29 ++ (wsL_law_r30 ++ (wsL_law_r31 ++ (wsL_law_r32 ++ (wsL_law_r33 ++ (wsL_law_r34 ++ (wsL_law_r35 ++ (wsL_law_r36 ++ (wsL_law_r37 ++ (wsL_law_r38 ++ (wsL_law_r39 ++ (wsL_law_r40 ++ (wsL_law_r41 ++ (wsL_law_r42 ++ (wsL_law_r43 ++ (wsL_law_r44 ++ (wsL_law_r45 ++ (wsL_law_r46 ++ (wsL_law_r47 ++ (wsL_law_r48 ++ (wsL_law_r49 ++ (wsL_law_r50 ++ (wsL_law_r51 ++ (wsL_law_r52 ++ (wsL_law_r53 ++ (wsL_law_r54 ++ (wsL_law_r55 ++ (wsL_law_r56 ++ (wsL_law_r57 ++ (wsL_law_r58 ++ (wsL_law_r59 ++ (wsL_law_r60 ++ (wsL_law_r61 ++ (wsL_law_r62 ++ (wsL_law_r63 ++ (wsL_law_r64 ++ (wsL_law_r65 ++ (wsL_law_r66 ++ (wsL_law_r67 ++ wsL_law_r68))))))))))))))))))))))))))))))))))))))))))))))))))))))), goodWord w = true := app2 ig_r13 ig_t14
theorem ig_t12 : ∀ w ∈ (wsL_law_r12 ++ (wsL_law_r13 ++ (wsL_law_r14 ++ (wsL_law_r15 ++ (wsL_law_r16 ++ (wsL_law_r17 ++ (wsL_law_r18 ++ (wsL_law_r19 ++ (wsL_law_r20 ++ (wsL_law_r21 ++ (wsL_law_r22 ++ (wsL_law_r23 ++ (wsL_law_r24 ++ (wsL_law_r25 ++ (wsL_law_r26 ++ (wsL_law_r27 ++ (wsL_law_r28 ++ (wsL_law_r29 ++ (wsL_law_r30 ++ (wsL_law_r31 ++ (wsL_law_r32 ++ (wsL_law_r33 ++ (wsL_law_r34 ++ (wsL_law_r35 ++ (wsL_law_r36 ++ (wsL_law_r37 ++ (wsL_law_r38 ++ (wsL_law_r39 ++ (wsL_law_r40 ++ (wsL_law_r41 ++ (wsL_law_r42 ++ (wsL_law_r43 ++ (wsL_law_r44 ++ (wsL_law_r45 ++ (wsL_law_r46 ++ (wsL_law_r47 ++ (wsL_law_r48 ++ (wsL_law_r49 ++ (wsL_law_r50 ++ (wsL_law_r51 ++ (wsL_law_r52 ++ (wsL_law_r53 ++ (wsL_law_r54 ++ (wsL_law_r55 ++ (wsL_law_r56 ++ (wsL_law_r57 ++ (wsL_law_r58 ++ (wsL_law_r59 ++ (wsL_law_r60 ++ (wsL_law_r61 ++ (wsL_law_r62 ++ (wsL_law_r63 ++ (wsL_law_r64 ++ (wsL_law_r65 ++ (wsL_law_r66 ++ (wsL_law_r67 ++ wsL_law_r68)))))))))))))))))))))))))))))))))))))))))))))))))))))))), goodWord w = true := app2 ig_r12 ig_t13
theorem ig_t11 : ∀ w ∈ (wsL_law_r11 ++ (wsL_law_r12 ++ (wsL_law_r13 ++ (wsL_law_r14 ++ (wsL_law_r15 ++ (wsL_law_r16 ++ (wsL_law_r17 ++ (wsL_law_r18 ++ (wsL_law_r19 ++ (wsL_law_r20 ++ (wsL_law_r21 ++ (wsL_law_r22 ++ (wsL_law_r23 ++ (wsL_law_r24 ++ (wsL_law_r25 ++ (wsL_law_r26 ++ (wsL_law_r27 ++ (wsL_law_r28 ++ (wsL_law_r29 ++ (wsL_law_r30 ++ (wsL_law_r31 ++ (wsL_law_r32 ++ (wsL_law_r33 ++ (wsL_law_r34 ++ (wsL_law_r35 ++ (wsL_law_r36 ++ (wsL_law_r37 ++ (wsL_law_r38 ++ (wsL_law_r39 ++ (wsL_law_r40 ++ (wsL_law_r41 ++ (wsL_law_r42 ++ (wsL_law_r43 ++ (wsL_law_r44 ++ (wsL_law_r45 ++ (wsL_law_r46 ++ (wsL_law_r47 ++ (wsL_law_r48 ++ (wsL_law_r49 ++ (wsL_law_r50 ++ (wsL_law_r51 ++ (wsL_law_r52 ++ (wsL_law_r53 ++ (wsL_law_r54 ++ (wsL_law_r55 ++ (wsL_law_r56 ++ (wsL_law_r57 ++ (wsL_law_r58 ++ (wsL_law_r59 ++ (wsL_law_r60 ++ (wsL_law_r61 ++ (wsL_law_r62 ++ (wsL_law_r63 ++ (wsL_law_r64 ++ (wsL_law_r65 ++ (wsL_law_r66 ++ (wsL_law_r67 ++ wsL_law_r68))))))))))))))))))))))))))))))))))))))))))))))))))))))))), goodWord w = true := app2 ig_r11 ig_t12
theorem ig_t10 : ∀ w ∈ (wsL_law_r10 ++ (wsL_law_r11 ++ (wsL_law_r12 ++ (wsL_law_r13 ++ (wsL_law_r14 ++ (wsL_law_r15 ++ (wsL_law_r16 ++ (wsL_law_r17 ++ (wsL_law_r18 ++ (wsL_law_r19 ++ (wsL_law_r20 ++ (wsL_law_r21 ++ (wsL_law_r22 ++ (wsL_law_r23 ++ (wsL_law_r24 ++ (wsL_law_r25 ++ (wsL_law_r26 ++ (wsL_law_r27 ++ (wsL_law_r28 ++ (wsL_law_r29 ++ (wsL_law_r30 ++ (wsL_law_r31 ++ (wsL_law_r32 ++ (wsL_law_r33 ++ (wsL_law_r34 ++ (wsL_law_r35 ++ (wsL_law_r36 ++ (wsL_law_r37 ++ (wsL_law_r38 ++ (wsL_law_r39 ++ (wsL_law_r40 ++ (wsL_law_r41 ++ (wsL_law_r42 ++ (wsL_law_r43 ++ (wsL_law_r44 ++ (wsL_law_r45 ++ (wsL_law_r46 ++ (wsL_law_r47 ++ (wsL_law_r48 ++ (wsL_law_r49 ++ (wsL_law_r50 ++ (wsL_law_r51 ++ (wsL_law_r52 ++ (wsL_law_r53 ++ (wsL_law_r54 ++ (wsL_law_r55 ++ (wsL_law_r56 ++ (wsL_law_r57 ++ (wsL_law_r58 ++ (wsL_law_r59 ++ (wsL_law_r60 ++ (wsL_law_r61 ++ (wsL_law_r62 ++ (wsL_law_r63 ++ (wsL_law_r64 ++ (wsL_law_r65 ++ (wsL_law_r66 ++ (wsL_law_r67 ++ wsL_law_r68)))))))))))))))))))))))))))))))))))))))))))))))))))))))))), goodWord w = true := app2 ig_r10 ig_t11
theorem ig_t9 : ∀ w ∈ (wsL_law_r9 ++ (wsL_law_r10 ++ (wsL_law_r11 ++ (wsL_law_r12 ++ (wsL_law_r13 ++ (wsL_law_r14 ++ (wsL_law_r15 ++ (wsL_law_r16 ++ (wsL_law_r17 ++ (wsL_law_r18 ++ (wsL_law_r19 ++ (wsL_law_r20 ++ (wsL_law_r21 ++ (wsL_law_r22 ++ (wsL_law_r23 ++ (wsL_law_r24 ++ (wsL_law_r25 ++ (wsL_law_r26 ++ (wsL_law_r27 ++ (wsL_law_r28 ++ (wsL_law_r29 ++ (wsL_law_r30 ++ (wsL_law_r31 ++ (wsL_law_r32 ++ (wsL_law_r33 ++ (wsL_law_r34 ++ (wsL_law_r35 ++ (wsL_law_r36 ++ (wsL_law_r37 ++ (wsL_law_r38 ++ (wsL_law_r39 ++ (wsL_law_r40 ++ (wsL_law_r41 ++ (wsL_law_r42 ++ (wsL_law_r43 ++ (wsL_law_r44 ++ (wsL_law_r45 ++ (wsL_law_r46 ++ (wsL_law_r47 ++ (wsL_law_r48 ++ (wsL_law_r49 ++ (wsL_law_r50 ++ (wsL_law_r51 ++ (wsL_law_r52 ++ (wsL_law_r53 ++ (wsL_law_r54 ++ (wsL_law_r55 ++ (wsL_law_r56 ++ (wsL_law_r57 ++ (wsL_law_r58 ++ (wsL_law_r59 ++ (wsL_law_r60 ++ (wsL_law_r61 ++ (wsL_law_r62 ++ (wsL_law_r63 ++ (wsL_law_r64 ++ (wsL_law_r65 ++ (wsL_law_r66 ++ (wsL_law_r67 ++ wsL_law_r68))))))))))))))))))))))))))))))))))))))))))))))))))))))))))), goodWord w = true := app2 ig_r9 ig_t10
theorem ig_t8 : ∀ w ∈ (wsL_law_r8 ++ (wsL_law_r9 ++ (wsL_law_r10 ++ (wsL_law_r11 ++ (wsL_law_r12 ++ (wsL_law_r13 ++ (wsL_law_r14 ++ (wsL_law_r15 ++ (wsL_law_r16 ++ (wsL_law_r17 ++ (wsL_law_r18 ++ (wsL_law_r19 ++ (wsL_law_r20 ++ (wsL_law_r21 ++ (wsL_law_r22 ++ (wsL_law_r23 ++ (wsL_law_r24 ++ (wsL_law_r25 ++ (wsL_law_r26 ++ (wsL_law_r27 ++ (wsL_law_r28 ++ (wsL_law_r29 ++ (wsL_law_r30 ++ (wsL_law_r31 ++ (wsL_law_r32 ++ (wsL_law_r33 ++ (wsL_law_r34 ++ (wsL_law_r35 ++ (wsL_law_r36 ++ (wsL_law_r37 ++ (wsL_law_r38 ++ (wsL_law_r39 ++ (wsL_law_r40 ++ (wsL_law_r41 ++ (wsL_law_r42 ++ (wsL_law_r43 ++ (wsL_law_r44 ++ (wsL_law_r45 ++ (wsL_law_r46 ++ (wsL_law_r47 ++ (wsL_law_r48 ++ (wsL_law_r49 ++ (wsL_law_r50 ++ (wsL_law_r51 ++ (wsL_law_r52 ++ (wsL_law_r53 ++ (wsL_law_r54 ++ (wsL_law_r55 ++ (wsL_law_r56 ++ (wsL_law_r57 ++ (wsL_law_r58 ++ (wsL_law_r59 ++ (wsL_law_r60 ++ (wsL_law_r61 ++ (wsL_law_r62 ++ (wsL_law_r63 ++ (wsL_law_r64 ++ (wsL_law_r65 ++ (wsL_law_r66 ++ (wsL_law_r67 ++ wsL_law_r68)))))))))))))))))))))))))))))))))))))))))))))))))))))))))))), goodWord w = true := app2 ig_r8 ig_t9
theorem ig_t7 : ∀ w ∈ (wsL_law_r7 ++ (wsL_law_r8 ++ (wsL_law_r9 ++ (wsL_law_r10 ++ (wsL_law_r11 ++ (wsL_law_r12 ++ (wsL_law_r13 ++ (wsL_law_r14 ++ (wsL_law_r15 ++ (wsL_law_r16 ++ (wsL_law_r17 ++ (wsL_law_r18 ++ (wsL_law_r19 ++ (wsL_law_r20 ++ (wsL_law_r21 ++ (wsL_law_r22 ++ (wsL_law_r23 ++ (wsL_law_r24 ++ (wsL_law_r25 ++ (wsL_law_r26 ++ (wsL_law_r27 ++ (wsL_law_r28 ++ (wsL_law_r29 ++ (wsL_law_r30 ++ (wsL_law_r31 ++ (wsL_law_r32 ++ (wsL_law_r33 ++ (wsL_law_r34 ++ (wsL_law_r35 ++ (wsL_law_r36 ++ (wsL_law_r37 ++ (wsL_law_r38 ++ (wsL_law_r39 ++ (wsL_law_r40 ++ (wsL_law_r41 ++ (wsL_law_r42 ++ (wsL_law_r43 ++ (wsL_law_r44 ++ (wsL_law_r45 ++ (wsL_law_r46 ++ (wsL_law_r47 ++ (wsL_law_r48 ++ (wsL_law_r49 ++ (wsL_law_r50 ++ (wsL_law_r51 ++ (wsL_law_r52 ++ (wsL_law_r53 ++ (wsL_law_r54 ++ (wsL_law_r55 ++ (wsL_law_r56 ++ (wsL_law_r57 ++ (wsL_law_r58 ++ (wsL_law_r59 ++ (wsL_law_r60 ++ (wsL_law_r61 ++ (wsL_law_r62 ++ (wsL_law_r63 ++ (wsL_law_r64 ++ (wsL_law_r65 ++ (wsL_law_r66 ++ (wsL_law_r67 ++ wsL_law_r68))))))))))))))))))))))))))))))))))))))))))))))))))))))))))))), goodWord w = true := app2 ig_r7 ig_t8
theorem ig_t6 : ∀ w ∈ (wsL_law_r6 ++ (wsL_law_r7 ++ (wsL_law_r8 ++ (wsL_law_r9 ++ (wsL_law_r10 ++ (wsL_law_r11 ++ (wsL_law_r12 ++ (wsL_law_r13 ++ (wsL_law_r14 ++ (wsL_law_r15 ++ (wsL_law_r16 ++ (wsL_law_r17 ++ (wsL_law_r18 ++ (wsL_law_r19 ++ (wsL_law_r20 ++ (wsL_law_r21 ++ (wsL_law_r22 ++ (wsL_law_r23 ++ (wsL_law_r24 ++ (wsL_law_r25 ++ (wsL_law_r26 ++ (wsL_law_r27 ++ (wsL_law_r28 ++ (wsL_law_r29 ++ (wsL_law_r30 ++ (wsL_law_r31 ++ (wsL_law_r32 ++ (wsL_law_r33 ++ (wsL_law_r34 ++ (wsL_law_r35 ++ (wsL_law_r36 ++ (wsL_law_r37 ++ (wsL_law_r38 ++ (wsL_law_r39 ++ (wsL_law_r40 ++ (wsL_law_r41 ++ (wsL_law_r42 ++ (wsL_law_r43 ++ (wsL_law_r44 ++ (wsL_law_r45 ++ (wsL_law_r46 ++ (wsL_law_r47 ++ (wsL_law_r48 ++ (wsL_law_r49 ++ (wsL_law_r50 ++ (wsL_law_r51 ++ (wsL_law_r52 ++ (wsL_law_r53 ++ (wsL_law_r54 ++ (wsL_law_r55 ++ (wsL_law_r56 ++ (wsL_law_r57 ++ (wsL_law_r58 ++ (wsL_law_r59 ++ (wsL_law_r60 ++ (wsL_law_r61 ++ (wsL_law_r62 ++ (wsL_law_r63 ++ (wsL_law_r64 ++ (wsL_law_r65 ++ (wsL_law_r66 ++ (wsL_law_r67 ++ wsL_law_r68)))))))))))))))))))))))))))))))))))))))))))))))))))))))))))))), goodWord w = true := app2 ig_r6 ig_t7
theorem ig_t5 : ∀ w ∈ (wsL_law_r5 ++ (wsL_law_r6 ++ (wsL_law_r7 ++ (wsL_law_r8 ++ (wsL_law_r9 ++ (wsL_law_r10 ++ (wsL_law_r11 ++ (wsL_law_r12 ++ (wsL_law_r13 ++ (wsL_law_r14 ++ (wsL_law_r15 ++ (wsL_law_r16 ++ (wsL_law_r17 ++ (wsL_law_r18 ++ (wsL_law_r19 ++ (wsL_law_r20 ++ (wsL_law_r21 ++ (wsL_law_r22 ++ (wsL_law_r23 ++ (wsL_law_r24 ++ (wsL_law_r25 ++ (wsL_law_r26 ++ (wsL_law_r27 ++ (wsL_law_r28 ++ (wsL_law_r29 ++ (wsL_law_r30 ++ (wsL_law_r31 ++ (wsL_law_r32 ++ (wsL_law_r33 ++ (wsL_law_r34 ++ (wsL_law_r35 ++ (wsL_law_r36 ++ (wsL_law_r37 ++ (wsL_law_r38 ++ (wsL_law_r39 ++ (wsL_law_r40 ++ (wsL_law_r41 ++ (wsL_law_r42 ++ (wsL_law_r43 ++ (wsL_law_r44 ++ (wsL_law_r45 ++ (wsL_law_r46 ++ (wsL_law_r47 ++ (wsL_law_r48 ++ (wsL_law_r49 ++ (wsL_law_r50 ++ (wsL_law_r51 ++ (wsL_law_r52 ++ (wsL_law_r53 ++ (wsL_law_r54 ++ (wsL_law_r55 ++ (wsL_law_r56 ++ (wsL_law_r57 ++ (wsL_law_r58 ++ (wsL_law_r59 ++ (wsL_law_r60 ++ (wsL_law_r61 ++ (wsL_law_r62 ++ (wsL_law_r63 ++ (wsL_law_r64 ++ (wsL_law_r65 ++ (wsL_law_r66 ++ (wsL_law_r67 ++ wsL_law_r68))))))))))))))))))))))))))))))))))))))))))))))))))))))))))))))), goodWord w = true := app2 ig_r5 ig_t6
theorem ig_t4 : ∀ w ∈ (wsL_law_r4 ++ (wsL_law_r5 ++ (wsL_law_r6 ++ (wsL_law_r7 ++ (wsL_law_r8 ++ (wsL_law_r9 ++ (wsL_law_r10 ++ (wsL_law_r11 ++ (wsL_law_r12 ++ (wsL_law_r13 ++ (wsL_law_r14 ++ (wsL_law_r15 ++ (wsL_law_r16 ++ (wsL_law_r17 ++ (wsL_law_r18 ++ (wsL_law_r19 ++ (wsL_law_r20 ++ (wsL_law_r21 ++ (wsL_law_r22 ++ (wsL_law_r23 ++ (wsL_law_r24 ++ (wsL_law_r25 ++ (wsL_law_r26 ++ (wsL_law_r27 ++ (wsL_law_r28 ++ (wsL_law_r29 ++ (wsL_law_r30 ++ (wsL_law_r31 ++ (wsL_law_r32 ++ (wsL_law_r33 ++ (wsL_law_r34 ++ (wsL_law_r35 ++ (wsL_law_r36 ++ (wsL_law_r37 ++ (wsL_law_r38 ++ (wsL_law_r39 ++ (wsL_law_r40 ++ (wsL_law_r41 ++ (wsL_law_r42 ++ (wsL_law_r43 ++ (wsL_law_r44 ++ (wsL_law_r45 ++ (wsL_law_r46 ++ (wsL_law_r47 ++ (wsL_law_r48 ++ (wsL_law_r49 ++ (wsL_law_r50 ++ (wsL_law_r51 ++ (wsL_law_r52 ++ (wsL_law_r53 ++ (wsL_law_r54 ++ (wsL_law_r55 ++ (wsL_law_r56 ++ (wsL_law_r57 ++ (wsL_law_r58 ++ (wsL_law_r59 ++ (wsL_law_r60 ++ (wsL_law_r61 ++ (wsL_law_r62 ++ (wsL_law_r63 ++ (wsL_law_r64 ++ (wsL_law_r65 ++ (wsL_law_r66 ++ (wsL_law_r67 ++ wsL_law_r68)))))))))))))))))))))))))))))))))))))))))))))))))))))))))))))))), goodWord w = true := app2 ig_r4 ig_t5
theorem ig_t3 : ∀ w ∈ (wsL_law_r3 ++ (wsL_law_r4 ++ (wsL_law_r5 ++ (wsL_law_r6 ++ (wsL_law_r7 ++ (wsL_law_r8 ++ (wsL_law_r9 ++ (wsL_law_r10 ++ (wsL_law_r11 ++ (wsL_law_r12 ++ (wsL_law_r13 ++ (wsL_law_r14 ++ (wsL_law_r15 ++ (wsL_law_r16 ++ (wsL_law_r17 ++ (wsL_law_r18 ++ (wsL_law_r19 ++ (wsL_law_r20 ++ (wsL_law_r21 ++ (wsL_law_r22 ++ (wsL_law_r23 ++ (wsL_law_r24 ++ (wsL_law_r25 ++ (wsL_law_r26 ++ (wsL_law_r27 ++ (wsL_law_r28 ++ (wsL_law_r29 ++ (wsL_law_r30 ++ (wsL_law_r31 ++ (wsL_law_r32 ++ (wsL_law_r33 ++ (wsL_law_r34 ++ (wsL_law_r35 ++ (wsL_law_r36 ++ (wsL_law_r37 ++ (wsL_law_r38 ++ (wsL_law_r39 ++ (wsL_law_r40 ++ (wsL_law_r41 ++ (wsL_law_r42 ++ (wsL_law_r43 ++ (wsL_law_r44 ++ (wsL_law_r45 ++ (wsL_law_r46 ++ (wsL_law_r47 ++ (wsL_law_r48 ++ (wsL_law_r49 ++ (wsL_law_r50 ++ (wsL_law_r51 ++ (wsL_law_r52 ++ (wsL_law_r53 ++ (wsL_law_r54 ++ (wsL_law_r55 ++ (wsL_law_r56 ++ (wsL_law_r57 ++ (wsL_law_r58 ++ (wsL_law_r59 ++ (wsL_law_r60 ++ (wsL_law_r61 ++ (wsL_law_r62 ++ (wsL_law_r63 ++ (wsL_law_r64 ++ (wsL_law_r65 ++ (wsL_law_r66 ++ (wsL_law_r67 ++ wsL_law_r68))))))))))))))))))))))))))))))))))))))))))))))))))))))))))))))))), goodWord w = true := app2 ig_r3 ig_t4
theorem ig_t2 : ∀ w ∈ (wsL_law_r2 ++ (wsL_law_r3 ++ (wsL_law_r4 ++ (wsL_law_r5 ++ (wsL_law_r6 ++ (wsL_law_r7 ++ (wsL_law_r8 ++ (wsL_law_r9 ++ (wsL_law_r10 ++ (wsL_law_r11 ++ (wsL_law_r12 ++ (wsL_law_r13 ++ (wsL_law_r14 ++ (wsL_law_r15 ++ (wsL_law_r16 ++ (wsL_law_r17 ++ (wsL_law_r18 ++ (wsL_law_r19 ++ (wsL_law_r20 ++ (wsL_law_r21 ++ (wsL_law_r22 ++ (wsL_law_r23 ++ (wsL_law_r24 ++ (wsL_law_r25 ++ (wsL_law_r26 ++ (wsL_law_r27 ++ (wsL_law_r28 ++ (wsL_law_r29 ++ (wsL_law_r30 ++ (wsL_law_r31 ++ (wsL_law_r32 ++ (wsL_law_r33 ++ (wsL_law_r34 ++ (wsL_law_r35 ++ (wsL_law_r36 ++ (wsL_law_r37 ++ (wsL_law_r38 ++ (wsL_law_r39 ++ (wsL_law_r40 ++ (wsL_law_r41 ++ (wsL_law_r42 ++ (wsL_law_r43 ++ (wsL_law_r44 ++ (wsL_law_r45 ++ (wsL_law_r46 ++ (wsL_law_r47 ++ (wsL_law_r48 ++ (wsL_law_r49 ++ (wsL_law_r50 ++ (wsL_law_r51 ++ (wsL_law_r52 ++ (wsL_law_r53 ++ (wsL_law_r54 ++ (wsL_law_r55 ++ (wsL_law_r56 ++ (wsL_law_r57 ++ (wsL_law_r58 ++ (wsL_law_r59 ++ (wsL_law_r60 ++ (wsL_law_r61 ++ (wsL_law_r62 ++ (wsL_law_r63 ++ (wsL_law_r64 ++ (wsL_law_r65 ++ (wsL_law_r66 ++ (wsL_law_r67 ++ wsL_law_r68)))))))))))))))))))))))))))))))))))))))))))))))))))))))))))))))))), goodWord w = true := app2 ig_r2 ig_t3
theorem ig_t1 : ∀ w ∈ (wsL_law_r1 ++ (wsL_law_r2 ++ (wsL_law_r3 ++ (wsL_law_r4 ++ (wsL_law_r5 ++ (wsL_law_r6 ++ (wsL_law_r7 ++ (wsL_law_r8 ++ (wsL_law_r9 ++ (wsL_law_r10 ++ (wsL_law_r11 ++ (wsL_law_r12 ++ (wsL_law_r13 ++ (wsL_law_r14 ++ (wsL_law_r15 ++ (wsL_law_r16 ++ (wsL_law_r17 ++ (wsL_law_r18 ++ (wsL_law_r19 ++ (wsL_law_r20 ++ (wsL_law_r21 ++ (wsL_law_r22 ++ (wsL_law_r23 ++ (wsL_law_r24 ++ (wsL_law_r25 ++ (wsL_law_r26 ++ (wsL_law_r27 ++ (wsL_law_r28 ++ (wsL_law_r29 ++ (wsL_law_r30 ++ (wsL_law_r31 ++ (wsL_law_r32 ++ (wsL_law_r33 ++ (wsL_law_r34 ++ (wsL_law_r35 ++ (wsL_law_r36 ++ (wsL_law_r37 ++ (wsL_law_r38 ++ (wsL_law_r39 ++ (wsL_law_r40 ++ (wsL_law_r41 ++ (wsL_law_r42 ++ (wsL_law_r43 ++ (wsL_law_r44 ++ (wsL_law_r45 ++ (wsL_law_r46 ++ (wsL_law_r47 ++ (wsL_law_r48 ++ (wsL_law_r49 ++ (wsL_law_r50 ++ (wsL_law_r51 ++ (wsL_law_r52 ++ (wsL_law_r53 ++ (wsL_law_r54 ++ (wsL_law_r55 ++ (wsL_law_r56 ++ (wsL_law_r57 ++ (wsL_law_r58 ++ (wsL_law_r59 ++ (wsL_law_r60 ++ (wsL_law_r61 ++ (wsL_law_r62 ++ (wsL_law_r63 ++ (wsL_law_r64 ++ (wsL_law_r65 ++ (wsL_law_r66 ++ (wsL_law_r67 ++ wsL_law_r68))))))))))))))))))))))))))))))))))))))))))))))))))))))))))))))))))), goodWord w = true := app2 ig_r1 ig_t2
theorem ig_o11 : ∀ w ∈ (wsL_law_r1 ++ (wsL_law_r2 ++ (wsL_law_r3 ++ (wsL_law_r4 ++ (wsL_law_r5 ++ (wsL_law_r6 ++ (wsL_law_r7 ++ (wsL_law_r8 ++ (wsL_law_r9 ++ (wsL_law_r10 ++ (wsL_law_r11 ++ (wsL_law_r12 ++ (wsL_law_r13 ++ (wsL_law_r14 ++ (wsL_law_r15 ++ (wsL_law_r16 ++ (wsL_law_r17 ++ (wsL_law_r18 ++ (wsL_law_r19 ++ (wsL_law_r20 ++ (wsL_law_r21 ++ (wsL_law_r22 ++ (wsL_law_r23 ++ (wsL_law_r24 ++ (wsL_law_r25 ++ (wsL_law_r26 ++ (wsL_law_r27 ++ (wsL_law_r28 ++ (wsL_law_r29 ++ (wsL_law_r30 ++ (wsL_law_r31 ++ (wsL_law_r32 ++ (wsL_law_r33 ++ (wsL_law_r34 ++ (wsL_law_r35 ++ (wsL_law_r36 ++ (wsL_law_r37 ++ (wsL_law_r38 ++ (wsL_law_r39 ++ (wsL_law_r40 ++ (wsL_law_r41 ++ (wsL_law_r42 ++ (wsL_law_r43 ++ (wsL_law_r44 ++ (wsL_law_r45 ++ (wsL_law_r46 ++ (wsL_law_r47 ++ (wsL_law_r48 ++ (wsL_law_r49 ++ (wsL_law_r50 ++ (wsL_law_r51 ++ (wsL_law_r52 ++ (wsL_law_r53 ++ (wsL_law_r54 ++ (wsL_law_r55 ++ (wsL_law_r56 ++ (wsL_law_r57 ++ (wsL_law_r58 ++ (wsL_law_r59 ++ (wsL_law_r60 ++ (wsL_law_r61 ++ (wsL_law_r62 ++ (wsL_law_r63 ++ (wsL_law_r64 ++ (wsL_law_r65 ++ (wsL_law_r66 ++ (wsL_law_r67 ++ wsL_law_r68))))))))))))))))))))))))))))))))))))))))))))))))))))))))))))))))))) ++ wsX110, goodWord w = true := app2 ig_t1 ig_X11
theorem ig_o12 : ∀ w ∈ (wsL_law_r1 ++ (wsL_law_r2 ++ (wsL_law_r3 ++ (wsL_law_r4 ++ (wsL_law_r5 ++ (wsL_law_r6 ++ (wsL_law_r7 ++ (wsL_law_r8 ++ (wsL_law_r9 ++ (wsL_law_r10 ++ (wsL_law_r11 ++ (wsL_law_r12 ++ (wsL_law_r13 ++ (wsL_law_r14 ++ (wsL_law_r15 ++ (wsL_law_r16 ++ (wsL_law_r17 ++ (wsL_law_r18 ++ (wsL_law_r19 ++ (wsL_law_r20 ++ (wsL_law_r21 ++ (wsL_law_r22 ++ (wsL_law_r23 ++ (wsL_law_r24 ++ (wsL_law_r25 ++ (wsL_law_r26 ++ (wsL_law_r27 ++ (wsL_law_r28 ++ (wsL_law_r29 ++ (wsL_law_r30 ++ (wsL_law_r31 ++ (wsL_law_r32 ++ (wsL_law_r33 ++ (wsL_law_r34 ++ (wsL_law_r35 ++ (wsL_law_r36 ++ (wsL_law_r37 ++ (wsL_law_r38 ++ (wsL_law_r39 ++ (wsL_law_r40 ++ (wsL_law_r41 ++ (wsL_law_r42 ++ (wsL_law_r43 ++ (wsL_law_r44 ++ (wsL_law_r45 ++ (wsL_law_r46 ++ (wsL_law_r47 ++ (wsL_law_r48 ++ (wsL_law_r49 ++ (wsL_law_r50 ++ (wsL_law_r51 ++ (wsL_law_r52 ++ (wsL_law_r53 ++ (wsL_law_r54 ++ (wsL_law_r55 ++ (wsL_law_r56 ++ (wsL_law_r57 ++ (wsL_law_r58 ++ (wsL_law_r59 ++ (wsL_law_r60 ++ (wsL_law_r61 ++ (wsL_law_r62 ++ (wsL_law_r63 ++ (wsL_law_r64 ++ (wsL_law_r65 ++ (wsL_law_r66 ++ (wsL_law_r67 ++ wsL_law_r68))))))))))))))))))))))))))))))))))))))))))))))))))))))))))))))))))) ++ wsX110 ++ wsX120, goodWord w = true := app2 ig_o11 ig_X12
theorem ig_o10 : ∀ w ∈ (wsL_law_r1 ++ (wsL_law_r2 ++ (wsL_law_r3 ++ (wsL_law_r4 ++ (wsL_law_r5 ++ (wsL_law_r6 ++ (wsL_law_r7 ++ (wsL_law_r8 ++ (wsL_law_r9 ++ (wsL_law_r10 ++ (wsL_law_r11 ++ (wsL_law_r12 ++ (wsL_law_r13 ++ (wsL_law_r14 ++ (wsL_law_r15 ++ (wsL_law_r16 ++ (wsL_law_r17 ++ (wsL_law_r18 ++ (wsL_law_r19 ++ (wsL_law_r20 ++ (wsL_law_r21 ++ (wsL_law_r22 ++ (wsL_law_r23 ++ (wsL_law_r24 ++ (wsL_law_r25 ++ (wsL_law_r26 ++ (wsL_law_r27 ++ (wsL_law_r28 ++ (wsL_law_r29 ++ (wsL_law_r30 ++ (wsL_law_r31 ++ (wsL_law_r32 ++ (wsL_law_r33 ++ (wsL_law_r34 ++ (wsL_law_r35 ++ (wsL_law_r36 ++ (wsL_law_r37 ++ (wsL_law_r38 ++ (wsL_law_r39 ++ (wsL_law_r40 ++ (wsL_law_r41 ++ (wsL_law_r42 ++ (wsL_law_r43 ++ (wsL_law_r44 ++ (wsL_law_r45 ++ (wsL_law_r46 ++ (wsL_law_r47 ++ (wsL_law_r48 ++ (wsL_law_r49 ++ (wsL_law_r50 ++ (wsL_law_r51 ++ (wsL_law_r52 ++ (wsL_law_r53 ++ (wsL_law_r54 ++ (wsL_law_r55 ++ (wsL_law_r56 ++ (wsL_law_r57 ++ (wsL_law_r58 ++ (wsL_law_r59 ++ (wsL_law_r60 ++ (wsL_law_r61 ++ (wsL_law_r62 ++ (wsL_law_r63 ++ (wsL_law_r64 ++ (wsL_law_r65 ++ (wsL_law_r66 ++ (wsL_law_r67 ++ wsL_law_r68))))))))))))))))))))))))))))))))))))))))))))))))))))))))))))))))))) ++ wsX110 ++ wsX120 ++ wsX100, goodWord w = true := app2 ig_o12 ig_X10
theorem ig_o5 : ∀ w ∈ (wsL_law_r1 ++ (wsL_law_r2 ++ (wsL_law_r3 ++ (wsL_law_r4 ++ (wsL_law_r5 ++ (wsL_law_r6 ++ (wsL_law_r7 ++ (wsL_law_r8 ++ (wsL_law_r9 ++ (wsL_law_r10 ++ (wsL_law_r11 ++ (wsL_law_r12 ++ (wsL_law_r13 ++ (wsL_law_r14 ++ (wsL_law_r15 ++ (wsL_law_r16 ++ (wsL_law_r17 ++ (wsL_law_r18 ++ (wsL_law_r19 ++ (wsL_law_r20 ++ (wsL_law_r21 ++ (wsL_law_r22 ++ (wsL_law_r23 ++ (wsL_law_r24 ++ (wsL_law_r25 ++ (wsL_law_r26 ++ (wsL_law_r27 ++ (wsL_law_r28 ++ (wsL_law_r29 ++ (wsL_law_r30 ++ (wsL_law_r31 ++ (wsL_law_r32 ++ (wsL_law_r33 ++ (wsL_law_r34 ++ (wsL_law_r35 ++ (wsL_law_r36 ++ (wsL_law_r37 ++ (wsL_law_r38 ++ (wsL_law_r39 ++ (wsL_law_r40 ++ (wsL_law_r41 ++ (wsL_law_r42 ++ (wsL_law_r43 ++ (wsL_law_r44 ++ (wsL_law_r45 ++ (wsL_law_r46 ++ (wsL_law_r47 ++ (wsL_law_r48 ++ (wsL_law_r49 ++ (wsL_law_r50 ++ (wsL_law_r51 ++ (wsL_law_r52 ++ (wsL_law_r53 ++ (wsL_law_r54 ++ (wsL_law_r55 ++ (wsL_law_r56 ++ (wsL_law_r57 ++ (wsL_law_r58 ++ (wsL_law_r59 ++ (wsL_law_r60 ++ (wsL_law_r61 ++ (wsL_law_r62 ++ (wsL_law_r63 ++ (wsL_law_r64 ++ (wsL_law_r65 ++ (wsL_law_r66 ++ (wsL_law_r67 ++ wsL_law_r68))))))))))))))))))))))))))))))))))))))))))))))))))))))))))))))))))) ++ wsX110 ++ wsX120 ++ wsX100 ++ wsX50, goodWord w = true := app2 ig_o10 ig_X5
theorem ig_o0 : ∀ w ∈ (wsL_law_r1 ++ (wsL_law_r2 ++ (wsL_law_r3 ++ (wsL_law_r4 ++ (wsL_law_r5 ++ (wsL_law_r6 ++ (wsL_law_r7 ++ (wsL_law_r8 ++ (wsL_law_r9 ++ (wsL_law_r10 ++ (wsL_law_r11 ++ (wsL_law_r12 ++ (wsL_law_r13 ++ (wsL_law_r14 ++ (wsL_law_r15 ++ (wsL_law_r16 ++ (wsL_law_r17 ++ (wsL_law_r18 ++ (wsL_law_r19 ++ (wsL_law_r20 ++ (wsL_law_r21 ++ (wsL_law_r22 ++ (wsL_law_r23 ++ (wsL_law_r24 ++ (wsL_law_r25 ++ (wsL_law_r26 ++ (wsL_law_r27 ++ (wsL_law_r28 ++ (wsL_law_r29 ++ (wsL_law_r30 ++ (wsL_law_r31 ++ (wsL_law_r32 ++ (wsL_law_r33 ++ (wsL_law_r34 ++ (wsL_law_r35 ++ (wsL_law_r36 ++ (wsL_law_r37 ++ (wsL_law_r38 ++ (wsL_law_r39 ++ (wsL_law_r40 ++ (wsL_law_r41 ++ (wsL_law_r42 ++ (wsL_law_r43 ++ (wsL_law_r44 ++ (wsL_law_r45 ++ (wsL_law_r46 ++ (wsL_law_r47 ++ (wsL_law_r48 ++ (wsL_law_r49 ++ (wsL_law_r50 ++ (wsL_law_r51 ++ (wsL_law_r52 ++ (wsL_law_r53 ++ (wsL_law_r54 ++ (wsL_law_r55 ++ (wsL_law_r56 ++ (wsL_law_r57 ++ (wsL_law_r58 ++ (wsL_law_r59 ++ (wsL_law_r60 ++ (wsL_law_r61 ++ (wsL_law_r62 ++ (wsL_law_r63 ++ (wsL_law_r64 ++ (wsL_law_r65 ++ (wsL_law_r66 ++ (wsL_law_r67 ++ wsL_law_r68))))))))))))))))))))))))))))))))))))))))))))))))))))))))))))))))))) ++ wsX110 ++ wsX120 ++ wsX100 ++ wsX50 ++ wsX00, goodWord w = true := app2 ig_o5 ig_X0
theorem ig_o9 : ∀ w ∈ (wsL_law_r1 ++ (wsL_law_r2 ++ (wsL_law_r3 ++ (wsL_law_r4 ++ (wsL_law_r5 ++ (wsL_law_r6 ++ (wsL_law_r7 ++ (wsL_law_r8 ++ (wsL_law_r9 ++ (wsL_law_r10 ++ (wsL_law_r11 ++ (wsL_law_r12 ++ (wsL_law_r13 ++ (wsL_law_r14 ++ (wsL_law_r15 ++ (wsL_law_r16 ++ (wsL_law_r17 ++ (wsL_law_r18 ++ (wsL_law_r19 ++ (wsL_law_r20 ++ (wsL_law_r21 ++ (wsL_law_r22 ++ (wsL_law_r23 ++ (wsL_law_r24 ++ (wsL_law_r25 ++ (wsL_law_r26 ++ (wsL_law_r27 ++ (wsL_law_r28 ++ (wsL_law_r29 ++ (wsL_law_r30 ++ (wsL_law_r31 ++ (wsL_law_r32 ++ (wsL_law_r33 ++ (wsL_law_r34 ++ (wsL_law_r35 ++ (wsL_law_r36 ++ (wsL_law_r37 ++ (wsL_law_r38 ++ (wsL_law_r39 ++ (wsL_law_r40 ++ (wsL_law_r41 ++ (wsL_law_r42 ++ (wsL_law_r43 ++ (wsL_law_r44 ++ (wsL_law_r45 ++ (wsL_law_r46 ++ (wsL_law_r47 ++ (wsL_law_r48 ++ (wsL_law_r49 ++ (wsL_law_r50 ++ (wsL_law_r51 ++ (wsL_law_r52 ++ (wsL_law_r53 ++ (wsL_law_r54 ++ (wsL_law_r55 ++ (wsL_law_r56 ++ (wsL_law_r57 ++ (wsL_law_r58 ++ (wsL_law_r59 ++ (wsL_law_r60 ++ (wsL_law_r61 ++ (wsL_law_r62 ++ (wsL_law_r63 ++ (wsL_law_r64 ++ (wsL_law_r65 ++ (wsL_law_r66 ++ (wsL_law_r67 ++ wsL_law_r68))))))))))))))))))))))))))))))))))))))))))))))))))))))))))))))))))) ++ wsX110 ++ wsX120 ++ wsX100 ++ wsX50 ++ wsX00 ++ wsX90, goodWord w = true := app2 ig_o0 ig_X9
theorem ig_o8 : ∀ w ∈ (wsL_law_r1 ++ (wsL_law_r2 ++ (wsL_law_r3 ++ (wsL_law_r4 ++ (wsL_law_r5 ++ (wsL_law_r6 ++ (wsL_law_r7 ++ (wsL_law_r8 ++ (wsL_law_r9 ++ (wsL_law_r10 ++ (wsL_law_r11 ++ (wsL_law_r12 ++ (wsL_law_r13 ++ (wsL_law_r14 ++ (wsL_law_r15 ++ (wsL_law_r16 ++ (wsL_law_r17 ++ (wsL_law_r18 ++ (wsL_law_r19 ++ (wsL_law_r20 ++ (wsL_law_r21 ++ (wsL_law_r22 ++ (wsL_law_r23 ++ (wsL_law_r24 ++ (wsL_law_r25 ++ (wsL_law_r26 ++ (wsL_law_r27 ++ (wsL_law_r28 ++ (wsL_law_r29 ++ (wsL_law_r30 ++ (wsL_law_r31 ++ (wsL_law_r32 ++ (wsL_law_r33 ++ (wsL_law_r34 ++ (wsL_law_r35 ++ (wsL_law_r36 ++ (wsL_law_r37 ++ (wsL_law_r38 ++ (wsL_law_r39 ++ (wsL_law_r40 ++ (wsL_law_r41 ++ (wsL_law_r42 ++ (wsL_law_r43 ++ (wsL_law_r44 ++ (wsL_law_r45 ++ (wsL_law_r46 ++ (wsL_law_r47 ++ (wsL_law_r48 ++ (wsL_law_r49 ++ (wsL_law_r50 ++ (wsL_law_r51 ++ (wsL_law_r52 ++ (wsL_law_r53 ++ (wsL_law_r54 ++ (wsL_law_r55 ++ (wsL_law_r56 ++ (wsL_law_r57 ++ (wsL_law_r58 ++ (wsL_law_r59 ++ (wsL_law_r60 ++ (wsL_law_r61 ++ (wsL_law_r62 ++ (wsL_law_r63 ++ (wsL_law_r64 ++ (wsL_law_r65 ++ (wsL_law_r66 ++ (wsL_law_r67 ++ wsL_law_r68))))))))))))))))))))))))))))))))))))))))))))))))))))))))))))))))))) ++ wsX110 ++ wsX120 ++ wsX100 ++ wsX50 ++ wsX00 ++ wsX90 ++ wsX80, goodWord w = true := app2 ig_o9 ig_X8
theorem ig_o6 : ∀ w ∈ (wsL_law_r1 ++ (wsL_law_r2 ++ (wsL_law_r3 ++ (wsL_law_r4 ++ (wsL_law_r5 ++ (wsL_law_r6 ++ (wsL_law_r7 ++ (wsL_law_r8 ++ (wsL_law_r9 ++ (wsL_law_r10 ++ (wsL_law_r11 ++ (wsL_law_r12 ++ (wsL_law_r13 ++ (wsL_law_r14 ++ (wsL_law_r15 ++ (wsL_law_r16 ++ (wsL_law_r17 ++ (wsL_law_r18 ++ (wsL_law_r19 ++ (wsL_law_r20 ++ (wsL_law_r21 ++ (wsL_law_r22 ++ (wsL_law_r23 ++ (wsL_law_r24 ++ (wsL_law_r25 ++ (wsL_law_r26 ++ (wsL_law_r27 ++ (wsL_law_r28 ++ (wsL_law_r29 ++ (wsL_law_r30 ++ (wsL_law_r31 ++ (wsL_law_r32 ++ (wsL_law_r33 ++ (wsL_law_r34 ++ (wsL_law_r35 ++ (wsL_law_r36 ++ (wsL_law_r37 ++ (wsL_law_r38 ++ (wsL_law_r39 ++ (wsL_law_r40 ++ (wsL_law_r41 ++ (wsL_law_r42 ++ (wsL_law_r43 ++ (wsL_law_r44 ++ (wsL_law_r45 ++ (wsL_law_r46 ++ (wsL_law_r47 ++ (wsL_law_r48 ++ (wsL_law_r49 ++ (wsL_law_r50 ++ (wsL_law_r51 ++ (wsL_law_r52 ++ (wsL_law_r53 ++ (wsL_law_r54 ++ (wsL_law_r55 ++ (wsL_law_r56 ++ (wsL_law_r57 ++ (wsL_law_r58 ++ (wsL_law_r59 ++ (wsL_law_r60 ++ (wsL_law_r61 ++ (wsL_law_r62 ++ (wsL_law_r63 ++ (wsL_law_r64 ++ (wsL_law_r65 ++ (wsL_law_r66 ++ (wsL_law_r67 ++ wsL_law_r68))))))))))))))))))))))))))))))))))))))))))))))))))))))))))))))))))) ++ wsX110 ++ wsX120 ++ wsX100 ++ wsX50 ++ wsX00 ++ wsX90 ++ wsX80 ++ wsX60, goodWord w = true := app2 ig_o8 ig_X6
theorem ig_o2 : ∀ w ∈ (wsL_law_r1 ++ (wsL_law_r2 ++ (wsL_law_r3 ++ (wsL_law_r4 ++ (wsL_law_r5 ++ (wsL_law_r6 ++ (wsL_law_r7 ++ (wsL_law_r8 ++ (wsL_law_r9 ++ (wsL_law_r10 ++ (wsL_law_r11 ++ (wsL_law_r12 ++ (wsL_law_r13 ++ (wsL_law_r14 ++ (wsL_law_r15 ++ (wsL_law_r16 ++ (wsL_law_r17 ++ (wsL_law_r18 ++ (wsL_law_r19 ++ (wsL_law_r20 ++ (wsL_law_r21 ++ (wsL_law_r22 ++ (wsL_law_r23 ++ (wsL_law_r24 ++ (wsL_law_r25 ++ (wsL_law_r26 ++ (wsL_law_r27 ++ (wsL_law_r28 ++ (wsL_law_r29 ++ (wsL_law_r30 ++ (wsL_law_r31 ++ (wsL_law_r32 ++ (wsL_law_r33 ++ (wsL_law_r34 ++ (wsL_law_r35 ++ (wsL_law_r36 ++ (wsL_law_r37 ++ (wsL_law_r38 ++ (wsL_law_r39 ++ (wsL_law_r40 ++ (wsL_law_r41 ++ (wsL_law_r42 ++ (wsL_law_r43 ++ (wsL_law_r44 ++ (wsL_law_r45 ++ (wsL_law_r46 ++ (wsL_law_r47 ++ (wsL_law_r48 ++ (wsL_law_r49 ++ (wsL_law_r50 ++ (wsL_law_r51 ++ (wsL_law_r52 ++ (wsL_law_r53 ++ (wsL_law_r54 ++ (wsL_law_r55 ++ (wsL_law_r56 ++ (wsL_law_r57 ++ (wsL_law_r58 ++ (wsL_law_r59 ++ (wsL_law_r60 ++ (wsL_law_r61 ++ (wsL_law_r62 ++ (wsL_law_r63 ++ (wsL_law_r64 ++ (wsL_law_r65 ++ (wsL_law_r66 ++ (wsL_law_r67 ++ wsL_law_r68))))))))))))))))))))))))))))))))))))))))))))))))))))))))))))))))))) ++ wsX110 ++ wsX120 ++ wsX100 ++ wsX50 ++ wsX00 ++ wsX90 ++ wsX80 ++ wsX60 ++ wsX20, goodWord w = true := app2 ig_o6 ig_X2
theorem ig_o3 : ∀ w ∈ (wsL_law_r1 ++ (wsL_law_r2 ++ (wsL_law_r3 ++ (wsL_law_r4 ++ (wsL_law_r5 ++ (wsL_law_r6 ++ (wsL_law_r7 ++ (wsL_law_r8 ++ (wsL_law_r9 ++ (wsL_law_r10 ++ (wsL_law_r11 ++ (wsL_law_r12 ++ (wsL_law_r13 ++ (wsL_law_r14 ++ (wsL_law_r15 ++ (wsL_law_r16 ++ (wsL_law_r17 ++ (wsL_law_r18 ++ (wsL_law_r19 ++ (wsL_law_r20 ++ (wsL_law_r21 ++ (wsL_law_r22 ++ (wsL_law_r23 ++ (wsL_law_r24 ++ (wsL_law_r25 ++ (wsL_law_r26 ++ (wsL_law_r27 ++ (wsL_law_r28 ++ (wsL_law_r29 ++ (wsL_law_r30 ++ (wsL_law_r31 ++ (wsL_law_r32 ++ (wsL_law_r33 ++ (wsL_law_r34 ++ (wsL_law_r35 ++ (wsL_law_r36 ++ (wsL_law_r37 ++ (wsL_law_r38 ++ (wsL_law_r39 ++ (wsL_law_r40 ++ (wsL_law_r41 ++ (wsL_law_r42 ++ (wsL_law_r43 ++ (wsL_law_r44 ++ (wsL_law_r45 ++ (wsL_law_r46 ++ (wsL_law_r47 ++ (wsL_law_r48 ++ (wsL_law_r49 ++ (wsL_law_r50 ++ (wsL_law_r51 ++ (wsL_law_r52 ++ (wsL_law_r53 ++ (wsL_law_r54 ++ (wsL_law_r55 ++ (wsL_law_r56 ++ (wsL_law_r57 ++ (wsL_law_r58 ++ (wsL_law_r59 ++ (wsL_law_r60 ++ (wsL_law_r61 ++ (wsL_law_r62 ++ (wsL_law_r63 ++ (wsL_law_r64 ++ (wsL_law_r65 ++ (wsL_law_r66 ++ (wsL_law_r67 ++ wsL_law_r68))))))))))))))))))))))))))))))))))))))))))))))))))))))))))))))))))) ++ wsX110 ++ wsX120 ++ wsX100 ++ wsX50 ++ wsX00 ++ wsX90 ++ wsX80 ++ wsX60 ++ wsX20 ++ wsX30, goodWord w = true := app2 ig_o2 ig_X3
theorem ig_o1 : ∀ w ∈ (wsL_law_r1 ++ (wsL_law_r2 ++ (wsL_law_r3 ++ (wsL_law_r4 ++ (wsL_law_r5 ++ (wsL_law_r6 ++ (wsL_law_r7 ++ (wsL_law_r8 ++ (wsL_law_r9 ++ (wsL_law_r10 ++ (wsL_law_r11 ++ (wsL_law_r12 ++ (wsL_law_r13 ++ (wsL_law_r14 ++ (wsL_law_r15 ++ (wsL_law_r16 ++ (wsL_law_r17 ++ (wsL_law_r18 ++ (wsL_law_r19 ++ (wsL_law_r20 ++ (wsL_law_r21 ++ (wsL_law_r22 ++ (wsL_law_r23 ++ (wsL_law_r24 ++ (wsL_law_r25 ++ (wsL_law_r26 ++ (wsL_law_r27 ++ (wsL_law_r28 ++ (wsL_law_r29 ++ (wsL_law_r30 ++ (wsL_law_r31 ++ (wsL_law_r32 ++ (wsL_law_r33 ++ (wsL_law_r34 ++ (wsL_law_r35 ++ (wsL_law_r36 ++ (wsL_law_r37 ++ (wsL_law_r38 ++ (wsL_law_r39 ++ (wsL_law_r40 ++ (wsL_law_r41 ++ (wsL_law_r42 ++ (wsL_law_r43 ++ (wsL_law_r44 ++ (wsL_law_r45 ++ (wsL_law_r46 ++ (wsL_law_r47 ++ (wsL_law_r48 ++ (wsL_law_r49 ++ (wsL_law_r50 ++ (wsL_law_r51 ++ (wsL_law_r52 ++ (wsL_law_r53 ++ (wsL_law_r54 ++ (wsL_law_r55 ++ (wsL_law_r56 ++ (wsL_law_r57 ++ (wsL_law_r58 ++ (wsL_law_r59 ++ (wsL_law_r60 ++ (wsL_law_r61 ++ (wsL_law_r62 ++ (wsL_law_r63 ++ (wsL_law_r64 ++ (wsL_law_r65 ++ (wsL_law_r66 ++ (wsL_law_r67 ++ wsL_law_r68))))))))))))))))))))))))))))))))))))))))))))))))))))))))))))))))))) ++ wsX110 ++ wsX120 ++ wsX100 ++ wsX50 ++ wsX00 ++ wsX90 ++ wsX80 ++ wsX60 ++ wsX20 ++ wsX30 ++ wsX10, goodWord w = true := app2 ig_o3 ig_X1
theorem ig_o4 : ∀ w ∈ (wsL_law_r1 ++ (wsL_law_r2 ++ (wsL_law_r3 ++ (wsL_law_r4 ++ (wsL_law_r5 ++ (wsL_law_r6 ++ (wsL_law_r7 ++ (wsL_law_r8 ++ (wsL_law_r9 ++ (wsL_law_r10 ++ (wsL_law_r11 ++ (wsL_law_r12 ++ (wsL_law_r13 ++ (wsL_law_r14 ++ (wsL_law_r15 ++ (wsL_law_r16 ++ (wsL_law_r17 ++ (wsL_law_r18 ++ (wsL_law_r19 ++ (wsL_law_r20 ++ (wsL_law_r21 ++ (wsL_law_r22 ++ (wsL_law_r23 ++ (wsL_law_r24 ++ (wsL_law_r25 ++ (wsL_law_r26 ++ (wsL_law_r27 ++ (wsL_law_r28 ++ (wsL_law_r29 ++ (wsL_law_r30 ++ (wsL_law_r31 ++ (wsL_law_r32 ++ (wsL_law_r33 ++ (wsL_law_r34 ++ (wsL_law_r35 ++ (wsL_law_r36 ++ (wsL_law_r37 ++ (wsL_law_r38 ++ (wsL_law_r39 ++ (wsL_law_r40 ++ (wsL_law_r41 ++ (wsL_law_r42 ++ (wsL_law_r43 ++ (wsL_law_r44 ++ (wsL_law_r45 ++ (wsL_law_r46 ++ (wsL_law_r47 ++ (wsL_law_r48 ++ (wsL_law_r49 ++ (wsL_law_r50 ++ (wsL_law_r51 ++ (wsL_law_r52 ++ (wsL_law_r53 ++ (wsL_law_r54 ++ (wsL_law_r55 ++ (wsL_law_r56 ++ (wsL_law_r57 ++ (wsL_law_r58 ++ (wsL_law_r59 ++ (wsL_law_r60 ++ (wsL_law_r61 ++ (wsL_law_r62 ++ (wsL_law_r63 ++ (wsL_law_r64 ++ (wsL_law_r65 ++ (wsL_law_r66 ++ (wsL_law_r67 ++ wsL_law_r68))))))))))))))))))))))))))))))))))))))))))))))))))))))))))))))))))) ++ wsX110 ++ wsX120 ++ wsX100 ++ wsX50 ++ wsX00 ++ wsX90 ++ wsX80 ++ wsX60 ++ wsX20 ++ wsX30 ++ wsX10 ++ wsX40, goodWord w = true := app2 ig_o1 ig_X4
theorem ig_o7 : ∀ w ∈ (wsL_law_r1 ++ (wsL_law_r2 ++ (wsL_law_r3 ++ (wsL_law_r4 ++ (wsL_law_r5 ++ (wsL_law_r6 ++ (wsL_law_r7 ++ (wsL_law_r8 ++ (wsL_law_r9 ++ (wsL_law_r10 ++ (wsL_law_r11 ++ (wsL_law_r12 ++ (wsL_law_r13 ++ (wsL_law_r14 ++ (wsL_law_r15 ++ (wsL_law_r16 ++ (wsL_law_r17 ++ (wsL_law_r18 ++ (wsL_law_r19 ++ (wsL_law_r20 ++ (wsL_law_r21 ++ (wsL_law_r22 ++ (wsL_law_r23 ++ (wsL_law_r24 ++ (wsL_law_r25 ++ (wsL_law_r26 ++ (wsL_law_r27 ++ (wsL_law_r28 ++ (wsL_law_r29 ++ (wsL_law_r30 ++ (wsL_law_r31 ++ (wsL_law_r32 ++ (wsL_law_r33 ++ (wsL_law_r34 ++ (wsL_law_r35 ++ (wsL_law_r36 ++ (wsL_law_r37 ++ (wsL_law_r38 ++ (wsL_law_r39 ++ (wsL_law_r40 ++ (wsL_law_r41 ++ (wsL_law_r42 ++ (wsL_law_r43 ++ (wsL_law_r44 ++ (wsL_law_r45 ++ (wsL_law_r46 ++ (wsL_law_r47 ++ (wsL_law_r48 ++ (wsL_law_r49 ++ (wsL_law_r50 ++ (wsL_law_r51 ++ (wsL_law_r52 ++ (wsL_law_r53 ++ (wsL_law_r54 ++ (wsL_law_r55 ++ (wsL_law_r56 ++ (wsL_law_r57 ++ (wsL_law_r58 ++ (wsL_law_r59 ++ (wsL_law_r60 ++ (wsL_law_r61 ++ (wsL_law_r62 ++ (wsL_law_r63 ++ (wsL_law_r64 ++ (wsL_law_r65 ++ (wsL_law_r66 ++ (wsL_law_r67 ++ wsL_law_r68))))))))))))))))))))))))))))))))))))))))))))))))))))))))))))))))))) ++ wsX110 ++ wsX120 ++ wsX100 ++ wsX50 ++ wsX00 ++ wsX90 ++ wsX80 ++ wsX60 ++ wsX20 ++ wsX30 ++ wsX10 ++ wsX40 ++ wsX70, goodWord w = true := app2 ig_o4 ig_X7
theorem wsL_mem : ∀ w ∈ wsL_law, goodWord w = true := app2 ig_o7 (fun _ h => absurd h List.not_mem_nil)
theorem in_o : ∀ w ∈ (wsL_law_r1 ++ (wsL_law_r2 ++ (wsL_law_r3 ++ (wsL_law_r4 ++ (wsL_law_r5 ++ (wsL_law_r6 ++ (wsL_law_r7 ++ (wsL_law_r8 ++ (wsL_law_r9 ++ (wsL_law_r10 ++ (wsL_law_r11 ++ (wsL_law_r12 ++ (wsL_law_r13 ++ (wsL_law_r14 ++ (wsL_law_r15 ++ (wsL_law_r16 ++ (wsL_law_r17 ++ (wsL_law_r18 ++ (wsL_law_r19 ++ (wsL_law_r20 ++ (wsL_law_r21 ++ (wsL_law_r22 ++ (wsL_law_r23 ++ (wsL_law_r24 ++ (wsL_law_r25 ++ (wsL_law_r26 ++ (wsL_law_r27 ++ (wsL_law_r28 ++ (wsL_law_r29 ++ (wsL_law_r30 ++ (wsL_law_r31 ++ (wsL_law_r32 ++ (wsL_law_r33 ++ (wsL_law_r34 ++ (wsL_law_r35 ++ (wsL_law_r36 ++ (wsL_law_r37 ++ (wsL_law_r38 ++ (wsL_law_r39 ++ (wsL_law_r40 ++ (wsL_law_r41 ++ (wsL_law_r42 ++ (wsL_law_r43 ++ (wsL_law_r44 ++ (wsL_law_r45 ++ (wsL_law_r46 ++ (wsL_law_r47 ++ (wsL_law_r48 ++ (wsL_law_r49 ++ (wsL_law_r50 ++ (wsL_law_r51 ++ (wsL_law_r52 ++ (wsL_law_r53 ++ (wsL_law_r54 ++ (wsL_law_r55 ++ (wsL_law_r56 ++ (wsL_law_r57 ++ (wsL_law_r58 ++ (wsL_law_r59 ++ (wsL_law_r60 ++ (wsL_law_r61 ++ (wsL_law_r62 ++ (wsL_law_r63 ++ (wsL_law_r64 ++ (wsL_law_r65 ++ (wsL_law_r66 ++ (wsL_law_r67 ++ wsL_law_r68))))))))))))))))))))))))))))))))))))))))))))))))))))))))))))))))))), w ∈ wsL_law := fun _ h => (List.mem_append_left _ (List.mem_append_left _ (List.mem_append_left _ (List.mem_append_left _ (List.mem_append_left _ (List.mem_append_left _ (List.mem_append_left _ (List.mem_append_left _ (List.mem_append_left _ (List.mem_append_left _ (List.mem_append_left _ (List.mem_append_left _ (List.mem_append_left _ (List.mem_append_left _ h))))))))))))))
theorem in_t1 : ∀ w ∈ (wsL_law_r1 ++ (wsL_law_r2 ++ (wsL_law_r3 ++ (wsL_law_r4 ++ (wsL_law_r5 ++ (wsL_law_r6 ++ (wsL_law_r7 ++ (wsL_law_r8 ++ (wsL_law_r9 ++ (wsL_law_r10 ++ (wsL_law_r11 ++ (wsL_law_r12 ++ (wsL_law_r13 ++ (wsL_law_r14 ++ (wsL_law_r15 ++ (wsL_law_r16 ++ (wsL_law_r17 ++ (wsL_law_r18 ++ (wsL_law_r19 ++ (wsL_law_r20 ++ (wsL_law_r21 ++ (wsL_law_r22 ++ (wsL_law_r23 ++ (wsL_law_r24 ++ (wsL_law_r25 ++ (wsL_law_r26 ++ (wsL_law_r27 ++ (wsL_law_r28 ++ (wsL_law_r29 ++ (wsL_law_r30 ++ (wsL_law_r31 ++ (wsL_law_r32 ++ (wsL_law_r33 ++ (wsL_law_r34 ++ (wsL_law_r35 ++ (wsL_law_r36 ++ (wsL_law_r37 ++ (wsL_law_r38 ++ (wsL_law_r39 ++ (wsL_law_r40 ++ (wsL_law_r41 ++ (wsL_law_r42 ++ (wsL_law_r43 ++ (wsL_law_r44 ++ (wsL_law_r45 ++ (wsL_law_r46 ++ (wsL_law_r47 ++ (wsL_law_r48 ++ (wsL_law_r49 ++ (wsL_law_r50 ++ (wsL_law_r51 ++ (wsL_law_r52 ++ (wsL_law_r53 ++ (wsL_law_r54 ++ (wsL_law_r55 ++ (wsL_law_r56 ++ (wsL_law_r57 ++ (wsL_law_r58 ++ (wsL_law_r59 ++ (wsL_law_r60 ++ (wsL_law_r61 ++ (wsL_law_r62 ++ (wsL_law_r63 ++ (wsL_law_r64 ++ (wsL_law_r65 ++ (wsL_law_r66 ++ (wsL_law_r67 ++ wsL_law_r68))))))))))))))))))))))))))))))))))))))))))))))))))))))))))))))))))), w ∈ wsL_law := in_o
theorem in_r1 : ∀ w ∈ wsL_law_r1, w ∈ wsL_law := fun w h => in_t1 w (List.mem_append_left _ h)
theorem in_t2 : ∀ w ∈ (wsL_law_r2 ++ (wsL_law_r3 ++ (wsL_law_r4 ++ (wsL_law_r5 ++ (wsL_law_r6 ++ (wsL_law_r7 ++ (wsL_law_r8 ++ (wsL_law_r9 ++ (wsL_law_r10 ++ (wsL_law_r11 ++ (wsL_law_r12 ++ (wsL_law_r13 ++ (wsL_law_r14 ++ (wsL_law_r15 ++ (wsL_law_r16 ++ (wsL_law_r17 ++ (wsL_law_r18 ++ (wsL_law_r19 ++ (wsL_law_r20 ++ (wsL_law_r21 ++ (wsL_law_r22 ++ (wsL_law_r23 ++ (wsL_law_r24 ++ (wsL_law_r25 ++ (wsL_law_r26 ++ (wsL_law_r27 ++ (wsL_law_r28 ++ (wsL_law_r29 ++ (wsL_law_r30 ++ (wsL_law_r31 ++ (wsL_law_r32 ++ (wsL_law_r33 ++ (wsL_law_r34 ++ (wsL_law_r35 ++ (wsL_law_r36 ++ (wsL_law_r37 ++ (wsL_law_r38 ++ (wsL_law_r39 ++ (wsL_law_r40 ++ (wsL_law_r41 ++ (wsL_law_r42 ++ (wsL_law_r43 ++ (wsL_law_r44 ++ (wsL_law_r45 ++ (wsL_law_r46 ++ (wsL_law_r47 ++ (wsL_law_r48 ++ (wsL_law_r49 ++ (wsL_law_r50 ++ (wsL_law_r51 ++ (wsL_law_r52 ++ (wsL_law_r53 ++ (wsL_law_r54 ++ (wsL_law_r55 ++ (wsL_law_r56 ++ (wsL_law_r57 ++ (wsL_law_r58 ++ (wsL_law_r59 ++ (wsL_law_r60 ++ (wsL_law_r61 ++ (wsL_law_r62 ++ (wsL_law_r63 ++ (wsL_law_r64 ++ (wsL_law_r65 ++ (wsL_law_r66 ++ (wsL_law_r67 ++ wsL_law_r68)))))))))))))))))))))))))))))))))))))))))))))))))))))))))))))))))), w ∈ wsL_law := fun w h => in_t1 w (List.mem_append_right _ h)
theorem in_r2 : ∀ w ∈ wsL_law_r2, w ∈ wsL_law := fun w h => in_t2 w (List.mem_append_left _ h)
theorem in_t3 : ∀ w ∈ (wsL_law_r3 ++ (wsL_law_r4 ++ (wsL_law_r5 ++ (wsL_law_r6 ++ (wsL_law_r7 ++ (wsL_law_r8 ++ (wsL_law_r9 ++ (wsL_law_r10 ++ (wsL_law_r11 ++ (wsL_law_r12 ++ (wsL_law_r13 ++ (wsL_law_r14 ++ (wsL_law_r15 ++ (wsL_law_r16 ++ (wsL_law_r17 ++ (wsL_law_r18 ++ (wsL_law_r19 ++ (wsL_law_r20 ++ (wsL_law_r21 ++ (wsL_law_r22 ++ (wsL_law_r23 ++ (wsL_law_r24 ++ (wsL_law_r25 ++ (wsL_law_r26 ++ (wsL_law_r27 ++ (wsL_law_r28 ++ (wsL_law_r29 ++ (wsL_law_r30 ++ (wsL_law_r31 ++ (wsL_law_r32 ++ (wsL_law_r33 ++ (wsL_law_r34 ++ (wsL_law_r35 ++ (wsL_law_r36 ++ (wsL_law_r37 ++ (wsL_law_r38 ++ (wsL_law_r39 ++ (wsL_law_r40 ++ (wsL_law_r41 ++ (wsL_law_r42 ++ (wsL_law_r43 ++ (wsL_law_r44 ++ (wsL_law_r45 ++ (wsL_law_r46 ++ (wsL_law_r47 ++ (wsL_law_r48 ++ (wsL_law_r49 ++ (wsL_law_r50 ++ (wsL_law_r51 ++ (wsL_law_r52 ++ (wsL_law_r53 ++ (wsL_law_r54 ++ (wsL_law_r55 ++ (wsL_law_r56 ++ (wsL_law_r57 ++ (wsL_law_r58 ++ (wsL_law_r59 ++ (wsL_law_r60 ++ (wsL_law_r61 ++ (wsL_law_r62 ++ (wsL_law_r63 ++ (wsL_law_r64 ++ (wsL_law_r65 ++ (wsL_law_r66 ++ (wsL_law_r67 ++ wsL_law_r68))))))))))))))))))))))))))))))))))))))))))))))))))))))))))))))))), w ∈ wsL_law := fun w h => in_t2 w (List.mem_append_right _ h)
theorem in_r3 : ∀ w ∈ wsL_law_r3, w ∈ wsL_law := fun w h => in_t3 w (List.mem_append_left _ h)
theorem in_t4 : ∀ w ∈ (wsL_law_r4 ++ (wsL_law_r5 ++ (wsL_law_r6 ++ (wsL_law_r7 ++ (wsL_law_r8 ++ (wsL_law_r9 ++ (wsL_law_r10 ++ (wsL_law_r11 ++ (wsL_law_r12 ++ (wsL_law_r13 ++ (wsL_law_r14 ++ (wsL_law_r15 ++ (wsL_law_r16 ++ (wsL_law_r17 ++ (wsL_law_r18 ++ (wsL_law_r19 ++ (wsL_law_r20 ++ (wsL_law_r21 ++ (wsL_law_r22 ++ (wsL_law_r23 ++ (wsL_law_r24 ++ (wsL_law_r25 ++ (wsL_law_r26 ++ (wsL_law_r27 ++ (wsL_law_r28 ++ (wsL_law_r29 ++ (wsL_law_r30 ++ (wsL_law_r31 ++ (wsL_law_r32 ++ (wsL_law_r33 ++ (wsL_law_r34 ++ (wsL_law_r35 ++ (wsL_law_r36 ++ (wsL_law_r37 ++ (wsL_law_r38 ++ (wsL_law_r39 ++ (wsL_law_r40 ++ (wsL_law_r41 ++ (wsL_law_r42 ++ (wsL_law_r43 ++ (wsL_law_r44 ++ (wsL_law_r45 ++ (wsL_law_r46 ++ (wsL_law_r47 ++ (wsL_law_r48 ++ (wsL_law_r49 ++ (wsL_law_r50 ++ (wsL_law_r51 ++ (wsL_law_r52 ++ (wsL_law_r53 ++ (wsL_law_r54 ++ (wsL_law_r55 ++ (wsL_law_r56 ++ (wsL_law_r57 ++ (wsL_law_r58 ++ (wsL_law_r59 ++ (wsL_law_r60 ++ (wsL_law_r61 ++ (wsL_law_r62 ++ (wsL_law_r63 ++ (wsL_law_r64 ++ (wsL_law_r65 ++ (wsL_law_r66 ++ (wsL_law_r67 ++ wsL_law_r68)))))))))))))))))))))))))))))))))))))))))))))))))))))))))))))))), w ∈ wsL_law := fun w h => in_t3 w (List.mem_append_right _ h)
theorem in_r4 : ∀ w ∈ wsL_law_r4, w ∈ wsL_law := fun w h => in_t4 w (List.mem_append_left _ h)
theorem in_t5 : ∀ w ∈ (wsL_law_r5 ++ (wsL_law_r6 ++ (wsL_law_r7 ++ (wsL_law_r8 ++ (wsL_law_r9 ++ (wsL_law_r10 ++ (wsL_law_r11 ++ (wsL_law_r12 ++ (wsL_law_r13 ++ (wsL_law_r14 ++ (wsL_law_r15 ++ (wsL_law_r16 ++ (wsL_law_r17 ++ (wsL_law_r18 ++ (wsL_law_r19 ++ (wsL_law_r20 ++ (wsL_law_r21 ++ (wsL_law_r22 ++ (wsL_law_r23 ++ (wsL_law_r24 ++ (wsL_law_r25 ++ (wsL_law_r26 ++ (wsL_law_r27 ++ (wsL_law_r28 ++ (wsL_law_r29 ++ (wsL_law_r30 ++ (wsL_law_r31 ++ (wsL_law_r32 ++ (wsL_law_r33 ++ (wsL_law_r34 ++ (wsL_law_r35 ++ (wsL_law_r36 ++ (wsL_law_r37 ++ (wsL_law_r38 ++ (wsL_law_r39 ++ (wsL_law_r40 ++ (wsL_law_r41 ++ (wsL_law_r42 ++ (wsL_law_r43 ++ (wsL_law_r44 ++ (wsL_law_r45 ++ (wsL_law_r46 ++ (wsL_law_r47 ++ (wsL_law_r48 ++ (wsL_law_r49 ++ (wsL_law_r50 ++ (wsL_law_r51 ++ (wsL_law_r52 ++ (wsL_law_r53 ++ (wsL_law_r54 ++ (wsL_law_r55 ++ (wsL_law_r56 ++ (wsL_law_r57 ++ (wsL_law_r58 ++ (wsL_law_r59 ++ (wsL_law_r60 ++ (wsL_law_r61 ++ (wsL_law_r62 ++ (wsL_law_r63 ++ (wsL_law_r64 ++ (wsL_law_r65 ++ (wsL_law_r66 ++ (wsL_law_r67 ++ wsL_law_r68))))))))))))))))))))))))))))))))))))))))))))))))))))))))))))))), w ∈ wsL_law := fun w h => in_t4 w (List.mem_append_right _ h)
theorem in_r5 : ∀ w ∈ wsL_law_r5, w ∈ wsL_law := fun w h => in_t5 w (List.mem_append_left _ h)
theorem in_t6 : ∀ w ∈ (wsL_law_r6 ++ (wsL_law_r7 ++ (wsL_law_r8 ++ (wsL_law_r9 ++ (wsL_law_r10 ++ (wsL_law_r11 ++ (wsL_law_r12 ++ (wsL_law_r13 ++ (wsL_law_r14 ++ (wsL_law_r15 ++ (wsL_law_r16 ++ (wsL_law_r17 ++ (wsL_law_r18 ++ (wsL_law_r19 ++ (wsL_law_r20 ++ (wsL_law_r21 ++ (wsL_law_r22 ++ (wsL_law_r23 ++ (wsL_law_r24 ++ (wsL_law_r25 ++ (wsL_law_r26 ++ (wsL_law_r27 ++ (wsL_law_r28 ++ (wsL_law_r29 ++ (wsL_law_r30 ++ (wsL_law_r31 ++ (wsL_law_r32 ++ (wsL_law_r33 ++ (wsL_law_r34 ++ (wsL_law_r35 ++ (wsL_law_r36 ++ (wsL_law_r37 ++ (wsL_law_r38 ++ (wsL_law_r39 ++ (wsL_law_r40 ++ (wsL_law_r41 ++ (wsL_law_r42 ++ (wsL_law_r43 ++ (wsL_law_r44 ++ (wsL_law_r45 ++ (wsL_law_r46 ++ (wsL_law_r47 ++ (wsL_law_r48 ++ (wsL_law_r49 ++ (wsL_law_r50 ++ (wsL_law_r51 ++ (wsL_law_r52 ++ (wsL_law_r53 ++ (wsL_law_r54 ++ (wsL_law_r55 ++ (wsL_law_r56 ++ (wsL_law_r57 ++ (wsL_law_r58 ++ (wsL_law_r59 ++ (wsL_law_r60 ++ (wsL_law_r61 ++ (wsL_law_r62 ++ (wsL_law_r63 ++ (wsL_law_r64 ++ (wsL_law_r65 ++ (wsL_law_r66 ++ (wsL_law_r67 ++ wsL_law_r68)))))))))))))))))))))))))))))))))))))))))))))))))))))))))))))), w ∈ wsL_law := fun w h => in_t5 w (List.mem_append_right _ h)
theorem in_r6 : ∀ w ∈ wsL_law_r6, w ∈ wsL_law := fun w h => in_t6 w (List.mem_append_left _ h)
theorem in_t7 : ∀ w ∈ (wsL_law_r7 ++ (wsL_law_r8 ++ (wsL_law_r9 ++ (wsL_law_r10 ++ (wsL_law_r11 ++ (wsL_law_r12 ++ (wsL_law_r13 ++ (wsL_law_r14 ++ (wsL_law_r15 ++ (wsL_law_r16 ++ (wsL_law_r17 ++ (wsL_law_r18 ++ (wsL_law_r19 ++ (wsL_law_r20 ++ (wsL_law_r21 ++ (wsL_law_r22 ++ (wsL_law_r23 ++ (wsL_law_r24 ++ (wsL_law_r25 ++ (wsL_law_r26 ++ (wsL_law_r27 ++ (wsL_law_r28 ++ (wsL_law_r29 ++ (wsL_law_r30 ++ (wsL_law_r31 ++ (wsL_law_r32 ++ (wsL_law_r33 ++ (wsL_law_r34 ++ (wsL_law_r35 ++ (wsL_law_r36 ++ (wsL_law_r37 ++ (wsL_law_r38 ++ (wsL_law_r39 ++ (wsL_law_r40 ++ (wsL_law_r41 ++ (wsL_law_r42 ++ (wsL_law_r43 ++ (wsL_law_r44 ++ (wsL_law_r45 ++ (wsL_law_r46 ++ (wsL_law_r47 ++ (wsL_law_r48 ++ (wsL_law_r49 ++ (wsL_law_r50 ++ (wsL_law_r51 ++ (wsL_law_r52 ++ (wsL_law_r53 ++ (wsL_law_r54 ++ (wsL_law_r55 ++ (wsL_law_r56 ++ (wsL_law_r57 ++ (wsL_law_r58 ++ (wsL_law_r59 ++ (wsL_law_r60 ++ (wsL_law_r61 ++ (wsL_law_r62 ++ (wsL_law_r63 ++ (wsL_law_r64 ++ (wsL_law_r65 ++ (wsL_law_r66 ++ (wsL_law_r67 ++ wsL_law_r68))))))))))))))))))))))))))))))))))))))))))))))))))))))))))))), w ∈ wsL_law := fun w h => in_t6 w (List.mem_append_right _ h)
theorem in_r7 : ∀ w ∈ wsL_law_r7, w ∈ wsL_law := fun w h => in_t7 w (List.mem_append_left _ h)
theorem in_t8 : ∀ w ∈ (wsL_law_r8 ++ (wsL_law_r9 ++ (wsL_law_r10 ++ (wsL_law_r11 ++ (wsL_law_r12 ++ (wsL_law_r13 ++ (wsL_law_r14 ++ (wsL_law_r15 ++ (wsL_law_r16 ++ (wsL_law_r17 ++ (wsL_law_r18 ++ (wsL_law_r19 ++ (wsL_law_r20 ++ (wsL_law_r21 ++ (wsL_law_r22 ++ (wsL_law_r23 ++ (wsL_law_r24 ++ (wsL_law_r25 ++ (wsL_law_r26 ++ (wsL_law_r27 ++ (wsL_law_r28 ++ (wsL_law_r29 ++ (wsL_law_r30 ++ (wsL_law_r31 ++ (wsL_law_r32 ++ (wsL_law_r33 ++ (wsL_law_r34 ++ (wsL_law_r35 ++ (wsL_law_r36 ++ (wsL_law_r37 ++ (wsL_law_r38 ++ (wsL_law_r39 ++ (wsL_law_r40 ++ (wsL_law_r41 ++ (wsL_law_r42 ++ (wsL_law_r43 ++ (wsL_law_r44 ++ (wsL_law_r45 ++ (wsL_law_r46 ++ (wsL_law_r47 ++ (wsL_law_r48 ++ (wsL_law_r49 ++ (wsL_law_r50 ++ (wsL_law_r51 ++ (wsL_law_r52 ++ (wsL_law_r53 ++ (wsL_law_r54 ++ (wsL_law_r55 ++ (wsL_law_r56 ++ (wsL_law_r57 ++ (wsL_law_r58 ++ (wsL_law_r59 ++ (wsL_law_r60 ++ (wsL_law_r61 ++ (wsL_law_r62 ++ (wsL_law_r63 ++ (wsL_law_r64 ++ (wsL_law_r65 ++ (wsL_law_r66 ++ (wsL_law_r67 ++ wsL_law_r68)))))))))))))))))))))))))))))))))))))))))))))))))))))))))))), w ∈ wsL_law := fun w h => in_t7 w (List.mem_append_right _ h)
theorem in_r8 : ∀ w ∈ wsL_law_r8, w ∈ wsL_law := fun w h => in_t8 w (List.mem_append_left _ h)
theorem in_t9 : ∀ w ∈ (wsL_law_r9 ++ (wsL_law_r10 ++ (wsL_law_r11 ++ (wsL_law_r12 ++ (wsL_law_r13 ++ (wsL_law_r14 ++ (wsL_law_r15 ++ (wsL_law_r16 ++ (wsL_law_r17 ++ (wsL_law_r18 ++ (wsL_law_r19 ++ (wsL_law_r20 ++ (wsL_law_r21 ++ (wsL_law_r22 ++ (wsL_law_r23 ++ (wsL_law_r24 ++ (wsL_law_r25 ++ (wsL_law_r26 ++ (wsL_law_r27 ++ (wsL_law_r28 ++ (wsL_law_r29 ++ (wsL_law_r30 ++ (wsL_law_r31 ++ (wsL_law_r32 ++ (wsL_law_r33 ++ (wsL_law_r34 ++ (wsL_law_r35 ++ (wsL_law_r36 ++ (wsL_law_r37 ++ (wsL_law_r38 ++ (wsL_law_r39 ++ (wsL_law_r40 ++ (wsL_law_r41 ++ (wsL_law_r42 ++ (wsL_law_r43 ++ (wsL_law_r44 ++ (wsL_law_r45 ++ (wsL_law_r46 ++ (wsL_law_r47 ++ (wsL_law_r48 ++ (wsL_law_r49 ++ (wsL_law_r50 ++ (wsL_law_r51 ++ (wsL_law_r52 ++ (wsL_law_r53 ++ (wsL_law_r54 ++ (wsL_law_r55 ++ (wsL_law_r56 ++ (wsL_law_r57 ++ (wsL_law_r58 ++ (wsL_law_r59 ++ (wsL_law_r60 ++ (wsL_law_r61 ++ (wsL_law_r62 ++ (wsL_law_r63 ++ (wsL_law_r64 ++ (wsL_law_r65 ++ (wsL_law_r66 ++ (wsL_law_r67 ++ wsL_law_r68))))))))))))))))))))))))))))))))))))))))))))))))))))))))))), w ∈ wsL_law := fun w h => in_t8 w (List.mem_append_right _ h)
theorem in_r9 : ∀ w ∈ wsL_law_r9, w ∈ wsL_law := fun w h => in_t9 w (List.mem_append_left _ h)
theorem in_t10 : ∀ w ∈ (wsL_law_r10 ++ (wsL_law_r11 ++ (wsL_law_r12 ++ (wsL_law_r13 ++ (wsL_law_r14 ++ (wsL_law_r15 ++ (wsL_law_r16 ++ (wsL_law_r17 ++ (wsL_law_r18 ++ (wsL_law_r19 ++ (wsL_law_r20 ++ (wsL_law_r21 ++ (wsL_law_r22 ++ (wsL_law_r23 ++ (wsL_law_r24 ++ (wsL_law_r25 ++ (wsL_law_r26 ++ (wsL_law_r27 ++ (wsL_law_r28 ++ (wsL_law_r29 ++ (wsL_law_r30 ++ (wsL_law_r31 ++ (wsL_law_r32 ++ (wsL_law_r33 ++ (wsL_law_r34 ++ (wsL_law_r35 ++ (wsL_law_r36 ++ (wsL_law_r37 ++ (wsL_law_r38 ++ (wsL_law_r39 ++ (wsL_law_r40 ++ (wsL_law_r41 ++ (wsL_law_r42 ++ (wsL_law_r43 ++ (wsL_law_r44 ++ (wsL_law_r45 ++ (wsL_law_r46 ++ (wsL_law_r47 ++ (wsL_law_r48 ++ (wsL_law_r49 ++ (wsL_law_r50 ++ (wsL_law_r51 ++ (wsL_law_r52 ++ (wsL_law_r53 ++ (wsL_law_r54 ++ (wsL_law_r55 ++ (wsL_law_r56 ++ (wsL_law_r57 ++ (wsL_law_r58 ++ (wsL_law_r59 ++ (wsL_law_r60 ++ (wsL_law_r61 ++ (wsL_law_r62 ++ (wsL_law_r63 ++ (wsL_law_r64 ++ (wsL_law_r65 ++ (wsL_law_r66 ++ (wsL_law_r67 ++ wsL_law_r68)))))))))))))))))))))))))))))))))))))))))))))))))))))))))), w ∈ wsL_law := fun w h => in_t9 w (List.mem_append_right _ h)
theorem in_r10 : ∀ w ∈ wsL_law_r10, w ∈ wsL_law := fun w h => in_t10 w (List.mem_append_left _ h)
theorem in_t11 : ∀ w ∈ (wsL_law_r11 ++ (wsL_law_r12 ++ (wsL_law_r13 ++ (wsL_law_r14 ++ (wsL_law_r15 ++ (wsL_law_r16 ++ (wsL_law_r17 ++ (wsL_law_r18 ++ (wsL_law_r19 ++ (wsL_law_r20 ++ (wsL_law_r21 ++ (wsL_law_r22 ++ (wsL_law_r23 ++ (wsL_law_r24 ++ (wsL_law_r25 ++ (wsL_law_r26 ++ (wsL_law_r27 ++ (wsL_law_r28 ++ (wsL_law_r29 ++ (wsL_law_r30 ++ (wsL_law_r31 ++ (wsL_law_r32 ++ (wsL_law_r33 ++ (wsL_law_r34 ++ (wsL_law_r35 ++ (wsL_law_r36 ++ (wsL_law_r37 ++ (wsL_law_r38 ++ (wsL_law_r39 ++ (wsL_law_r40 ++ (wsL_law_r41 ++ (wsL_law_r42 ++ (wsL_law_r43 ++ (wsL_law_r44 ++ (wsL_law_r45 ++ (wsL_law_r46 ++ (wsL_law_r47 ++ (wsL_law_r48 ++ (wsL_law_r49 ++ (wsL_law_r50 ++ (wsL_law_r51 ++ (wsL_law_r52 ++ (wsL_law_r53 ++ (wsL_law_r54 ++ (wsL_law_r55 ++ (wsL_law_r56 ++ (wsL_law_r57 ++ (wsL_law_r58 ++ (wsL_law_r59 ++ (wsL_law_r60 ++ (wsL_law_r61 ++ (wsL_law_r62 ++ (wsL_law_r63 ++ (wsL_law_r64 ++ (wsL_law_r65 ++ (wsL_law_r66 ++ (wsL_law_r67 ++ wsL_law_r68))))))))))))))))))))))))))))))))))))))))))))))))))))))))), w ∈ wsL_law := fun w h => in_t10 w (List.mem_append_right _ h)
theorem in_r11 : ∀ w ∈ wsL_law_r11, w ∈ wsL_law := fun w h => in_t11 w (List.mem_append_left _ h)
theorem in_t12 : ∀ w ∈ (wsL_law_r12 ++ (wsL_law_r13 ++ (wsL_law_r14 ++ (wsL_law_r15 ++ (wsL_law_r16 ++ (wsL_law_r17 ++ (wsL_law_r18 ++ (wsL_law_r19 ++ (wsL_law_r20 ++ (wsL_law_r21 ++ (wsL_law_r22 ++ (wsL_law_r23 ++ (wsL_law_r24 ++ (wsL_law_r25 ++ (wsL_law_r26 ++ (wsL_law_r27 ++ (wsL_law_r28 ++ (wsL_law_r29 ++ (wsL_law_r30 ++ (wsL_law_r31 ++ (wsL_law_r32 ++ (wsL_law_r33 ++ (wsL_law_r34 ++ (wsL_law_r35 ++ (wsL_law_r36 ++ (wsL_law_r37 ++ (wsL_law_r38 ++ (wsL_law_r39 ++ (wsL_law_r40 ++ (wsL_law_r41 ++ (wsL_law_r42 ++ (wsL_law_r43 ++ (wsL_law_r44 ++ (wsL_law_r45 ++ (wsL_law_r46 ++ (wsL_law_r47 ++ (wsL_law_r48 ++ (wsL_law_r49 ++ (wsL_law_r50 ++ (wsL_law_r51 ++ (wsL_law_r52 ++ (wsL_law_r53 ++ (wsL_law_r54 ++ (wsL_law_r55 ++ (wsL_law_r56 ++ (wsL_law_r57 ++ (wsL_law_r58 ++ (wsL_law_r59 ++ (wsL_law_r60 ++ (wsL_law_r61 ++ (wsL_law_r62 ++ (wsL_law_r63 ++ (wsL_law_r64 ++ (wsL_law_r65 ++ (wsL_law_r66 ++ (wsL_law_r67 ++ wsL_law_r68)))))))))))))))))))))))))))))))))))))))))))))))))))))))), w ∈ wsL_law := fun w h => in_t11 w (List.mem_append_right _ h)
theorem in_r12 : ∀ w ∈ wsL_law_r12, w ∈ wsL_law := fun w h => in_t12 w (List.mem_append_left _ h)
theorem in_t13 : ∀ w ∈ (wsL_law_r13 ++ (wsL_law_r14 ++ (wsL_law_r15 ++ (wsL_law_r16 ++ (wsL_law_r17 ++ (wsL_law_r18 ++ (wsL_law_r19 ++ (wsL_law_r20 ++ (wsL_law_r21 ++ (wsL_law_r22 ++ (wsL_law_r23 ++ (wsL_law_r24 ++ (wsL_law_r25 ++ (wsL_law_r26 ++ (wsL_law_r27 ++ (wsL_law_r28 ++ (wsL_law_r29 ++ (wsL_law_r30 ++ (wsL_law_r31 ++ (wsL_law_r32 ++ (wsL_law_r33 ++ (wsL_law_r34 ++ (wsL_law_r35 ++ (wsL_law_r36 ++ (wsL_law_r37 ++ (wsL_law_r38 ++ (wsL_law_r39 ++ (wsL_law_r40 ++ (wsL_law_r41 ++ (wsL_law_r42 ++ (wsL_law_r43 ++ (wsL_law_r44 ++ (wsL_law_r45 ++ (wsL_law_r46 ++ (wsL_law_r47 ++ (wsL_law_r48 ++ (wsL_law_r49 ++ (wsL_law_r50 ++ (wsL_law_r51 ++ (wsL_law_r52 ++ (wsL_law_r53 ++ (wsL_law_r54 ++ (wsL_law_r55 ++ (wsL_law_r56 ++ (wsL_law_r57 ++ (wsL_law_r58 ++ (wsL_law_r59 ++ (wsL_law_r60 ++ (wsL_law_r61 ++ (wsL_law_r62 ++ (wsL_law_r63 ++ (wsL_law_r64 ++ (wsL_law_r65 ++ (wsL_law_r66 ++ (wsL_law_r67 ++ wsL_law_r68))))))))))))))))))))))))))))))))))))))))))))))))))))))), w ∈ wsL_law := fun w h => in_t12 w (List.mem_append_right _ h)
theorem in_r13 : ∀ w ∈ wsL_law_r13, w ∈ wsL_law := fun w h => in_t13 w (List.mem_append_left _ h)
theorem in_t14 : ∀ w ∈ (wsL_law_r14 ++ (wsL_law_r15 ++ (wsL_law_r16 ++ (wsL_law_r17 ++ (wsL_law_r18 ++ (wsL_law_r19 ++ (wsL_law_r20 ++ (wsL_law_r21 ++ (wsL_law_r22 ++ (wsL_law_r23 ++ (wsL_law_r24 ++ (wsL_law_r25 ++ (wsL_law_r26 ++ (wsL_law_r27 ++ (wsL_law_r28 ++ (wsL_law_r29 ++ (wsL_law_r30 ++ (wsL_law_r31 ++ (wsL_law_r32 ++ (wsL_law_r33 ++ (wsL_law_r34 ++ (wsL_law_r35 ++ (wsL_law_r36 ++ (wsL_law_r37 ++ (wsL_law_r38 ++ (wsL_law_r39 ++ (wsL_law_r40 ++ (wsL_law_r41 ++ (wsL_law_r42 ++ (wsL_law_r43 ++ (wsL_law_r44 ++ (wsL_law_r45 ++ (wsL_law_r46 ++ (wsL_law_r47 ++ (wsL_law_r48 ++ (wsL_law_r49 ++ (wsL_law_r50 ++ (wsL_law_r51 ++ (wsL_law_r52 ++ (wsL_law_r53 ++ (wsL_law_r54 ++ (wsL_law_r55 ++ (wsL_law_r56 ++ (wsL_law_r57 ++ (wsL_law_r58 ++ (wsL_law_r59 ++ (wsL_law_r60 ++ (wsL_law_r61 ++ (wsL_law_r62 ++ (wsL_law_r63 ++ (wsL_law_r64 ++ (wsL_law_r65 ++ (wsL_law_r66 ++ (wsL_law_r67 ++ wsL_law_r68)))))))))))))))))))))))))))))))))))))))))))))))))))))), w ∈ wsL_law := fun w h => in_t13 w (List.mem_append_right _ h)
theorem in_r14 : ∀ w ∈ wsL_law_r14, w ∈ wsL_law := fun w h => in_t14 w (List.mem_append_left _ h)
theorem in_t15 : ∀ w ∈ (wsL_law_r15 ++ (wsL_law_r16 ++ (wsL_law_r17 ++ (wsL_law_r18 ++ (wsL_law_r19 ++ (wsL_law_r20 ++ (wsL_law_r21 ++ (wsL_law_r22 ++ (wsL_law_r23 ++ (wsL_law_r24 ++ (wsL_law_r25 ++ (wsL_law_r26 ++ (wsL_law_r27 ++ (wsL_law_r28 ++ (wsL_law_r29 ++ (wsL_law_r30 ++ (wsL_law_r31 ++ (wsL_law_r32 ++ (wsL_law_r33 ++ (wsL_law_r34 ++ (wsL_law_r35 ++ (wsL_law_r36 ++ (wsL_law_r37 ++ (wsL_law_r38 ++ (wsL_law_r39 ++ (wsL_law_r40 ++ (wsL_law_r41 ++ (wsL_law_r42 ++ (wsL_law_r43 ++ (wsL_law_r44 ++ (wsL_law_r45 ++ (wsL_law_r46 ++ (wsL_law_r47 ++ (wsL_law_r48 ++ (wsL_law_r49 ++ (wsL_law_r50 ++ (wsL_law_r51 ++ (wsL_law_r52 ++ (wsL_law_r53 ++ (wsL_law_r54 ++ (wsL_law_r55 ++ (wsL_law_r56 ++ (wsL_law_r57 ++ (wsL_law_r58 ++ (wsL_law_r59 ++ (wsL_law_r60 ++ (wsL_law_r61 ++ (wsL_law_r62 ++ (wsL_law_r63 ++ (wsL_law_r64 ++ (wsL_law_r65 ++ (wsL_law_r66 ++ (wsL_law_r67 ++ wsL_law_r68))))))))))))))))))))))))))))))))))))))))))))))))))))), w ∈ wsL_law := fun w h => in_t14 w (List.mem_append_right _ h)
theorem in_r15 : ∀ w ∈ wsL_law_r15, w ∈ wsL_law := fun w h => in_t15 w (List.mem_append_left _ h)
theorem in_t16 : ∀ w ∈ (wsL_law_r16 ++ (wsL_law_r17 ++ (wsL_law_r18 ++ (wsL_law_r19 ++ (wsL_law_r20 ++ (wsL_law_r21 ++ (wsL_law_r22 ++ (wsL_law_r23 ++ (wsL_law_r24 ++ (wsL_law_r25 ++ (wsL_law_r26 ++ (wsL_law_r27 ++ (wsL_law_r28 ++ (wsL_law_r29 ++ (wsL_law_r30 ++ (wsL_law_r31 ++ (wsL_law_r32 ++ (wsL_law_r33 ++ (wsL_law_r34 ++ (wsL_law_r35 ++ (wsL_law_r36 ++ (wsL_law_r37 ++ (wsL_law_r38 ++ (wsL_law_r39 ++ (wsL_law_r40 ++ (wsL_law_r41 ++ (wsL_law_r42 ++ (wsL_law_r43 ++ (wsL_law_r44 ++ (wsL_law_r45 ++ (wsL_law_r46 ++ (wsL_law_r47 ++ (wsL_law_r48 ++ (wsL_law_r49 ++ (wsL_law_r50 ++ (wsL_law_r51 ++ (wsL_law_r52 ++ (wsL_law_r53 ++ (wsL_law_r54 ++ (wsL_law_r55 ++ (wsL_law_r56 ++ (wsL_law_r57 ++ (wsL_law_r58 ++ (wsL_law_r59 ++ (wsL_law_r60 ++ (wsL_law_r61 ++ (wsL_law_r62 ++ (wsL_law_r63 ++ (wsL_law_r64 ++ (wsL_law_r65 ++ (wsL_law_r66 ++ (wsL_law_r67 ++ wsL_law_r68)))))))))))))))))))))))))))))))))))))))))))))))))))), w ∈ wsL_law := fun w h => in_t15 w (List.mem_append_right _ h)
theorem in_r16 : ∀ w ∈ wsL_law_r16, w ∈ wsL_law := fun w h => in_t16 w (List.mem_append_left _ h)
theorem in_t17 : ∀ w ∈ (wsL_law_r17 ++ (wsL_law_r18 ++ (wsL_law_r19 ++ (wsL_law_r20 ++ (wsL_law_r21 ++ (wsL_law_r22 ++ (wsL_law_r23 ++ (wsL_law_r24 ++ (wsL_law_r25 ++ (wsL_law_r26 ++ (wsL_law_r27 ++ (wsL_law_r28 ++ (wsL_law_r29 ++ (wsL_law_r30 ++ (wsL_law_r31 ++ (wsL_law_r32 ++ (wsL_law_r33 ++ (wsL_law_r34 ++ (wsL_law_r35 ++ (wsL_law_r36 ++ (wsL_law_r37 ++ (wsL_law_r38 ++ (wsL_law_r39 ++ (wsL_law_r40 ++ (wsL_law_r41 ++ (wsL_law_r42 ++ (wsL_law_r43 ++ (wsL_law_r44 ++ (wsL_law_r45 ++ (wsL_law_r46 ++ (wsL_law_r47 ++ (wsL_law_r48 ++ (wsL_law_r49 ++ (wsL_law_r50 ++ (wsL_law_r51 ++ (wsL_law_r52 ++ (wsL_law_r53 ++ (wsL_law_r54 ++ (wsL_law_r55 ++ (wsL_law_r56 ++ (wsL_law_r57 ++ (wsL_law_r58 ++ (wsL_law_r59 ++ (wsL_law_r60 ++ (wsL_law_r61 ++ (wsL_law_r62 ++ (wsL_law_r63 ++ (wsL_law_r64 ++ (wsL_law_r65 ++ (wsL_law_r66 ++ (wsL_law_r67 ++ wsL_law_r68))))))))))))))))))))))))))))))))))))))))))))))))))), w ∈ wsL_law := fun w h => in_t16 w (List.mem_append_right _ h)
theorem in_r17 : ∀ w ∈ wsL_law_r17, w ∈ wsL_law := fun w h => in_t17 w (List.mem_append_left _ h)
theorem in_t18 : ∀ w ∈ (wsL_law_r18 ++ (wsL_law_r19 ++ (wsL_law_r20 ++ (wsL_law_r21 ++ (wsL_law_r22 ++ (wsL_law_r23 ++ (wsL_law_r24 ++ (wsL_law_r25 ++ (wsL_law_r26 ++ (wsL_law_r27 ++ (wsL_law_r28 ++ (wsL_law_r29 ++ (wsL_law_r30 ++ (wsL_law_r31 ++ (wsL_law_r32 ++ (wsL_law_r33 ++ (wsL_law_r34 ++ (wsL_law_r35 ++ (wsL_law_r36 ++ (wsL_law_r37 ++ (wsL_law_r38 ++ (wsL_law_r39 ++ (wsL_law_r40 ++ (wsL_law_r41 ++ (wsL_law_r42 ++ (wsL_law_r43 ++ (wsL_law_r44 ++ (wsL_law_r45 ++ (wsL_law_r46 ++ (wsL_law_r47 ++ (wsL_law_r48 ++ (wsL_law_r49 ++ (wsL_law_r50 ++ (wsL_law_r51 ++ (wsL_law_r52 ++ (wsL_law_r53 ++ (wsL_law_r54 ++ (wsL_law_r55 ++ (wsL_law_r56 ++ (wsL_law_r57 ++ (wsL_law_r58 ++ (wsL_law_r59 ++ (wsL_law_r60 ++ (wsL_law_r61 ++ (wsL_law_r62 ++ (wsL_law_r63 ++ (wsL_law_r64 ++ (wsL_law_r65 ++ (wsL_law_r66 ++ (wsL_law_r67 ++ wsL_law_r68)))))))))))))))))))))))))))))))))))))))))))))))))), w ∈ wsL_law := fun w h => in_t17 w (List.mem_append_right _ h)
theorem in_r18 : ∀ w ∈ wsL_law_r18, w ∈ wsL_law := fun w h => in_t18 w (List.mem_append_left _ h)
theorem in_t19 : ∀ w ∈ (wsL_law_r19 ++ (wsL_law_r20 ++ (wsL_law_r21 ++ (wsL_law_r22 ++ (wsL_law_r23 ++ (wsL_law_r24 ++ (wsL_law_r25 ++ (wsL_law_r26 ++ (wsL_law_r27 ++ (wsL_law_r28 ++ (wsL_law_r29 ++ (wsL_law_r30 ++ (wsL_law_r31 ++ (wsL_law_r32 ++ (wsL_law_r33 ++ (wsL_law_r34 ++ (wsL_law_r35 ++ (wsL_law_r36 ++ (wsL_law_r37 ++ (wsL_law_r38 ++ (wsL_law_r39 ++ (wsL_law_r40 ++ (wsL_law_r41 ++ (wsL_law_r42 ++ (wsL_law_r43 ++ (wsL_law_r44 ++ (wsL_law_r45 ++ (wsL_law_r46 ++ (wsL_law_r47 ++ (wsL_law_r48 ++ (wsL_law_r49 ++ (wsL_law_r50 ++ (wsL_law_r51 ++ (wsL_law_r52 ++ (wsL_law_r53 ++ (wsL_law_r54 ++ (wsL_law_r55 ++ (wsL_law_r56 ++ (wsL_law_r57 ++ (wsL_law_r58 ++ (wsL_law_r59 ++ (wsL_law_r60 ++ (wsL_law_r61 ++ (wsL_law_r62 ++ (wsL_law_r63 ++ (wsL_law_r64 ++ (wsL_law_r65 ++ (wsL_law_r66 ++ (wsL_law_r67 ++ wsL_law_r68))))))))))))))))))))))))))))))))))))))))))))))))), w ∈ wsL_law := fun w h => in_t18 w (List.mem_append_right _ h)
theorem in_r19 : ∀ w ∈ wsL_law_r19, w ∈ wsL_law := fun w h => in_t19 w (List.mem_append_left _ h)
theorem in_t20 : ∀ w ∈ (wsL_law_r20 ++ (wsL_law_r21 ++ (wsL_law_r22 ++ (wsL_law_r23 ++ (wsL_law_r24 ++ (wsL_law_r25 ++ (wsL_law_r26 ++ (wsL_law_r27 ++ (wsL_law_r28 ++ (wsL_law_r29 ++ (wsL_law_r30 ++ (wsL_law_r31 ++ (wsL_law_r32 ++ (wsL_law_r33 ++ (wsL_law_r34 ++ (wsL_law_r35 ++ (wsL_law_r36 ++ (wsL_law_r37 ++ (wsL_law_r38 ++ (wsL_law_r39 ++ (wsL_law_r40 ++ (wsL_law_r41 ++ (wsL_law_r42 ++ (wsL_law_r43 ++ (wsL_law_r44 ++ (wsL_law_r45 ++ (wsL_law_r46 ++ (wsL_law_r47 ++ (wsL_law_r48 ++ (wsL_law_r49 ++ (wsL_law_r50 ++ (wsL_law_r51 ++ (wsL_law_r52 ++ (wsL_law_r53 ++ (wsL_law_r54 ++ (wsL_law_r55 ++ (wsL_law_r56 ++ (wsL_law_r57 ++ (wsL_law_r58 ++ (wsL_law_r59 ++ (wsL_law_r60 ++ (wsL_law_r61 ++ (wsL_law_r62 ++ (wsL_law_r63 ++ (wsL_law_r64 ++ (wsL_law_r65 ++ (wsL_law_r66 ++ (wsL_law_r67 ++ wsL_law_r68)))))))))))))))))))))))))))))))))))))))))))))))), w ∈ wsL_law := fun w h => in_t19 w (List.mem_append_right _ h)
theorem in_r20 : ∀ w ∈ wsL_law_r20, w ∈ wsL_law := fun w h => in_t20 w (List.mem_append_left _ h)
theorem in_t21 : ∀ w ∈ (wsL_law_r21 ++ (wsL_law_r22 ++ (wsL_law_r23 ++ (wsL_law_r24 ++ (wsL_law_r25 ++ (wsL_law_r26 ++ (wsL_law_r27 ++ (wsL_law_r28 ++ (wsL_law_r29 ++ (wsL_law_r30 ++ (wsL_law_r31 ++ (wsL_law_r32 ++ (wsL_law_r33 ++ (wsL_law_r34 ++ (wsL_law_r35 ++ (wsL_law_r36 ++ (wsL_law_r37 ++ (wsL_law_r38 ++ (wsL_law_r39 ++ (wsL_law_r40 ++ (wsL_law_r41 ++ (wsL_law_r42 ++ (wsL_law_r43 ++ (wsL_law_r44 ++ (wsL_law_r45 ++ (wsL_law_r46 ++ (wsL_law_r47 ++ (wsL_law_r48 ++ (wsL_law_r49 ++ (wsL_law_r50 ++ (wsL_law_r51 ++ (wsL_law_r52 ++ (wsL_law_r53 ++ (wsL_law_r54 ++ (wsL_law_r55 ++ (wsL_law_r56 ++ (wsL_law_r57 ++ (wsL_law_r58 ++ (wsL_law_r59 ++ (wsL_law_r60 ++ (wsL_law_r61 ++ (wsL_law_r62 ++ (wsL_law_r63 ++ (wsL_law_r64 ++ (wsL_law_r65 ++ (wsL_law_r66 ++ (wsL_law_r67 ++ wsL_law_r68))))))))))))))))))))))))))))))))))))))))))))))), w ∈ wsL_law := fun w h => in_t20 w (List.mem_append_right _ h)
theorem in_r21 : ∀ w ∈ wsL_law_r21, w ∈ wsL_law := fun w h => in_t21 w (List.mem_append_left _ h)
theorem in_t22 : ∀ w ∈ (wsL_law_r22 ++ (wsL_law_r23 ++ (wsL_law_r24 ++ (wsL_law_r25 ++ (wsL_law_r26 ++ (wsL_law_r27 ++ (wsL_law_r28 ++ (wsL_law_r29 ++ (wsL_law_r30 ++ (wsL_law_r31 ++ (wsL_law_r32 ++ (wsL_law_r33 ++ (wsL_law_r34 ++ (wsL_law_r35 ++ (wsL_law_r36 ++ (wsL_law_r37 ++ (wsL_law_r38 ++ (wsL_law_r39 ++ (wsL_law_r40 ++ (wsL_law_r41 ++ (wsL_law_r42 ++ (wsL_law_r43 ++ (wsL_law_r44 ++ (wsL_law_r45 ++ (wsL_law_r46 ++ (wsL_law_r47 ++ (wsL_law_r48 ++ (wsL_law_r49 ++ (wsL_law_r50 ++ (wsL_law_r51 ++ (wsL_law_r52 ++ (wsL_law_r53 ++ (wsL_law_r54 ++ (wsL_law_r55 ++ (wsL_law_r56 ++ (wsL_law_r57 ++ (wsL_law_r58 ++ (wsL_law_r59 ++ (wsL_law_r60 ++ (wsL_law_r61 ++ (wsL_law_r62 ++ (wsL_law_r63 ++ (wsL_law_r64 ++ (wsL_law_r65 ++ (wsL_law_r66 ++ (wsL_law_r67 ++ wsL_law_r68)))))))))))))))))))))))))))))))))))))))))))))), w ∈ wsL_law := fun w h => in_t21 w (List.mem_append_right _ h)
theorem in_r22 : ∀ w ∈ wsL_law_r22, w ∈ wsL_law := fun w h => in_t22 w (List.mem_append_left _ h)
theorem in_t23 : ∀ w ∈ (wsL_law_r23 ++ (wsL_law_r24 ++ (wsL_law_r25 ++ (wsL_law_r26 ++ (wsL_law_r27 ++ (wsL_law_r28 ++ (wsL_law_r29 ++ (wsL_law_r30 ++ (wsL_law_r31 ++ (wsL_law_r32 ++ (wsL_law_r33 ++ (wsL_law_r34 ++ (wsL_law_r35 ++ (wsL_law_r36 ++ (wsL_law_r37 ++ (wsL_law_r38 ++ (wsL_law_r39 ++ (wsL_law_r40 ++ (wsL_law_r41 ++ (wsL_law_r42 ++ (wsL_law_r43 ++ (wsL_law_r44 ++ (wsL_law_r45 ++ (wsL_law_r46 ++ (wsL_law_r47 ++ (wsL_law_r48 ++ (wsL_law_r49 ++ (wsL_law_r50 ++ (wsL_law_r51 ++ (wsL_law_r52 ++ (wsL_law_r53 ++ (wsL_law_r54 ++ (wsL_law_r55 ++ (wsL_law_r56 ++ (wsL_law_r57 ++ (wsL_law_r58 ++ (wsL_law_r59 ++ (wsL_law_r60 ++ (wsL_law_r61 ++ (wsL_law_r62 ++ (wsL_law_r63 ++ (wsL_law_r64 ++ (wsL_law_r65 ++ (wsL_law_r66 ++ (wsL_law_r67 ++ wsL_law_r68))))))))))))))))))))))))))))))))))))))))))))), w ∈ wsL_law := fun w h => in_t22 w (List.mem_append_right _ h)
theorem in_r23 : ∀ w ∈ wsL_law_r23, w ∈ wsL_law := fun w h => in_t23 w (List.mem_append_left _ h)
theorem in_t24 : ∀ w ∈ (wsL_law_r24 ++ (wsL_law_r25 ++ (wsL_law_r26 ++ (wsL_law_r27 ++ (wsL_law_r28 ++ (wsL_law_r29 ++ (wsL_law_r30 ++ (wsL_law_r31 ++ (wsL_law_r32 ++ (wsL_law_r33 ++ (wsL_law_r34 ++ (wsL_law_r35 ++ (wsL_law_r36 ++ (wsL_law_r37 ++ (wsL_law_r38 ++ (wsL_law_r39 ++ (wsL_law_r40 ++ (wsL_law_r41 ++ (wsL_law_r42 ++ (wsL_law_r43 ++ (wsL_law_r44 ++ (wsL_law_r45 ++ (wsL_law_r46 ++ (wsL_law_r47 ++ (wsL_law_r48 ++ (wsL_law_r49 ++ (wsL_law_r50 ++ (wsL_law_r51 ++ (wsL_law_r52 ++ (wsL_law_r53 ++ (wsL_law_r54 ++ (wsL_law_r55 ++ (wsL_law_r56 ++ (wsL_law_r57 ++ (wsL_law_r58 ++ (wsL_law_r59 ++ (wsL_law_r60 ++ (wsL_law_r61 ++ (wsL_law_r62 ++ (wsL_law_r63 ++ (wsL_law_r64 ++ (wsL_law_r65 ++ (wsL_law_r66 ++ (wsL_law_r67 ++ wsL_law_r68)))))))))))))))))))))))))))))))))))))))))))), w ∈ wsL_law := fun w h => in_t23 w (List.mem_append_right _ h)
theorem in_r24 : ∀ w ∈ wsL_law_r24, w ∈ wsL_law := fun w h => in_t24 w (List.mem_append_left _ h)
theorem in_t25 : ∀ w ∈ (wsL_law_r25 ++ (wsL_law_r26 ++ (wsL_law_r27 ++ (wsL_law_r28 ++ (wsL_law_r29 ++ (wsL_law_r30 ++ (wsL_law_r31 ++ (wsL_law_r32 ++ (wsL_law_r33 ++ (wsL_law_r34 ++ (wsL_law_r35 ++ (wsL_law_r36 ++ (wsL_law_r37 ++ (wsL_law_r38 ++ (wsL_law_r39 ++ (wsL_law_r40 ++ (wsL_law_r41 ++ (wsL_law_r42 ++ (wsL_law_r43 ++ (wsL_law_r44 ++ (wsL_law_r45 ++ (wsL_law_r46 ++ (wsL_law_r47 ++ (wsL_law_r48 ++ (wsL_law_r49 ++ (wsL_law_r50 ++ (wsL_law_r51 ++ (wsL_law_r52 ++ (wsL_law_r53 ++ (wsL_law_r54 ++ (wsL_law_r55 ++ (wsL_law_r56 ++ (wsL_law_r57 ++ (wsL_law_r58 ++ (wsL_law_r59 ++ (wsL_law_r60 ++ (wsL_law_r61 ++ (wsL_law_r62 ++ (wsL_law_r63 ++ (wsL_law_r64 ++ (wsL_law_r65 ++ (wsL_law_r66 ++ (wsL_law_r67 ++ wsL_law_r68))))))))))))))))))))))))))))))))))))))))))), w ∈ wsL_law := fun w h => in_t24 w (List.mem_append_right _ h)
theorem in_r25 : ∀ w ∈ wsL_law_r25, w ∈ wsL_law := fun w h => in_t25 w (List.mem_append_left _ h)
theorem in_t26 : ∀ w ∈ (wsL_law_r26 ++ (wsL_law_r27 ++ (wsL_law_r28 ++ (wsL_law_r29 ++ (wsL_law_r30 ++ (wsL_law_r31 ++ (wsL_law_r32 ++ (wsL_law_r33 ++ (wsL_law_r34 ++ (wsL_law_r35 ++ (wsL_law_r36 ++ (wsL_law_r37 ++ (wsL_law_r38 ++ (wsL_law_r39 ++ (wsL_law_r40 ++ (wsL_law_r41 ++ (wsL_law_r42 ++ (wsL_law_r43 ++ (wsL_law_r44 ++ (wsL_law_r45 ++ (wsL_law_r46 ++ (wsL_law_r47 ++ (wsL_law_r48 ++ (wsL_law_r49 ++ (wsL_law_r50 ++ (wsL_law_r51 ++ (wsL_law_r52 ++ (wsL_law_r53 ++ (wsL_law_r54 ++ (wsL_law_r55 ++ (wsL_law_r56 ++ (wsL_law_r57 ++ (wsL_law_r58 ++ (wsL_law_r59 ++ (wsL_law_r60 ++ (wsL_law_r61 ++ (wsL_law_r62 ++ (wsL_law_r63 ++ (wsL_law_r64 ++ (wsL_law_r65 ++ (wsL_law_r66 ++ (wsL_law_r67 ++ wsL_law_r68)))))))))))))))))))))))))))))))))))))))))), w ∈ wsL_law := fun w h => in_t25 w (List.mem_append_right _ h)
theorem in_r26 : ∀ w ∈ wsL_law_r26, w ∈ wsL_law := fun w h => in_t26 w (List.mem_append_left _ h)
theorem in_t27 : ∀ w ∈ (wsL_law_r27 ++ (wsL_law_r28 ++ (wsL_law_r29 ++ (wsL_law_r30 ++ (wsL_law_r31 ++ (wsL_law_r32 ++ (wsL_law_r33 ++ (wsL_law_r34 ++ (wsL_law_r35 ++ (wsL_law_r36 ++ (wsL_law_r37 ++ (wsL_law_r38 ++ (wsL_law_r39 ++ (wsL_law_r40 ++ (wsL_law_r41 ++ (wsL_law_r42 ++ (wsL_law_r43 ++ (wsL_law_r44 ++ (wsL_law_r45 ++ (wsL_law_r46 ++ (wsL_law_r47 ++ (wsL_law_r48 ++ (wsL_law_r49 ++ (wsL_law_r50 ++ (wsL_law_r51 ++ (wsL_law_r52 ++ (wsL_law_r53 ++ (wsL_law_r54 ++ (wsL_law_r55 ++ (wsL_law_r56 ++ (wsL_law_r57 ++ (wsL_law_r58 ++ (wsL_law_r59 ++ (wsL_law_r60 ++ (wsL_law_r61 ++ (wsL_law_r62 ++ (wsL_law_r63 ++ (wsL_law_r64 ++ (wsL_law_r65 ++ (wsL_law_r66 ++ (wsL_law_r67 ++ wsL_law_r68))))))))))))))))))))))))))))))))))))))))), w ∈ wsL_law := fun w h => in_t26 w (List.mem_append_right _ h)
theorem in_r27 : ∀ w ∈ wsL_law_r27, w ∈ wsL_law := fun w h => in_t27 w (List.mem_append_left _ h)
theorem in_t28 : ∀ w ∈ (wsL_law_r28 ++ (wsL_law_r29 ++ (wsL_law_r30 ++ (wsL_law_r31 ++ (wsL_law_r32 ++ (wsL_law_r33 ++ (wsL_law_r34 ++ (wsL_law_r35 ++ (wsL_law_r36 ++ (wsL_law_r37 ++ (wsL_law_r38 ++ (wsL_law_r39 ++ (wsL_law_r40 ++ (wsL_law_r41 ++ (wsL_law_r42 ++ (wsL_law_r43 ++ (wsL_law_r44 ++ (wsL_law_r45 ++ (wsL_law_r46 ++ (wsL_law_r47 ++ (wsL_law_r48 ++ (wsL_law_r49 ++ (wsL_law_r50 ++ (wsL_law_r51 ++ (wsL_law_r52 ++ (wsL_law_r53 ++ (wsL_law_r54 ++ (wsL_law_r55 ++ (wsL_law_r56 ++ (wsL_law_r57 ++ (wsL_law_r58 ++ (wsL_law_r59 ++ (wsL_law_r60 ++ (wsL_law_r61 ++ (wsL_law_r62 ++ (wsL_law_r63 ++ (wsL_law_r64 ++ (wsL_law_r65 ++ (wsL_law_r66 ++ (wsL_law_r67 ++ wsL_law_r68)))))))))))))))))))))))))))))))))))))))), w ∈ wsL_law := fun w h => in_t27 w (List.mem_append_right _ h)
theorem in_r28 : ∀ w ∈ wsL_law_r28, w ∈ wsL_law := fun w h => in_t28 w (List.mem_append_left _ h)
theorem in_t29 : ∀ w ∈ (wsL_law_r29 ++ (wsL_law_r30 ++ (wsL_law_r31 ++ (wsL_law_r32 ++ (wsL_law_r33 ++ (wsL_law_r34 ++ (wsL_law_r35 ++ (wsL_law_r36 ++ (wsL_law_r37 ++ (wsL_law_r38 ++ (wsL_law_r39 ++ (wsL_law_r40 ++ (wsL_law_r41 ++ (wsL_law_r42 ++ (wsL_law_r43 ++ (wsL_law_r44 ++ (wsL_law_r45 ++ (wsL_law_r46 ++ (wsL_law_r47 ++ (wsL_law_r48 ++ (wsL_law_r49 ++ (wsL_law_r50 ++ (wsL_law_r51 ++ (wsL_law_r52 ++ (wsL_law_r53 ++ (wsL_law_r54 ++ (wsL_law_r55 ++ (wsL_law_r56 ++ (wsL_law_r57 ++ (wsL_law_r58 ++ (wsL_law_r59 ++ (wsL_law_r60 ++ (wsL_law_r61 ++ (wsL_law_r62 ++ (wsL_law_r63 ++ (wsL_law_r64 ++ (wsL_law_r65 ++ (wsL_law_r66 ++ (wsL_law_r67 ++ wsL_law_r68))))))))))))))))))))))))))))))))))))))), w ∈ wsL_law := fun w h => in_t28 w (List.mem_append_right _ h)
theorem in_r29 : ∀ w ∈ wsL_law_r29, w ∈ wsL_law := fun w h => in_t29 w (List.mem_append_left _ h)
theorem in_t30 : ∀ w ∈ (wsL_law_r30 ++ (wsL_law_r31 ++ (wsL_law_r32 ++ (wsL_law_r33 ++ (wsL_law_r34 ++ (wsL_law_r35 ++ (wsL_law_r36 ++ (wsL_law_r37 ++ (wsL_law_r38 ++ (wsL_law_r39 ++ (wsL_law_r40 ++ (wsL_law_r41 ++ (wsL_law_r42 ++ (wsL_law_r43 ++ (wsL_law_r44 ++ (wsL_law_r45 ++ (wsL_law_r46 ++ (wsL_law_r47 ++ (wsL_law_r48 ++ (wsL_law_r49 ++ (wsL_law_r50 ++ (wsL_law_r51 ++ (wsL_law_r52 ++ (wsL_law_r53 ++ (wsL_law_r54 ++ (wsL_law_r55 ++ (wsL_law_r56 ++ (wsL_law_r57 ++ (wsL_law_r58 ++ (wsL_law_r59 ++ (wsL_law_r60 ++ (wsL_law_r61 ++ (wsL_law_r62 ++ (wsL_law_r63 ++ (wsL_law_r64 ++ (wsL_law_r65 ++ (wsL_law_r66 ++ (wsL_law_r67 ++ wsL_law_r68)))))))))))))))))))))))))))))))))))))), w ∈ wsL_law := fun w h => in_t29 w (List.mem_append_right _ h)
theorem in_r30 : ∀ w ∈ wsL_law_r30, w ∈ wsL_law := fun w h => in_t30 w (List.mem_append_left _ h)
theorem in_t31 : ∀ w ∈ (wsL_law_r31 ++ (wsL_law_r32 ++ (wsL_law_r33 ++ (wsL_law_r34 ++ (wsL_law_r35 ++ (wsL_law_r36 ++ (wsL_law_r37 ++ (wsL_law_r38 ++ (wsL_law_r39 ++ (wsL_law_r40 ++ (wsL_law_r41 ++ (wsL_law_r42 ++ (wsL_law_r43 ++ (wsL_law_r44 ++ (wsL_law_r45 ++ (wsL_law_r46 ++ (wsL_law_r47 ++ (wsL_law_r48 ++ (wsL_law_r49 ++ (wsL_law_r50 ++ (wsL_law_r51 ++ (wsL_law_r52 ++ (wsL_law_r53 ++ (wsL_law_r54 ++ (wsL_law_r55 ++ (wsL_law_r56 ++ (wsL_law_r57 ++ (wsL_law_r58 ++ (wsL_law_r59 ++ (wsL_law_r60 ++ (wsL_law_r61 ++ (wsL_law_r62 ++ (wsL_law_r63 ++ (wsL_law_r64 ++ (wsL_law_r65 ++ (wsL_law_r66 ++ (wsL_law_r67 ++ wsL_law_r68))))))))))))))))))))))))))))))))))))), w ∈ wsL_law := fun w h => in_t30 w (List.mem_append_right _ h)
theorem in_r31 : ∀ w ∈ wsL_law_r31, w ∈ wsL_law := fun w h => in_t31 w (List.mem_append_left _ h)
theorem in_t32 : ∀ w ∈ (wsL_law_r32 ++ (wsL_law_r33 ++ (wsL_law_r34 ++ (wsL_law_r35 ++ (wsL_law_r36 ++ (wsL_law_r37 ++ (wsL_law_r38 ++ (wsL_law_r39 ++ (wsL_law_r40 ++ (wsL_law_r41 ++ (wsL_law_r42 ++ (wsL_law_r43 ++ (wsL_law_r44 ++ (wsL_law_r45 ++ (wsL_law_r46 ++ (wsL_law_r47 ++ (wsL_law_r48 ++ (wsL_law_r49 ++ (wsL_law_r50 ++ (wsL_law_r51 ++ (wsL_law_r52 ++ (wsL_law_r53 ++ (wsL_law_r54 ++ (wsL_law_r55 ++ (wsL_law_r56 ++ (wsL_law_r57 ++ (wsL_law_r58 ++ (wsL_law_r59 ++ (wsL_law_r60 ++ (wsL_law_r61 ++ (wsL_law_r62 ++ (wsL_law_r63 ++ (wsL_law_r64 ++ (wsL_law_r65 ++ (wsL_law_r66 ++ (wsL_law_r67 ++ wsL_law_r68)))))))))))))))))))))))))))))))))))), w ∈ wsL_law := fun w h => in_t31 w (List.mem_append_right _ h)
theorem in_r32 : ∀ w ∈ wsL_law_r32, w ∈ wsL_law := fun w h => in_t32 w (List.mem_append_left _ h)
theorem in_t33 : ∀ w ∈ (wsL_law_r33 ++ (wsL_law_r34 ++ (wsL_law_r35 ++ (wsL_law_r36 ++ (wsL_law_r37 ++ (wsL_law_r38 ++ (wsL_law_r39 ++ (wsL_law_r40 ++ (wsL_law_r41 ++ (wsL_law_r42 ++ (wsL_law_r43 ++ (wsL_law_r44 ++ (wsL_law_r45 ++ (wsL_law_r46 ++ (wsL_law_r47 ++ (wsL_law_r48 ++ (wsL_law_r49 ++ (wsL_law_r50 ++ (wsL_law_r51 ++ (wsL_law_r52 ++ (wsL_law_r53 ++ (wsL_law_r54 ++ (wsL_law_r55 ++ (wsL_law_r56 ++ (wsL_law_r57 ++ (wsL_law_r58 ++ (wsL_law_r59 ++ (wsL_law_r60 ++ (wsL_law_r61 ++ (wsL_law_r62 ++ (wsL_law_r63 ++ (wsL_law_r64 ++ (wsL_law_r65 ++ (wsL_law_r66 ++ (wsL_law_r67 ++ wsL_law_r68))))))))))))))))))))))))))))))))))), w ∈ wsL_law := fun w h => in_t32 w (List.mem_append_right _ h)
theorem in_r33 : ∀ w ∈ wsL_law_r33, w ∈ wsL_law := fun w h => in_t33 w (List.mem_append_left _ h)
theorem in_t34 : ∀ w ∈ (wsL_law_r34 ++ (wsL_law_r35 ++ (wsL_law_r36 ++ (wsL_law_r37 ++ (wsL_law_r38 ++ (wsL_law_r39 ++ (wsL_law_r40 ++ (wsL_law_r41 ++ (wsL_law_r42 ++ (wsL_law_r43 ++ (wsL_law_r44 ++ (wsL_law_r45 ++ (wsL_law_r46 ++ (wsL_law_r47 ++ (wsL_law_r48 ++ (wsL_law_r49 ++ (wsL_law_r50 ++ (wsL_law_r51 ++ (wsL_law_r52 ++ (wsL_law_r53 ++ (wsL_law_r54 ++ (wsL_law_r55 ++ (wsL_law_r56 ++ (wsL_law_r57 ++ (wsL_law_r58 ++ (wsL_law_r59 ++ (wsL_law_r60 ++ (wsL_law_r61 ++ (wsL_law_r62 ++ (wsL_law_r63 ++ (wsL_law_r64 ++ (wsL_law_r65 ++ (wsL_law_r66 ++ (wsL_law_r67 ++ wsL_law_r68)))))))))))))))))))))))))))))))))), w ∈ wsL_law := fun w h => in_t33 w (List.mem_append_right _ h)
theorem in_r34 : ∀ w ∈ wsL_law_r34, w ∈ wsL_law := fun w h => in_t34 w (List.mem_append_left _ h)
theorem in_t35 : ∀ w ∈ (wsL_law_r35 ++ (wsL_law_r36 ++ (wsL_law_r37 ++ (wsL_law_r38 ++ (wsL_law_r39 ++ (wsL_law_r40 ++ (wsL_law_r41 ++ (wsL_law_r42 ++ (wsL_law_r43 ++ (wsL_law_r44 ++ (wsL_law_r45 ++ (wsL_law_r46 ++ (wsL_law_r47 ++ (wsL_law_r48 ++ (wsL_law_r49 ++ (wsL_law_r50 ++ (wsL_law_r51 ++ (wsL_law_r52 ++ (wsL_law_r53 ++ (wsL_law_r54 ++ (wsL_law_r55 ++ (wsL_law_r56 ++ (wsL_law_r57 ++ (wsL_law_r58 ++ (wsL_law_r59 ++ (wsL_law_r60 ++ (wsL_law_r61 ++ (wsL_law_r62 ++ (wsL_law_r63 ++ (wsL_law_r64 ++ (wsL_law_r65 ++ (wsL_law_r66 ++ (wsL_law_r67 ++ wsL_law_r68))))))))))))))))))))))))))))))))), w ∈ wsL_law := fun w h => in_t34 w (List.mem_append_right _ h)
theorem in_r35 : ∀ w ∈ wsL_law_r35, w ∈ wsL_law := fun w h => in_t35 w (List.mem_append_left _ h)
theorem in_t36 : ∀ w ∈ (wsL_law_r36 ++ (wsL_law_r37 ++ (wsL_law_r38 ++ (wsL_law_r39 ++ (wsL_law_r40 ++ (wsL_law_r41 ++ (wsL_law_r42 ++ (wsL_law_r43 ++ (wsL_law_r44 ++ (wsL_law_r45 ++ (wsL_law_r46 ++ (wsL_law_r47 ++ (wsL_law_r48 ++ (wsL_law_r49 ++ (wsL_law_r50 ++ (wsL_law_r51 ++ (wsL_law_r52 ++ (wsL_law_r53 ++ (wsL_law_r54 ++ (wsL_law_r55 ++ (wsL_law_r56 ++ (wsL_law_r57 ++ (wsL_law_r58 ++ (wsL_law_r59 ++ (wsL_law_r60 ++ (wsL_law_r61 ++ (wsL_law_r62 ++ (wsL_law_r63 ++ (wsL_law_r64 ++ (wsL_law_r65 ++ (wsL_law_r66 ++ (wsL_law_r67 ++ wsL_law_r68)))))))))))))))))))))))))))))))), w ∈ wsL_law := fun w h => in_t35 w (List.mem_append_right _ h)
theorem in_r36 : ∀ w ∈ wsL_law_r36, w ∈ wsL_law := fun w h => in_t36 w (List.mem_append_left _ h)
theorem in_t37 : ∀ w ∈ (wsL_law_r37 ++ (wsL_law_r38 ++ (wsL_law_r39 ++ (wsL_law_r40 ++ (wsL_law_r41 ++ (wsL_law_r42 ++ (wsL_law_r43 ++ (wsL_law_r44 ++ (wsL_law_r45 ++ (wsL_law_r46 ++ (wsL_law_r47 ++ (wsL_law_r48 ++ (wsL_law_r49 ++ (wsL_law_r50 ++ (wsL_law_r51 ++ (wsL_law_r52 ++ (wsL_law_r53 ++ (wsL_law_r54 ++ (wsL_law_r55 ++ (wsL_law_r56 ++ (wsL_law_r57 ++ (wsL_law_r58 ++ (wsL_law_r59 ++ (wsL_law_r60 ++ (wsL_law_r61 ++ (wsL_law_r62 ++ (wsL_law_r63 ++ (wsL_law_r64 ++ (wsL_law_r65 ++ (wsL_law_r66 ++ (wsL_law_r67 ++ wsL_law_r68))))))))))))))))))))))))))))))), w ∈ wsL_law := fun w h => in_t36 w (List.mem_append_right _ h)
theorem in_r37 : ∀ w ∈ wsL_law_r37, w ∈ wsL_law := fun w h => in_t37 w (List.mem_append_left _ h)
theorem in_t38 : ∀ w ∈ (wsL_law_r38 ++ (wsL_law_r39 ++ (wsL_law_r40 ++ (wsL_law_r41 ++ (wsL_law_r42 ++ (wsL_law_r43 ++ (wsL_law_r44 ++ (wsL_law_r45 ++ (wsL_law_r46 ++ (wsL_law_r47 ++ (wsL_law_r48 ++ (wsL_law_r49 ++ (wsL_law_r50 ++ (wsL_law_r51 ++ (wsL_law_r52 ++ (wsL_law_r53 ++ (wsL_law_r54 ++ (wsL_law_r55 ++ (wsL_law_r56 ++ (wsL_law_r57 ++ (wsL_law_r58 ++ (wsL_law_r59 ++ (wsL_law_r60 ++ (wsL_law_r61 ++ (wsL_law_r62 ++ (wsL_law_r63 ++ (wsL_law_r64 ++ (wsL_law_r65 ++ (wsL_law_r66 ++ (wsL_law_r67 ++ wsL_law_r68)))))))))))))))))))))))))))))), w ∈ wsL_law := fun w h => in_t37 w (List.mem_append_right _ h)
theorem in_r38 : ∀ w ∈ wsL_law_r38, w ∈ wsL_law := fun w h => in_t38 w (List.mem_append_left _ h)
theorem in_t39 : ∀ w ∈ (wsL_law_r39 ++ (wsL_law_r40 ++ (wsL_law_r41 ++ (wsL_law_r42 ++ (wsL_law_r43 ++ (wsL_law_r44 ++ (wsL_law_r45 ++ (wsL_law_r46 ++ (wsL_law_r47 ++ (wsL_law_r48 ++ (wsL_law_r49 ++ (wsL_law_r50 ++ (wsL_law_r51 ++ (wsL_law_r52 ++ (wsL_law_r53 ++ (wsL_law_r54 ++ (wsL_law_r55 ++ (wsL_law_r56 ++ (wsL_law_r57 ++ (wsL_law_r58 ++ (wsL_law_r59 ++ (wsL_law_r60 ++ (wsL_law_r61 ++ (wsL_law_r62 ++ (wsL_law_r63 ++ (wsL_law_r64 ++ (wsL_law_r65 ++ (wsL_law_r66 ++ (wsL_law_r67 ++ wsL_law_r68))))))))))))))))))))))))))))), w ∈ wsL_law := fun w h => in_t38 w (List.mem_append_right _ h)
theorem in_r39 : ∀ w ∈ wsL_law_r39, w ∈ wsL_law := fun w h => in_t39 w (List.mem_append_left _ h)
theorem in_t40 : ∀ w ∈ (wsL_law_r40 ++ (wsL_law_r41 ++ (wsL_law_r42 ++ (wsL_law_r43 ++ (wsL_law_r44 ++ (wsL_law_r45 ++ (wsL_law_r46 ++ (wsL_law_r47 ++ (wsL_law_r48 ++ (wsL_law_r49 ++ (wsL_law_r50 ++ (wsL_law_r51 ++ (wsL_law_r52 ++ (wsL_law_r53 ++ (wsL_law_r54 ++ (wsL_law_r55 ++ (wsL_law_r56 ++ (wsL_law_r57 ++ (wsL_law_r58 ++ (wsL_law_r59 ++ (wsL_law_r60 ++ (wsL_law_r61 ++ (wsL_law_r62 ++ (wsL_law_r63 ++ (wsL_law_r64 ++ (wsL_law_r65 ++ (wsL_law_r66 ++ (wsL_law_r67 ++ wsL_law_r68)))))))))))))))))))))))))))), w ∈ wsL_law := fun w h => in_t39 w (List.mem_append_right _ h)
theorem in_r40 : ∀ w ∈ wsL_law_r40, w ∈ wsL_law := fun w h => in_t40 w (List.mem_append_left _ h)
theorem in_t41 : ∀ w ∈ (wsL_law_r41 ++ (wsL_law_r42 ++ (wsL_law_r43 ++ (wsL_law_r44 ++ (wsL_law_r45 ++ (wsL_law_r46 ++ (wsL_law_r47 ++ (wsL_law_r48 ++ (wsL_law_r49 ++ (wsL_law_r50 ++ (wsL_law_r51 ++ (wsL_law_r52 ++ (wsL_law_r53 ++ (wsL_law_r54 ++ (wsL_law_r55 ++ (wsL_law_r56 ++ (wsL_law_r57 ++ (wsL_law_r58 ++ (wsL_law_r59 ++ (wsL_law_r60 ++ (wsL_law_r61 ++ (wsL_law_r62 ++ (wsL_law_r63 ++ (wsL_law_r64 ++ (wsL_law_r65 ++ (wsL_law_r66 ++ (wsL_law_r67 ++ wsL_law_r68))))))))))))))))))))))))))), w ∈ wsL_law := fun w h => in_t40 w (List.mem_append_right _ h)
theorem in_r41 : ∀ w ∈ wsL_law_r41, w ∈ wsL_law := fun w h => in_t41 w (List.mem_append_left _ h)
theorem in_t42 : ∀ w ∈ (wsL_law_r42 ++ (wsL_law_r43 ++ (wsL_law_r44 ++ (wsL_law_r45 ++ (wsL_law_r46 ++ (wsL_law_r47 ++ (wsL_law_r48 ++ (wsL_law_r49 ++ (wsL_law_r50 ++ (wsL_law_r51 ++ (wsL_law_r52 ++ (wsL_law_r53 ++ (wsL_law_r54 ++ (wsL_law_r55 ++ (wsL_law_r56 ++ (wsL_law_r57 ++ (wsL_law_r58 ++ (wsL_law_r59 ++ (wsL_law_r60 ++ (wsL_law_r61 ++ (wsL_law_r62 ++ (wsL_law_r63 ++ (wsL_law_r64 ++ (wsL_law_r65 ++ (wsL_law_r66 ++ (wsL_law_r67 ++ wsL_law_r68)))))))))))))))))))))))))), w ∈ wsL_law := fun w h => in_t41 w (List.mem_append_right _ h)
theorem in_r42 : ∀ w ∈ wsL_law_r42, w ∈ wsL_law := fun w h => in_t42 w (List.mem_append_left _ h)
theorem in_t43 : ∀ w ∈ (wsL_law_r43 ++ (wsL_law_r44 ++ (wsL_law_r45 ++ (wsL_law_r46 ++ (wsL_law_r47 ++ (wsL_law_r48 ++ (wsL_law_r49 ++ (wsL_law_r50 ++ (wsL_law_r51 ++ (wsL_law_r52 ++ (wsL_law_r53 ++ (wsL_law_r54 ++ (wsL_law_r55 ++ (wsL_law_r56 ++ (wsL_law_r57 ++ (wsL_law_r58 ++ (wsL_law_r59 ++ (wsL_law_r60 ++ (wsL_law_r61 ++ (wsL_law_r62 ++ (wsL_law_r63 ++ (wsL_law_r64 ++ (wsL_law_r65 ++ (wsL_law_r66 ++ (wsL_law_r67 ++ wsL_law_r68))))))))))))))))))))))))), w ∈ wsL_law := fun w h => in_t42 w (List.mem_append_right _ h)
theorem in_r43 : ∀ w ∈ wsL_law_r43, w ∈ wsL_law := fun w h => in_t43 w (List.mem_append_left _ h)
theorem in_t44 : ∀ w ∈ (wsL_law_r44 ++ (wsL_law_r45 ++ (wsL_law_r46 ++ (wsL_law_r47 ++ (wsL_law_r48 ++ (wsL_law_r49 ++ (wsL_law_r50 ++ (wsL_law_r51 ++ (wsL_law_r52 ++ (wsL_law_r53 ++ (wsL_law_r54 ++ (wsL_law_r55 ++ (wsL_law_r56 ++ (wsL_law_r57 ++ (wsL_law_r58 ++ (wsL_law_r59 ++ (wsL_law_r60 ++ (wsL_law_r61 ++ (wsL_law_r62 ++ (wsL_law_r63 ++ (wsL_law_r64 ++ (wsL_law_r65 ++ (wsL_law_r66 ++ (wsL_law_r67 ++ wsL_law_r68)))))))))))))))))))))))), w ∈ wsL_law := fun w h => in_t43 w (List.mem_append_right _ h)
theorem in_r44 : ∀ w ∈ wsL_law_r44, w ∈ wsL_law := fun w h => in_t44 w (List.mem_append_left _ h)
theorem in_t45 : ∀ w ∈ (wsL_law_r45 ++ (wsL_law_r46 ++ (wsL_law_r47 ++ (wsL_law_r48 ++ (wsL_law_r49 ++ (wsL_law_r50 ++ (wsL_law_r51 ++ (wsL_law_r52 ++ (wsL_law_r53 ++ (wsL_law_r54 ++ (wsL_law_r55 ++ (wsL_law_r56 ++ (wsL_law_r57 ++ (wsL_law_r58 ++ (wsL_law_r59 ++ (wsL_law_r60 ++ (wsL_law_r61 ++ (wsL_law_r62 ++ (wsL_law_r63 ++ (wsL_law_r64 ++ (wsL_law_r65 ++ (wsL_law_r66 ++ (wsL_law_r67 ++ wsL_law_r68))))))))))))))))))))))), w ∈ wsL_law := fun w h => in_t44 w (List.mem_append_right _ h)
theorem in_r45 : ∀ w ∈ wsL_law_r45, w ∈ wsL_law := fun w h => in_t45 w (List.mem_append_left _ h)
theorem in_t46 : ∀ w ∈ (wsL_law_r46 ++ (wsL_law_r47 ++ (wsL_law_r48 ++ (wsL_law_r49 ++ (wsL_law_r50 ++ (wsL_law_r51 ++ (wsL_law_r52 ++ (wsL_law_r53 ++ (wsL_law_r54 ++ (wsL_law_r55 ++ (wsL_law_r56 ++ (wsL_law_r57 ++ (wsL_law_r58 ++ (wsL_law_r59 ++ (wsL_law_r60 ++ (wsL_law_r61 ++ (wsL_law_r62 ++ (wsL_law_r63 ++ (wsL_law_r64 ++ (wsL_law_r65 ++ (wsL_law_r66 ++ (wsL_law_r67 ++ wsL_law_r68)))))))))))))))))))))), w ∈ wsL_law := fun w h => in_t45 w (List.mem_append_right _ h)
theorem in_r46 : ∀ w ∈ wsL_law_r46, w ∈ wsL_law := fun w h => in_t46 w (List.mem_append_left _ h)
theorem in_t47 : ∀ w ∈ (wsL_law_r47 ++ (wsL_law_r48 ++ (wsL_law_r49 ++ (wsL_law_r50 ++ (wsL_law_r51 ++ (wsL_law_r52 ++ (wsL_law_r53 ++ (wsL_law_r54 ++ (wsL_law_r55 ++ (wsL_law_r56 ++ (wsL_law_r57 ++ (wsL_law_r58 ++ (wsL_law_r59 ++ (wsL_law_r60 ++ (wsL_law_r61 ++ (wsL_law_r62 ++ (wsL_law_r63 ++ (wsL_law_r64 ++ (wsL_law_r65 ++ (wsL_law_r66 ++ (wsL_law_r67 ++ wsL_law_r68))))))))))))))))))))), w ∈ wsL_law := fun w h => in_t46 w (List.mem_append_right _ h)
theorem in_r47 : ∀ w ∈ wsL_law_r47, w ∈ wsL_law := fun w h => in_t47 w (List.mem_append_left _ h)
theorem in_t48 : ∀ w ∈ (wsL_law_r48 ++ (wsL_law_r49 ++ (wsL_law_r50 ++ (wsL_law_r51 ++ (wsL_law_r52 ++ (wsL_law_r53 ++ (wsL_law_r54 ++ (wsL_law_r55 ++ (wsL_law_r56 ++ (wsL_law_r57 ++ (wsL_law_r58 ++ (wsL_law_r59 ++ (wsL_law_r60 ++ (wsL_law_r61 ++ (wsL_law_r62 ++ (wsL_law_r63 ++ (wsL_law_r64 ++ (wsL_law_r65 ++ (wsL_law_r66 ++ (wsL_law_r67 ++ wsL_law_r68)))))))))))))))))))), w ∈ wsL_law := fun w h => in_t47 w (List.mem_append_right _ h)
theorem in_r48 : ∀ w ∈ wsL_law_r48, w ∈ wsL_law := fun w h => in_t48 w (List.mem_append_left _ h)
theorem in_t49 : ∀ w ∈ (wsL_law_r49 ++ (wsL_law_r50 ++ (wsL_law_r51 ++ (wsL_law_r52 ++ (wsL_law_r53 ++ (wsL_law_r54 ++ (wsL_law_r55 ++ (wsL_law_r56 ++ (wsL_law_r57 ++ (wsL_law_r58 ++ (wsL_law_r59 ++ (wsL_law_r60 ++ (wsL_law_r61 ++ (wsL_law_r62 ++ (wsL_law_r63 ++ (wsL_law_r64 ++ (wsL_law_r65 ++ (wsL_law_r66 ++ (wsL_law_r67 ++ wsL_law_r68))))))))))))))))))), w ∈ wsL_law := fun w h => in_t48 w (List.mem_append_right _ h)
theorem in_r49 : ∀ w ∈ wsL_law_r49, w ∈ wsL_law := fun w h => in_t49 w (List.mem_append_left _ h)
theorem in_t50 : ∀ w ∈ (wsL_law_r50 ++ (wsL_law_r51 ++ (wsL_law_r52 ++ (wsL_law_r53 ++ (wsL_law_r54 ++ (wsL_law_r55 ++ (wsL_law_r56 ++ (wsL_law_r57 ++ (wsL_law_r58 ++ (wsL_law_r59 ++ (wsL_law_r60 ++ (wsL_law_r61 ++ (wsL_law_r62 ++ (wsL_law_r63 ++ (wsL_law_r64 ++ (wsL_law_r65 ++ (wsL_law_r66 ++ (wsL_law_r67 ++ wsL_law_r68)))))))))))))))))), w ∈ wsL_law := fun w h => in_t49 w (List.mem_append_right _ h)
theorem in_r50 : ∀ w ∈ wsL_law_r50, w ∈ wsL_law := fun w h => in_t50 w (List.mem_append_left _ h)
theorem in_t51 : ∀ w ∈ (wsL_law_r51 ++ (wsL_law_r52 ++ (wsL_law_r53 ++ (wsL_law_r54 ++ (wsL_law_r55 ++ (wsL_law_r56 ++ (wsL_law_r57 ++ (wsL_law_r58 ++ (wsL_law_r59 ++ (wsL_law_r60 ++ (wsL_law_r61 ++ (wsL_law_r62 ++ (wsL_law_r63 ++ (wsL_law_r64 ++ (wsL_law_r65 ++ (wsL_law_r66 ++ (wsL_law_r67 ++ wsL_law_r68))))))))))))))))), w ∈ wsL_law := fun w h => in_t50 w (List.mem_append_right _ h)
theorem in_r51 : ∀ w ∈ wsL_law_r51, w ∈ wsL_law := fun w h => in_t51 w (List.mem_append_left _ h)
theorem in_t52 : ∀ w ∈ (wsL_law_r52 ++ (wsL_law_r53 ++ (wsL_law_r54 ++ (wsL_law_r55 ++ (wsL_law_r56 ++ (wsL_law_r57 ++ (wsL_law_r58 ++ (wsL_law_r59 ++ (wsL_law_r60 ++ (wsL_law_r61 ++ (wsL_law_r62 ++ (wsL_law_r63 ++ (wsL_law_r64 ++ (wsL_law_r65 ++ (wsL_law_r66 ++ (wsL_law_r67 ++ wsL_law_r68)))))))))))))))), w ∈ wsL_law := fun w h => in_t51 w (List.mem_append_right _ h)
theorem in_r52 : ∀ w ∈ wsL_law_r52, w ∈ wsL_law := fun w h => in_t52 w (List.mem_append_left _ h)
theorem in_t53 : ∀ w ∈ (wsL_law_r53 ++ (wsL_law_r54 ++ (wsL_law_r55 ++ (wsL_law_r56 ++ (wsL_law_r57 ++ (wsL_law_r58 ++ (wsL_law_r59 ++ (wsL_law_r60 ++ (wsL_law_r61 ++ (wsL_law_r62 ++ (wsL_law_r63 ++ (wsL_law_r64 ++ (wsL_law_r65 ++ (wsL_law_r66 ++ (wsL_law_r67 ++ wsL_law_r68))))))))))))))), w ∈ wsL_law := fun w h => in_t52 w (List.mem_append_right _ h)
theorem in_r53 : ∀ w ∈ wsL_law_r53, w ∈ wsL_law := fun w h => in_t53 w (List.mem_append_left _ h)
theorem in_t54 : ∀ w ∈ (wsL_law_r54 ++ (wsL_law_r55 ++ (wsL_law_r56 ++ (wsL_law_r57 ++ (wsL_law_r58 ++ (wsL_law_r59 ++ (wsL_law_r60 ++ (wsL_law_r61 ++ (wsL_law_r62 ++ (wsL_law_r63 ++ (wsL_law_r64 ++ (wsL_law_r65 ++ (wsL_law_r66 ++ (wsL_law_r67 ++ wsL_law_r68)))))))))))))), w ∈ wsL_law := fun w h => in_t53 w (List.mem_append_right _ h)
theorem in_r54 : ∀ w ∈ wsL_law_r54, w ∈ wsL_law := fun w h => in_t54 w (List.mem_append_left _ h)
theorem in_t55 : ∀ w ∈ (wsL_law_r55 ++ (wsL_law_r56 ++ (wsL_law_r57 ++ (wsL_law_r58 ++ (wsL_law_r59 ++ (wsL_law_r60 ++ (wsL_law_r61 ++ (wsL_law_r62 ++ (wsL_law_r63 ++ (wsL_law_r64 ++ (wsL_law_r65 ++ (wsL_law_r66 ++ (wsL_law_r67 ++ wsL_law_r68))))))))))))), w ∈ wsL_law := fun w h => in_t54 w (List.mem_append_right _ h)
theorem in_r55 : ∀ w ∈ wsL_law_r55, w ∈ wsL_law := fun w h => in_t55 w (List.mem_append_left _ h)
theorem in_t56 : ∀ w ∈ (wsL_law_r56 ++ (wsL_law_r57 ++ (wsL_law_r58 ++ (wsL_law_r59 ++ (wsL_law_r60 ++ (wsL_law_r61 ++ (wsL_law_r62 ++ (wsL_law_r63 ++ (wsL_law_r64 ++ (wsL_law_r65 ++ (wsL_law_r66 ++ (wsL_law_r67 ++ wsL_law_r68)))))))))))), w ∈ wsL_law := fun w h => in_t55 w (List.mem_append_right _ h)
theorem in_r56 : ∀ w ∈ wsL_law_r56, w ∈ wsL_law := fun w h => in_t56 w (List.mem_append_left _ h)
theorem in_t57 : ∀ w ∈ (wsL_law_r57 ++ (wsL_law_r58 ++ (wsL_law_r59 ++ (wsL_law_r60 ++ (wsL_law_r61 ++ (wsL_law_r62 ++ (wsL_law_r63 ++ (wsL_law_r64 ++ (wsL_law_r65 ++ (wsL_law_r66 ++ (wsL_law_r67 ++ wsL_law_r68))))))))))), w ∈ wsL_law := fun w h => in_t56 w (List.mem_append_right _ h)
theorem in_r57 : ∀ w ∈ wsL_law_r57, w ∈ wsL_law := fun w h => in_t57 w (List.mem_append_left _ h)
theorem in_t58 : ∀ w ∈ (wsL_law_r58 ++ (wsL_law_r59 ++ (wsL_law_r60 ++ (wsL_law_r61 ++ (wsL_law_r62 ++ (wsL_law_r63 ++ (wsL_law_r64 ++ (wsL_law_r65 ++ (wsL_law_r66 ++ (wsL_law_r67 ++ wsL_law_r68)))))))))), w ∈ wsL_law := fun w h => in_t57 w (List.mem_append_right _ h)
theorem in_r58 : ∀ w ∈ wsL_law_r58, w ∈ wsL_law := fun w h => in_t58 w (List.mem_append_left _ h)
theorem in_t59 : ∀ w ∈ (wsL_law_r59 ++ (wsL_law_r60 ++ (wsL_law_r61 ++ (wsL_law_r62 ++ (wsL_law_r63 ++ (wsL_law_r64 ++ (wsL_law_r65 ++ (wsL_law_r66 ++ (wsL_law_r67 ++ wsL_law_r68))))))))), w ∈ wsL_law := fun w h => in_t58 w (List.mem_append_right _ h)
theorem in_r59 : ∀ w ∈ wsL_law_r59, w ∈ wsL_law := fun w h => in_t59 w (List.mem_append_left _ h)
theorem in_t60 : ∀ w ∈ (wsL_law_r60 ++ (wsL_law_r61 ++ (wsL_law_r62 ++ (wsL_law_r63 ++ (wsL_law_r64 ++ (wsL_law_r65 ++ (wsL_law_r66 ++ (wsL_law_r67 ++ wsL_law_r68)))))))), w ∈ wsL_law := fun w h => in_t59 w (List.mem_append_right _ h)
theorem in_r60 : ∀ w ∈ wsL_law_r60, w ∈ wsL_law := fun w h => in_t60 w (List.mem_append_left _ h)
theorem in_t61 : ∀ w ∈ (wsL_law_r61 ++ (wsL_law_r62 ++ (wsL_law_r63 ++ (wsL_law_r64 ++ (wsL_law_r65 ++ (wsL_law_r66 ++ (wsL_law_r67 ++ wsL_law_r68))))))), w ∈ wsL_law := fun w h => in_t60 w (List.mem_append_right _ h)
theorem in_r61 : ∀ w ∈ wsL_law_r61, w ∈ wsL_law := fun w h => in_t61 w (List.mem_append_left _ h)
theorem in_t62 : ∀ w ∈ (wsL_law_r62 ++ (wsL_law_r63 ++ (wsL_law_r64 ++ (wsL_law_r65 ++ (wsL_law_r66 ++ (wsL_law_r67 ++ wsL_law_r68)))))), w ∈ wsL_law := fun w h => in_t61 w (List.mem_append_right _ h)
theorem in_r62 : ∀ w ∈ wsL_law_r62, w ∈ wsL_law := fun w h => in_t62 w (List.mem_append_left _ h)
theorem in_t63 : ∀ w ∈ (wsL_law_r63 ++ (wsL_law_r64 ++ (wsL_law_r65 ++ (wsL_law_r66 ++ (wsL_law_r67 ++ wsL_law_r68))))), w ∈ wsL_law := fun w h => in_t62 w (List.mem_append_right _ h)
theorem in_r63 : ∀ w ∈ wsL_law_r63, w ∈ wsL_law := fun w h => in_t63 w (List.mem_append_left _ h)
theorem in_t64 : ∀ w ∈ (wsL_law_r64 ++ (wsL_law_r65 ++ (wsL_law_r66 ++ (wsL_law_r67 ++ wsL_law_r68)))), w ∈ wsL_law := fun w h => in_t63 w (List.mem_append_right _ h)
theorem in_r64 : ∀ w ∈ wsL_law_r64, w ∈ wsL_law := fun w h => in_t64 w (List.mem_append_left _ h)
theorem in_t65 : ∀ w ∈ (wsL_law_r65 ++ (wsL_law_r66 ++ (wsL_law_r67 ++ wsL_law_r68))), w ∈ wsL_law := fun w h => in_t64 w (List.mem_append_right _ h)
theorem in_r65 : ∀ w ∈ wsL_law_r65, w ∈ wsL_law := fun w h => in_t65 w (List.mem_append_left _ h)
theorem in_t66 : ∀ w ∈ (wsL_law_r66 ++ (wsL_law_r67 ++ wsL_law_r68)), w ∈ wsL_law := fun w h => in_t65 w (List.mem_append_right _ h)
theorem in_r66 : ∀ w ∈ wsL_law_r66, w ∈ wsL_law := fun w h => in_t66 w (List.mem_append_left _ h)
theorem in_t67 : ∀ w ∈ (wsL_law_r67 ++ wsL_law_r68), w ∈ wsL_law := fun w h => in_t66 w (List.mem_append_right _ h)
theorem in_r67 : ∀ w ∈ wsL_law_r67, w ∈ wsL_law := fun w h => in_t67 w (List.mem_append_left _ h)
theorem in_r68 : ∀ w ∈ wsL_law_r68, w ∈ wsL_law := fun w h => in_t67 w (List.mem_append_right _ h)
end
section
theorem kr1_0 : Cond.classLink RL 7 RX11 ∈ wsL_law := in_r1 _ (List.mem_of_getElem? (i := 0) rfl)
theorem kr1_1 : Cond.instantiable RX11 10 ∈ wsL_law := in_r1 _ (List.mem_of_getElem? (i := 1) rfl)
theorem kr1_2 : Cond.initialized RX11 ∈ wsL_law := in_r1 _ (List.mem_of_getElem? (i := 2) rfl)
theorem kr1_3 : Cond.classLink RL 10 RX12 ∈ wsL_law := in_r1 _ (List.mem_of_getElem? (i := 3) rfl)
theorem kr1_4 : Cond.instantiable RX12 42 ∈ wsL_law := in_r1 _ (List.mem_of_getElem? (i := 4) rfl)
theorem kr1_5 : Cond.initialized RX12 ∈ wsL_law := in_r1 _ (List.mem_of_getElem? (i := 5) rfl)
theorem kr1_6 : Cond.constantLong RL 205 (4294967295) ∈ wsL_law := in_r1 _ (List.mem_of_getElem? (i := 6) rfl)
theorem kr1_7 : Cond.methodLink RL 9 yX11_init ∈ wsL_law := in_r1 _ (List.mem_of_getElem? (i := 7) rfl)
theorem kr1_8 : Cond.instanceMethod yX11_init ∈ wsL_law := in_r1 _ (List.mem_of_getElem? (i := 8) rfl)
theorem kr1_9 : Cond.code yX11_init cX11_init 2 none ∈ wsL_law := in_r1 _ (List.mem_of_getElem? (i := 9) rfl)
theorem kr1_10 : Cond.methodLink RX11 1 objectInit ∈ wsL_law := in_r1 _ (List.mem_of_getElem? (i := 10) rfl)
theorem kr1_11 : Cond.instanceMethod objectInit ∈ wsL_law := in_r1 _ (List.mem_of_getElem? (i := 11) rfl)
theorem kr1_12 : Cond.code objectInit ⟨#[0xb1]⟩ 1 none ∈ wsL_law := in_r1 _ (List.mem_of_getElem? (i := 12) rfl)
theorem kr1_13 : Cond.classLink RX11 7 RX10 ∈ wsL_law := in_r1 _ (List.mem_of_getElem? (i := 13) rfl)
theorem kr1_14 : Cond.instantiable RX10 8 ∈ wsL_law := in_r1 _ (List.mem_of_getElem? (i := 14) rfl)
theorem kr1_15 : Cond.initialized RX10 ∈ wsL_law := in_r1 _ (List.mem_of_getElem? (i := 15) rfl)
theorem kr1_16 : Cond.fieldLink RX11 10 "NoseDrum" "tape" "LNoseDrum$Tape;" ∈ wsL_law := in_r1 _ (List.mem_of_getElem? (i := 16) rfl)
theorem kr1_17 : Cond.classLink RX11 16 RX5 ∈ wsL_law := in_r1 _ (List.mem_of_getElem? (i := 17) rfl)
theorem kr1_18 : Cond.instantiable RX5 11 ∈ wsL_law := in_r1 _ (List.mem_of_getElem? (i := 18) rfl)
theorem kr1_19 : Cond.initialized RX5 ∈ wsL_law := in_r1 _ (List.mem_of_getElem? (i := 19) rfl)
theorem kr1_20 : Cond.fieldLink RX11 19 "NoseDrum" "program" "LNoseDrum$Program;" ∈ wsL_law := in_r1 _ (List.mem_of_getElem? (i := 20) rfl)
theorem kr1_21 : Cond.classLink RX11 23 RX0 ∈ wsL_law := in_r1 _ (List.mem_of_getElem? (i := 21) rfl)
theorem kr1_22 : Cond.instantiable RX0 7 ∈ wsL_law := in_r1 _ (List.mem_of_getElem? (i := 22) rfl)
theorem kr1_23 : Cond.initialized RX0 ∈ wsL_law := in_r1 _ (List.mem_of_getElem? (i := 23) rfl)
theorem kr2_0 : Cond.fieldLink RX11 26 "NoseDrum" "curves" "LNoseDrum$Curves;" ∈ wsL_law := in_r2 _ (List.mem_of_getElem? (i := 0) rfl)
theorem kr2_1 : Cond.classLink RX11 30 RX9 ∈ wsL_law := in_r2 _ (List.mem_of_getElem? (i := 1) rfl)
theorem kr2_2 : Cond.instantiable RX9 5 ∈ wsL_law := in_r2 _ (List.mem_of_getElem? (i := 2) rfl)
theorem kr2_3 : Cond.initialized RX9 ∈ wsL_law := in_r2 _ (List.mem_of_getElem? (i := 3) rfl)
theorem kr2_4 : Cond.fieldLink RX11 33 "NoseDrum" "suspects" "LNoseDrum$Suspects;" ∈ wsL_law := in_r2 _ (List.mem_of_getElem? (i := 4) rfl)
theorem kr2_5 : Cond.classLink RX11 37 RX8 ∈ wsL_law := in_r2 _ (List.mem_of_getElem? (i := 5) rfl)
theorem kr2_6 : Cond.instantiable RX8 4 ∈ wsL_law := in_r2 _ (List.mem_of_getElem? (i := 6) rfl)
theorem kr2_7 : Cond.initialized RX8 ∈ wsL_law := in_r2 _ (List.mem_of_getElem? (i := 7) rfl)
theorem kr2_8 : Cond.fieldLink RX11 40 "NoseDrum" "slots" "LNoseDrum$Slots;" ∈ wsL_law := in_r2 _ (List.mem_of_getElem? (i := 8) rfl)
theorem kr2_9 : Cond.classLink RX11 44 RX6 ∈ wsL_law := in_r2 _ (List.mem_of_getElem? (i := 9) rfl)
theorem kr2_10 : Cond.instantiable RX6 4 ∈ wsL_law := in_r2 _ (List.mem_of_getElem? (i := 10) rfl)
theorem kr2_11 : Cond.initialized RX6 ∈ wsL_law := in_r2 _ (List.mem_of_getElem? (i := 11) rfl)
theorem kr2_12 : Cond.fieldLink RX11 47 "NoseDrum" "room" "LNoseDrum$Room;" ∈ wsL_law := in_r2 _ (List.mem_of_getElem? (i := 12) rfl)
theorem kr2_13 : Cond.classLink RX11 51 RX2 ∈ wsL_law := in_r2 _ (List.mem_of_getElem? (i := 13) rfl)
theorem kr2_14 : Cond.fieldLink RX11 53 "NoseDrum" "images" "[LNoseDrum$Machine;" ∈ wsL_law := in_r2 _ (List.mem_of_getElem? (i := 14) rfl)
theorem kr2_15 : Cond.arrayClass .boolean ∈ wsL_law := in_r2 _ (List.mem_of_getElem? (i := 15) rfl)
theorem kr2_16 : Cond.fieldLink RX11 57 "NoseDrum" "kept" "[Z" ∈ wsL_law := in_r2 _ (List.mem_of_getElem? (i := 16) rfl)
theorem kr2_17 : Cond.instantiable RX2 14 ∈ wsL_law := in_r2 _ (List.mem_of_getElem? (i := 17) rfl)
theorem kr2_18 : Cond.initialized RX2 ∈ wsL_law := in_r2 _ (List.mem_of_getElem? (i := 18) rfl)
theorem kr2_19 : Cond.fieldLink RX11 62 "NoseDrum" "now" "LNoseDrum$Machine;" ∈ wsL_law := in_r2 _ (List.mem_of_getElem? (i := 19) rfl)
theorem kr2_20 : Cond.fieldLink RX11 66 "NoseDrum" "told" "LNoseDrum$Machine;" ∈ wsL_law := in_r2 _ (List.mem_of_getElem? (i := 20) rfl)
theorem kr2_21 : Cond.instanceMethod yX10_init ∈ wsL_law := in_r2 _ (List.mem_of_getElem? (i := 21) rfl)
theorem kr2_22 : Cond.code yX10_init cX10_init 1 none ∈ wsL_law := in_r2 _ (List.mem_of_getElem? (i := 22) rfl)
theorem kr2_23 : Cond.methodLink RX10 3 objectInit ∈ wsL_law := in_r2 _ (List.mem_of_getElem? (i := 23) rfl)
theorem kr3_0 : Cond.arrayClass .byte ∈ wsL_law := in_r3 _ (List.mem_of_getElem? (i := 0) rfl)
theorem kr3_1 : Cond.fieldLink RX10 11 "NoseDrum$Tape" "bytes" "[B" ∈ wsL_law := in_r3 _ (List.mem_of_getElem? (i := 1) rfl)
theorem kr3_2 : Cond.fieldLink RX10 15 "NoseDrum$Tape" "place" "I" ∈ wsL_law := in_r3 _ (List.mem_of_getElem? (i := 2) rfl)
theorem kr3_3 : Cond.instanceMethod yX5_init ∈ wsL_law := in_r3 _ (List.mem_of_getElem? (i := 3) rfl)
theorem kr3_4 : Cond.code yX5_init cX5_init 1 none ∈ wsL_law := in_r3 _ (List.mem_of_getElem? (i := 4) rfl)
theorem kr3_5 : Cond.methodLink RX5 3 objectInit ∈ wsL_law := in_r3 _ (List.mem_of_getElem? (i := 5) rfl)
theorem kr3_6 : Cond.arrayClass .int ∈ wsL_law := in_r3 _ (List.mem_of_getElem? (i := 6) rfl)
theorem kr3_7 : Cond.fieldLink RX5 11 "NoseDrum$Program" "act" "[I" ∈ wsL_law := in_r3 _ (List.mem_of_getElem? (i := 7) rfl)
theorem kr3_8 : Cond.fieldLink RX5 15 "NoseDrum$Program" "first" "[I" ∈ wsL_law := in_r3 _ (List.mem_of_getElem? (i := 8) rfl)
theorem kr3_9 : Cond.fieldLink RX5 18 "NoseDrum$Program" "second" "[I" ∈ wsL_law := in_r3 _ (List.mem_of_getElem? (i := 9) rfl)
theorem kr3_10 : Cond.fieldLink RX5 21 "NoseDrum$Program" "partner" "[I" ∈ wsL_law := in_r3 _ (List.mem_of_getElem? (i := 10) rfl)
theorem kr3_11 : Cond.fieldLink RX5 24 "NoseDrum$Program" "opened" "[I" ∈ wsL_law := in_r3 _ (List.mem_of_getElem? (i := 11) rfl)
theorem kr3_12 : Cond.fieldLink RX5 27 "NoseDrum$Program" "left" "[I" ∈ wsL_law := in_r3 _ (List.mem_of_getElem? (i := 12) rfl)
theorem kr3_13 : Cond.fieldLink RX5 30 "NoseDrum$Program" "since" "[I" ∈ wsL_law := in_r3 _ (List.mem_of_getElem? (i := 13) rfl)
theorem kr3_14 : Cond.instanceMethod yX0_init ∈ wsL_law := in_r3 _ (List.mem_of_getElem? (i := 14) rfl)
theorem kr3_15 : Cond.code yX0_init cX0_init 1 none ∈ wsL_law := in_r3 _ (List.mem_of_getElem? (i := 15) rfl)
theorem kr3_16 : Cond.methodLink RX0 3 objectInit ∈ wsL_law := in_r3 _ (List.mem_of_getElem? (i := 16) rfl)
theorem kr3_17 : Cond.fieldLink RX0 9 "NoseDrum$Curves" "heights" "[I" ∈ wsL_law := in_r3 _ (List.mem_of_getElem? (i := 17) rfl)
theorem kr3_18 : Cond.fieldLink RX0 15 "NoseDrum$Curves" "worn" "[I" ∈ wsL_law := in_r3 _ (List.mem_of_getElem? (i := 18) rfl)
theorem kr3_19 : Cond.fieldLink RX0 18 "NoseDrum$Curves" "profile" "[I" ∈ wsL_law := in_r3 _ (List.mem_of_getElem? (i := 19) rfl)
theorem kr3_20 : Cond.fieldLink RX0 21 "NoseDrum$Curves" "lift" "[I" ∈ wsL_law := in_r3 _ (List.mem_of_getElem? (i := 20) rfl)
theorem kr3_21 : Cond.fieldLink RX0 24 "NoseDrum$Curves" "pos" "[I" ∈ wsL_law := in_r3 _ (List.mem_of_getElem? (i := 21) rfl)
theorem kr3_22 : Cond.fieldLink RX0 27 "NoseDrum$Curves" "clicks" "[I" ∈ wsL_law := in_r3 _ (List.mem_of_getElem? (i := 22) rfl)
theorem kr3_23 : Cond.classLink RX0 30 "[[I" ∈ wsL_law := in_r3 _ (List.mem_of_getElem? (i := 23) rfl)
theorem kr4_0 : Cond.fieldLink RX0 32 "NoseDrum$Curves" "lifts" "[[I" ∈ wsL_law := in_r4 _ (List.mem_of_getElem? (i := 0) rfl)
theorem kr4_1 : Cond.instanceMethod yX9_init ∈ wsL_law := in_r4 _ (List.mem_of_getElem? (i := 1) rfl)
theorem kr4_2 : Cond.code yX9_init cX9_init 1 none ∈ wsL_law := in_r4 _ (List.mem_of_getElem? (i := 2) rfl)
theorem kr4_3 : Cond.methodLink RX9 1 objectInit ∈ wsL_law := in_r4 _ (List.mem_of_getElem? (i := 3) rfl)
theorem kr4_4 : Cond.instanceMethod yX8_init ∈ wsL_law := in_r4 _ (List.mem_of_getElem? (i := 4) rfl)
theorem kr4_5 : Cond.code yX8_init cX8_init 1 none ∈ wsL_law := in_r4 _ (List.mem_of_getElem? (i := 5) rfl)
theorem kr4_6 : Cond.methodLink RX8 3 objectInit ∈ wsL_law := in_r4 _ (List.mem_of_getElem? (i := 6) rfl)
theorem kr4_7 : Cond.fieldLink RX8 9 "NoseDrum$Slots" "width" "[I" ∈ wsL_law := in_r4 _ (List.mem_of_getElem? (i := 7) rfl)
theorem kr4_8 : Cond.fieldLink RX8 15 "NoseDrum$Slots" "length" "[I" ∈ wsL_law := in_r4 _ (List.mem_of_getElem? (i := 8) rfl)
theorem kr4_9 : Cond.fieldLink RX8 18 "NoseDrum$Slots" "made" "[Z" ∈ wsL_law := in_r4 _ (List.mem_of_getElem? (i := 9) rfl)
theorem kr4_10 : Cond.arrayClass .long ∈ wsL_law := in_r4 _ (List.mem_of_getElem? (i := 10) rfl)
theorem kr4_11 : Cond.fieldLink RX8 22 "NoseDrum$Slots" "numbers" "[J" ∈ wsL_law := in_r4 _ (List.mem_of_getElem? (i := 11) rfl)
theorem kr4_12 : Cond.instanceMethod yX6_init ∈ wsL_law := in_r4 _ (List.mem_of_getElem? (i := 12) rfl)
theorem kr4_13 : Cond.code yX6_init cX6_init 1 none ∈ wsL_law := in_r4 _ (List.mem_of_getElem? (i := 13) rfl)
theorem kr4_14 : Cond.methodLink RX6 1 objectInit ∈ wsL_law := in_r4 _ (List.mem_of_getElem? (i := 14) rfl)
theorem kr4_15 : Cond.fieldLink RX6 9 "NoseDrum$Room" "size" "[I" ∈ wsL_law := in_r4 _ (List.mem_of_getElem? (i := 15) rfl)
theorem kr4_16 : Cond.fieldLink RX6 13 "NoseDrum$Room" "track" "[I" ∈ wsL_law := in_r4 _ (List.mem_of_getElem? (i := 16) rfl)
theorem kr4_17 : Cond.fieldLink RX6 16 "NoseDrum$Room" "load" "[I" ∈ wsL_law := in_r4 _ (List.mem_of_getElem? (i := 17) rfl)
theorem kr4_18 : Cond.instanceMethod yX2_init ∈ wsL_law := in_r4 _ (List.mem_of_getElem? (i := 18) rfl)
theorem kr4_19 : Cond.code yX2_init cX2_init 1 none ∈ wsL_law := in_r4 _ (List.mem_of_getElem? (i := 19) rfl)
theorem kr4_20 : Cond.methodLink RX2 3 objectInit ∈ wsL_law := in_r4 _ (List.mem_of_getElem? (i := 20) rfl)
theorem kr4_21 : Cond.classLink RX2 9 RX3 ∈ wsL_law := in_r4 _ (List.mem_of_getElem? (i := 21) rfl)
theorem kr4_22 : Cond.instantiable RX3 8 ∈ wsL_law := in_r4 _ (List.mem_of_getElem? (i := 22) rfl)
theorem kr4_23 : Cond.initialized RX3 ∈ wsL_law := in_r4 _ (List.mem_of_getElem? (i := 23) rfl)
theorem kr5_0 : Cond.fieldLink RX2 12 "NoseDrum$Machine" "noses" "LNoseDrum$Noses;" ∈ wsL_law := in_r5 _ (List.mem_of_getElem? (i := 0) rfl)
theorem kr5_1 : Cond.classLink RX2 18 RX1 ∈ wsL_law := in_r5 _ (List.mem_of_getElem? (i := 1) rfl)
theorem kr5_2 : Cond.instantiable RX1 10 ∈ wsL_law := in_r5 _ (List.mem_of_getElem? (i := 2) rfl)
theorem kr5_3 : Cond.initialized RX1 ∈ wsL_law := in_r5 _ (List.mem_of_getElem? (i := 3) rfl)
theorem kr5_4 : Cond.fieldLink RX2 21 "NoseDrum$Machine" "followers" "LNoseDrum$Followers;" ∈ wsL_law := in_r5 _ (List.mem_of_getElem? (i := 4) rfl)
theorem kr5_5 : Cond.classLink RX2 25 RX4 ∈ wsL_law := in_r5 _ (List.mem_of_getElem? (i := 5) rfl)
theorem kr5_6 : Cond.instantiable RX4 5 ∈ wsL_law := in_r5 _ (List.mem_of_getElem? (i := 6) rfl)
theorem kr5_7 : Cond.initialized RX4 ∈ wsL_law := in_r5 _ (List.mem_of_getElem? (i := 7) rfl)
theorem kr5_8 : Cond.fieldLink RX2 28 "NoseDrum$Machine" "pawls" "LNoseDrum$Pawls;" ∈ wsL_law := in_r5 _ (List.mem_of_getElem? (i := 8) rfl)
theorem kr5_9 : Cond.classLink RX2 32 RX7 ∈ wsL_law := in_r5 _ (List.mem_of_getElem? (i := 9) rfl)
theorem kr5_10 : Cond.instantiable RX7 8 ∈ wsL_law := in_r5 _ (List.mem_of_getElem? (i := 10) rfl)
theorem kr5_11 : Cond.initialized RX7 ∈ wsL_law := in_r5 _ (List.mem_of_getElem? (i := 11) rfl)
theorem kr5_12 : Cond.fieldLink RX2 35 "NoseDrum$Machine" "shaft" "LNoseDrum$Shaft;" ∈ wsL_law := in_r5 _ (List.mem_of_getElem? (i := 12) rfl)
theorem kr5_13 : Cond.fieldLink RX2 39 "NoseDrum$Machine" "row" "[I" ∈ wsL_law := in_r5 _ (List.mem_of_getElem? (i := 13) rfl)
theorem kr5_14 : Cond.instanceMethod yX3_init ∈ wsL_law := in_r5 _ (List.mem_of_getElem? (i := 14) rfl)
theorem kr5_15 : Cond.code yX3_init cX3_init 1 none ∈ wsL_law := in_r5 _ (List.mem_of_getElem? (i := 15) rfl)
theorem kr5_16 : Cond.methodLink RX3 3 objectInit ∈ wsL_law := in_r5 _ (List.mem_of_getElem? (i := 16) rfl)
theorem kr5_17 : Cond.fieldLink RX3 9 "NoseDrum$Noses" "track" "[I" ∈ wsL_law := in_r5 _ (List.mem_of_getElem? (i := 17) rfl)
theorem kr5_18 : Cond.fieldLink RX3 15 "NoseDrum$Noses" "at" "[I" ∈ wsL_law := in_r5 _ (List.mem_of_getElem? (i := 18) rfl)
theorem kr5_19 : Cond.fieldLink RX3 18 "NoseDrum$Noses" "wide" "[I" ∈ wsL_law := in_r5 _ (List.mem_of_getElem? (i := 19) rfl)
theorem kr5_20 : Cond.fieldLink RX3 21 "NoseDrum$Noses" "high" "[I" ∈ wsL_law := in_r5 _ (List.mem_of_getElem? (i := 20) rfl)
theorem kr5_21 : Cond.fieldLink RX3 24 "NoseDrum$Noses" "steep" "[I" ∈ wsL_law := in_r5 _ (List.mem_of_getElem? (i := 21) rfl)
theorem kr5_22 : Cond.fieldLink RX3 27 "NoseDrum$Noses" "worn" "[I" ∈ wsL_law := in_r5 _ (List.mem_of_getElem? (i := 22) rfl)
theorem kr5_23 : Cond.fieldLink RX3 30 "NoseDrum$Noses" "broken" "[Z" ∈ wsL_law := in_r5 _ (List.mem_of_getElem? (i := 23) rfl)
theorem kr6_0 : Cond.instanceMethod yX1_init ∈ wsL_law := in_r6 _ (List.mem_of_getElem? (i := 0) rfl)
theorem kr6_1 : Cond.code yX1_init cX1_init 1 none ∈ wsL_law := in_r6 _ (List.mem_of_getElem? (i := 1) rfl)
theorem kr6_2 : Cond.methodLink RX1 3 objectInit ∈ wsL_law := in_r6 _ (List.mem_of_getElem? (i := 2) rfl)
theorem kr6_3 : Cond.fieldLink RX1 9 "NoseDrum$Followers" "sort" "[I" ∈ wsL_law := in_r6 _ (List.mem_of_getElem? (i := 3) rfl)
theorem kr6_4 : Cond.fieldLink RX1 15 "NoseDrum$Followers" "on" "[I" ∈ wsL_law := in_r6 _ (List.mem_of_getElem? (i := 4) rfl)
theorem kr6_5 : Cond.fieldLink RX1 18 "NoseDrum$Followers" "first" "[I" ∈ wsL_law := in_r6 _ (List.mem_of_getElem? (i := 5) rfl)
theorem kr6_6 : Cond.fieldLink RX1 21 "NoseDrum$Followers" "second" "[I" ∈ wsL_law := in_r6 _ (List.mem_of_getElem? (i := 6) rfl)
theorem kr6_7 : Cond.fieldLink RX1 24 "NoseDrum$Followers" "spring" "[I" ∈ wsL_law := in_r6 _ (List.mem_of_getElem? (i := 7) rfl)
theorem kr6_8 : Cond.fieldLink RX1 27 "NoseDrum$Followers" "lag" "[I" ∈ wsL_law := in_r6 _ (List.mem_of_getElem? (i := 8) rfl)
theorem kr6_9 : Cond.fieldLink RX1 30 "NoseDrum$Followers" "pos" "[I" ∈ wsL_law := in_r6 _ (List.mem_of_getElem? (i := 9) rfl)
theorem kr6_10 : Cond.fieldLink RX1 33 "NoseDrum$Followers" "was" "[I" ∈ wsL_law := in_r6 _ (List.mem_of_getElem? (i := 10) rfl)
theorem kr6_11 : Cond.fieldLink RX1 36 "NoseDrum$Followers" "past" "[I" ∈ wsL_law := in_r6 _ (List.mem_of_getElem? (i := 11) rfl)
theorem kr6_12 : Cond.instanceMethod yX4_init ∈ wsL_law := in_r6 _ (List.mem_of_getElem? (i := 12) rfl)
theorem kr6_13 : Cond.code yX4_init cX4_init 1 none ∈ wsL_law := in_r6 _ (List.mem_of_getElem? (i := 13) rfl)
theorem kr6_14 : Cond.methodLink RX4 3 objectInit ∈ wsL_law := in_r6 _ (List.mem_of_getElem? (i := 14) rfl)
theorem kr6_15 : Cond.fieldLink RX4 9 "NoseDrum$Pawls" "on" "[I" ∈ wsL_law := in_r6 _ (List.mem_of_getElem? (i := 15) rfl)
theorem kr6_16 : Cond.fieldLink RX4 15 "NoseDrum$Pawls" "at" "[I" ∈ wsL_law := in_r6 _ (List.mem_of_getElem? (i := 16) rfl)
theorem kr6_17 : Cond.fieldLink RX4 18 "NoseDrum$Pawls" "teeth" "[I" ∈ wsL_law := in_r6 _ (List.mem_of_getElem? (i := 17) rfl)
theorem kr6_18 : Cond.fieldLink RX4 21 "NoseDrum$Pawls" "tally" "[I" ∈ wsL_law := in_r6 _ (List.mem_of_getElem? (i := 18) rfl)
theorem kr6_19 : Cond.instanceMethod yX7_init ∈ wsL_law := in_r6 _ (List.mem_of_getElem? (i := 19) rfl)
theorem kr6_20 : Cond.code yX7_init cX7_init 1 none ∈ wsL_law := in_r6 _ (List.mem_of_getElem? (i := 20) rfl)
theorem kr6_21 : Cond.methodLink RX7 3 objectInit ∈ wsL_law := in_r6 _ (List.mem_of_getElem? (i := 21) rfl)
theorem kr6_22 : Cond.fieldLink RX7 9 "NoseDrum$Shaft" "jammedBy" "I" ∈ wsL_law := in_r6 _ (List.mem_of_getElem? (i := 22) rfl)
theorem kr6_23 : Cond.methodLink RL 12 yX12_init ∈ wsL_law := in_r6 _ (List.mem_of_getElem? (i := 23) rfl)
theorem kr7_0 : Cond.instanceMethod yX12_init ∈ wsL_law := in_r7 _ (List.mem_of_getElem? (i := 0) rfl)
theorem kr7_1 : Cond.code yX12_init cX12_init 1 none ∈ wsL_law := in_r7 _ (List.mem_of_getElem? (i := 1) rfl)
theorem kr7_2 : Cond.methodLink RX12 7 objectInit ∈ wsL_law := in_r7 _ (List.mem_of_getElem? (i := 2) rfl)
theorem kr7_3 : Cond.fieldLink RX12 13 "NoseDrumModel" "world" "[I" ∈ wsL_law := in_r7 _ (List.mem_of_getElem? (i := 3) rfl)
theorem kr7_4 : Cond.fieldLink RX12 17 "NoseDrumModel" "images" "[I" ∈ wsL_law := in_r7 _ (List.mem_of_getElem? (i := 4) rfl)
theorem kr7_5 : Cond.fieldLink RX12 20 "NoseDrumModel" "hasImage" "[Z" ∈ wsL_law := in_r7 _ (List.mem_of_getElem? (i := 5) rfl)
theorem kr7_6 : Cond.fieldLink RX12 24 "NoseDrumModel" "tape" "[B" ∈ wsL_law := in_r7 _ (List.mem_of_getElem? (i := 6) rfl)
theorem kr7_7 : Cond.fieldLink RX12 28 "NoseDrumModel" "five" "[I" ∈ wsL_law := in_r7 _ (List.mem_of_getElem? (i := 7) rfl)
theorem kr7_8 : Cond.fieldLink RX12 31 "NoseDrumModel" "faultPlace" "I" ∈ wsL_law := in_r7 _ (List.mem_of_getElem? (i := 8) rfl)
theorem kr7_9 : Cond.fieldLink RX12 34 "NoseDrumModel" "fresh" "[I" ∈ wsL_law := in_r7 _ (List.mem_of_getElem? (i := 9) rfl)
theorem kr7_10 : Cond.fieldLink RX12 37 "NoseDrumModel" "profiles" "[I" ∈ wsL_law := in_r7 _ (List.mem_of_getElem? (i := 10) rfl)
theorem kr7_11 : Cond.fieldLink RX12 40 "NoseDrumModel" "lifts" "[I" ∈ wsL_law := in_r7 _ (List.mem_of_getElem? (i := 11) rfl)
theorem kr7_12 : Cond.fieldLink RX12 43 "NoseDrumModel" "one" "[I" ∈ wsL_law := in_r7 _ (List.mem_of_getElem? (i := 12) rfl)
theorem kr7_13 : Cond.fieldLink RX12 46 "NoseDrumModel" "before" "[I" ∈ wsL_law := in_r7 _ (List.mem_of_getElem? (i := 13) rfl)
theorem kr7_14 : Cond.fieldLink RX12 49 "NoseDrumModel" "steadies" "[I" ∈ wsL_law := in_r7 _ (List.mem_of_getElem? (i := 14) rfl)
theorem kr7_15 : Cond.fieldLink RX12 52 "NoseDrumModel" "acts" "[I" ∈ wsL_law := in_r7 _ (List.mem_of_getElem? (i := 15) rfl)
theorem kr7_16 : Cond.fieldLink RX12 55 "NoseDrumModel" "open" "[I" ∈ wsL_law := in_r7 _ (List.mem_of_getElem? (i := 16) rfl)
theorem kr7_17 : Cond.fieldLink RX12 58 "NoseDrumModel" "often" "[I" ∈ wsL_law := in_r7 _ (List.mem_of_getElem? (i := 17) rfl)
theorem kr7_18 : Cond.fieldLink RX12 61 "NoseDrumModel" "began" "[I" ∈ wsL_law := in_r7 _ (List.mem_of_getElem? (i := 18) rfl)
theorem kr7_19 : Cond.fieldLink RX12 64 "NoseDrumModel" "sums" "[I" ∈ wsL_law := in_r7 _ (List.mem_of_getElem? (i := 19) rfl)
theorem kr7_20 : Cond.fieldLink RX12 67 "NoseDrumModel" "few" "[I" ∈ wsL_law := in_r7 _ (List.mem_of_getElem? (i := 20) rfl)
theorem kr7_21 : Cond.fieldLink RX12 70 "NoseDrumModel" "onTrack" "[I" ∈ wsL_law := in_r7 _ (List.mem_of_getElem? (i := 21) rfl)
theorem kr7_22 : Cond.fieldLink RX12 73 "NoseDrumModel" "sums2" "[I" ∈ wsL_law := in_r7 _ (List.mem_of_getElem? (i := 22) rfl)
theorem kr7_23 : Cond.fieldLink RX12 76 "NoseDrumModel" "keptNoses" "[I" ∈ wsL_law := in_r7 _ (List.mem_of_getElem? (i := 23) rfl)
theorem kr8_0 : Cond.fieldLink RX12 79 "NoseDrumModel" "many" "[I" ∈ wsL_law := in_r8 _ (List.mem_of_getElem? (i := 0) rfl)
theorem kr8_1 : Cond.fieldLink RX12 82 "NoseDrumModel" "width" "[I" ∈ wsL_law := in_r8 _ (List.mem_of_getElem? (i := 1) rfl)
theorem kr8_2 : Cond.fieldLink RX12 85 "NoseDrumModel" "numbers" "[J" ∈ wsL_law := in_r8 _ (List.mem_of_getElem? (i := 2) rfl)
theorem kr8_3 : Cond.fieldLink RX12 89 "NoseDrumModel" "moving" "[J" ∈ wsL_law := in_r8 _ (List.mem_of_getElem? (i := 3) rfl)
theorem kr8_4 : Cond.methodLink RX12 92 yX12_empties ∈ wsL_law := in_r8 _ (List.mem_of_getElem? (i := 4) rfl)
theorem kr8_5 : Cond.static yX12_empties ∈ wsL_law := in_r8 _ (List.mem_of_getElem? (i := 5) rfl)
theorem kr8_6 : Cond.code yX12_empties cX12_empties 2 none ∈ wsL_law := in_r8 _ (List.mem_of_getElem? (i := 6) rfl)
theorem kr8_7 : Cond.methodLink RL 13 yX11_feed ∈ wsL_law := in_r8 _ (List.mem_of_getElem? (i := 7) rfl)
theorem kr8_8 : Cond.instanceMethod yX11_feed ∈ wsL_law := in_r8 _ (List.mem_of_getElem? (i := 8) rfl)
theorem kr8_9 : Cond.selects RX11 yX11_feed yX11_feed ∈ wsL_law := in_r8 _ (List.mem_of_getElem? (i := 9) rfl)
theorem kr8_10 : Cond.code yX11_feed cX11_feed 6 (some .int) ∈ wsL_law := in_r8 _ (List.mem_of_getElem? (i := 10) rfl)
theorem kr8_11 : Cond.fieldLink RX11 77 "NoseDrum$Tape" "length" "I" ∈ wsL_law := in_r8 _ (List.mem_of_getElem? (i := 11) rfl)
theorem kr8_12 : Cond.methodLink RX11 69 yX10_hasRoom ∈ wsL_law := in_r8 _ (List.mem_of_getElem? (i := 12) rfl)
theorem kr8_13 : Cond.instanceMethod yX10_hasRoom ∈ wsL_law := in_r8 _ (List.mem_of_getElem? (i := 13) rfl)
theorem kr8_14 : Cond.selects RX10 yX10_hasRoom yX10_hasRoom ∈ wsL_law := in_r8 _ (List.mem_of_getElem? (i := 14) rfl)
theorem kr8_15 : Cond.code yX10_hasRoom cX10_hasRoom 1 (some .boolean) ∈ wsL_law := in_r8 _ (List.mem_of_getElem? (i := 15) rfl)
theorem kr8_16 : Cond.fieldLink RX10 19 "NoseDrum$Tape" "length" "I" ∈ wsL_law := in_r8 _ (List.mem_of_getElem? (i := 16) rfl)
theorem kr8_17 : Cond.methodLink RX11 73 yX10_put ∈ wsL_law := in_r8 _ (List.mem_of_getElem? (i := 17) rfl)
theorem kr8_18 : Cond.instanceMethod yX10_put ∈ wsL_law := in_r8 _ (List.mem_of_getElem? (i := 18) rfl)
theorem kr8_19 : Cond.selects RX10 yX10_put yX10_put ∈ wsL_law := in_r8 _ (List.mem_of_getElem? (i := 19) rfl)
theorem kr8_20 : Cond.code yX10_put cX10_put 3 none ∈ wsL_law := in_r8 _ (List.mem_of_getElem? (i := 20) rfl)
theorem kr8_21 : Cond.methodLink RL 17 yX12_feed ∈ wsL_law := in_r8 _ (List.mem_of_getElem? (i := 21) rfl)
theorem kr8_22 : Cond.instanceMethod yX12_feed ∈ wsL_law := in_r8 _ (List.mem_of_getElem? (i := 22) rfl)
theorem kr8_23 : Cond.selects RX12 yX12_feed yX12_feed ∈ wsL_law := in_r8 _ (List.mem_of_getElem? (i := 23) rfl)
theorem kr9_0 : Cond.code yX12_feed cX12_feed 7 (some .int) ∈ wsL_law := in_r9 _ (List.mem_of_getElem? (i := 0) rfl)
theorem kr9_1 : Cond.fieldLink RX12 102 "NoseDrumModel" "taped" "I" ∈ wsL_law := in_r9 _ (List.mem_of_getElem? (i := 1) rfl)
theorem kr9_2 : Cond.methodLink RL 18 yX11_end ∈ wsL_law := in_r9 _ (List.mem_of_getElem? (i := 2) rfl)
theorem kr9_3 : Cond.instanceMethod yX11_end ∈ wsL_law := in_r9 _ (List.mem_of_getElem? (i := 3) rfl)
theorem kr9_4 : Cond.selects RX11 yX11_end yX11_end ∈ wsL_law := in_r9 _ (List.mem_of_getElem? (i := 4) rfl)
theorem kr9_5 : Cond.code yX11_end cX11_end 2 (some .int) ∈ wsL_law := in_r9 _ (List.mem_of_getElem? (i := 5) rfl)
theorem kr9_6 : Cond.methodLink RL 22 yX12_end ∈ wsL_law := in_r9 _ (List.mem_of_getElem? (i := 6) rfl)
theorem kr9_7 : Cond.instanceMethod yX12_end ∈ wsL_law := in_r9 _ (List.mem_of_getElem? (i := 7) rfl)
theorem kr9_8 : Cond.selects RX12 yX12_end yX12_end ∈ wsL_law := in_r9 _ (List.mem_of_getElem? (i := 8) rfl)
theorem kr9_9 : Cond.code yX12_end cX12_end 2 (some .int) ∈ wsL_law := in_r9 _ (List.mem_of_getElem? (i := 9) rfl)
theorem kr9_10 : Cond.methodLink RX12 98 yX12_in ∈ wsL_law := in_r9 _ (List.mem_of_getElem? (i := 10) rfl)
theorem kr9_11 : Cond.static yX12_in ∈ wsL_law := in_r9 _ (List.mem_of_getElem? (i := 11) rfl)
theorem kr9_12 : Cond.code yX12_in cX12_in 6 (some .boolean) ∈ wsL_law := in_r9 _ (List.mem_of_getElem? (i := 12) rfl)
theorem kr9_13 : Cond.methodLink RL 23 yX11_drum ∈ wsL_law := in_r9 _ (List.mem_of_getElem? (i := 13) rfl)
theorem kr9_14 : Cond.instanceMethod yX11_drum ∈ wsL_law := in_r9 _ (List.mem_of_getElem? (i := 14) rfl)
theorem kr9_15 : Cond.selects RX11 yX11_drum yX11_drum ∈ wsL_law := in_r9 _ (List.mem_of_getElem? (i := 15) rfl)
theorem kr9_16 : Cond.code yX11_drum cX11_drum 2 (some .int) ∈ wsL_law := in_r9 _ (List.mem_of_getElem? (i := 16) rfl)
theorem kr9_17 : Cond.fieldLink RX11 91 "NoseDrum$Tape" "fault" "I" ∈ wsL_law := in_r9 _ (List.mem_of_getElem? (i := 17) rfl)
theorem kr9_18 : Cond.fieldLink RX11 102 "NoseDrum$Machine" "lines" "I" ∈ wsL_law := in_r9 _ (List.mem_of_getElem? (i := 18) rfl)
theorem kr9_19 : Cond.methodLink RX11 81 yX2_clear ∈ wsL_law := in_r9 _ (List.mem_of_getElem? (i := 19) rfl)
theorem kr9_20 : Cond.instanceMethod yX2_clear ∈ wsL_law := in_r9 _ (List.mem_of_getElem? (i := 20) rfl)
theorem kr9_21 : Cond.selects RX2 yX2_clear yX2_clear ∈ wsL_law := in_r9 _ (List.mem_of_getElem? (i := 21) rfl)
theorem kr9_22 : Cond.code yX2_clear cX2_clear 1 none ∈ wsL_law := in_r9 _ (List.mem_of_getElem? (i := 22) rfl)
theorem kr9_23 : Cond.fieldLink RX2 43 "NoseDrum$Machine" "steps" "I" ∈ wsL_law := in_r9 _ (List.mem_of_getElem? (i := 23) rfl)
theorem kr10_0 : Cond.fieldLink RX2 71 "NoseDrum$Machine" "jam" "I" ∈ wsL_law := in_r10 _ (List.mem_of_getElem? (i := 0) rfl)
theorem kr10_1 : Cond.fieldLink RX2 74 "NoseDrum$Machine" "slack" "I" ∈ wsL_law := in_r10 _ (List.mem_of_getElem? (i := 1) rfl)
theorem kr10_2 : Cond.fieldLink RX2 47 "NoseDrum$Machine" "tracks" "I" ∈ wsL_law := in_r10 _ (List.mem_of_getElem? (i := 2) rfl)
theorem kr10_3 : Cond.fieldLink RX2 77 "NoseDrum$Machine" "lines" "I" ∈ wsL_law := in_r10 _ (List.mem_of_getElem? (i := 3) rfl)
theorem kr10_4 : Cond.fieldLink RX2 80 "NoseDrum$Machine" "hasMotion" "Z" ∈ wsL_law := in_r10 _ (List.mem_of_getElem? (i := 4) rfl)
theorem kr10_5 : Cond.fieldLink RX2 64 "NoseDrum$Machine" "gearFirst" "I" ∈ wsL_law := in_r10 _ (List.mem_of_getElem? (i := 5) rfl)
theorem kr10_6 : Cond.fieldLink RX2 61 "NoseDrum$Machine" "gearSecond" "I" ∈ wsL_law := in_r10 _ (List.mem_of_getElem? (i := 6) rfl)
theorem kr10_7 : Cond.fieldLink RX2 84 "NoseDrum$Machine" "gearTold" "Z" ∈ wsL_law := in_r10 _ (List.mem_of_getElem? (i := 7) rfl)
theorem kr10_8 : Cond.fieldLink RX2 50 "NoseDrum$Noses" "count" "I" ∈ wsL_law := in_r10 _ (List.mem_of_getElem? (i := 8) rfl)
theorem kr10_9 : Cond.fieldLink RX2 53 "NoseDrum$Followers" "count" "I" ∈ wsL_law := in_r10 _ (List.mem_of_getElem? (i := 9) rfl)
theorem kr10_10 : Cond.fieldLink RX2 54 "NoseDrum$Pawls" "count" "I" ∈ wsL_law := in_r10 _ (List.mem_of_getElem? (i := 10) rfl)
theorem kr10_11 : Cond.methodLink RX2 87 yX7_clear ∈ wsL_law := in_r10 _ (List.mem_of_getElem? (i := 11) rfl)
theorem kr10_12 : Cond.instanceMethod yX7_clear ∈ wsL_law := in_r10 _ (List.mem_of_getElem? (i := 12) rfl)
theorem kr10_13 : Cond.selects RX7 yX7_clear yX7_clear ∈ wsL_law := in_r10 _ (List.mem_of_getElem? (i := 13) rfl)
theorem kr10_14 : Cond.code yX7_clear cX7_clear 1 none ∈ wsL_law := in_r10 _ (List.mem_of_getElem? (i := 14) rfl)
theorem kr10_15 : Cond.fieldLink RX7 15 "NoseDrum$Shaft" "angle" "I" ∈ wsL_law := in_r10 _ (List.mem_of_getElem? (i := 15) rfl)
theorem kr10_16 : Cond.fieldLink RX7 18 "NoseDrum$Shaft" "taken" "I" ∈ wsL_law := in_r10 _ (List.mem_of_getElem? (i := 16) rfl)
theorem kr10_17 : Cond.fieldLink RX7 21 "NoseDrum$Shaft" "turned" "I" ∈ wsL_law := in_r10 _ (List.mem_of_getElem? (i := 17) rfl)
theorem kr10_18 : Cond.fieldLink RX7 24 "NoseDrum$Shaft" "work" "I" ∈ wsL_law := in_r10 _ (List.mem_of_getElem? (i := 18) rfl)
theorem kr10_19 : Cond.fieldLink RX7 27 "NoseDrum$Shaft" "slackLeft" "I" ∈ wsL_law := in_r10 _ (List.mem_of_getElem? (i := 19) rfl)
theorem kr10_20 : Cond.fieldLink RX7 30 "NoseDrum$Shaft" "jammed" "I" ∈ wsL_law := in_r10 _ (List.mem_of_getElem? (i := 20) rfl)
theorem kr10_21 : Cond.fieldLink RX7 33 "NoseDrum$Shaft" "way" "I" ∈ wsL_law := in_r10 _ (List.mem_of_getElem? (i := 21) rfl)
theorem kr10_22 : Cond.methodLink RX11 84 yX10_beginReading ∈ wsL_law := in_r10 _ (List.mem_of_getElem? (i := 22) rfl)
theorem kr10_23 : Cond.instanceMethod yX10_beginReading ∈ wsL_law := in_r10 _ (List.mem_of_getElem? (i := 23) rfl)
theorem kr11_0 : Cond.selects RX10 yX10_beginReading yX10_beginReading ∈ wsL_law := in_r11 _ (List.mem_of_getElem? (i := 0) rfl)
theorem kr11_1 : Cond.code yX10_beginReading cX10_beginReading 1 none ∈ wsL_law := in_r11 _ (List.mem_of_getElem? (i := 1) rfl)
theorem kr11_2 : Cond.fieldLink RX10 22 "NoseDrum$Tape" "fault" "I" ∈ wsL_law := in_r11 _ (List.mem_of_getElem? (i := 2) rfl)
theorem kr11_3 : Cond.fieldLink RX10 25 "NoseDrum$Tape" "stop" "I" ∈ wsL_law := in_r11 _ (List.mem_of_getElem? (i := 3) rfl)
theorem kr11_4 : Cond.methodLink RX10 28 yX10_readToken ∈ wsL_law := in_r11 _ (List.mem_of_getElem? (i := 4) rfl)
theorem kr11_5 : Cond.instanceMethod yX10_readToken ∈ wsL_law := in_r11 _ (List.mem_of_getElem? (i := 5) rfl)
theorem kr11_6 : Cond.selects RX10 yX10_readToken yX10_readToken ∈ wsL_law := in_r11 _ (List.mem_of_getElem? (i := 6) rfl)
theorem kr11_7 : Cond.code yX10_readToken cX10_readToken 2 none ∈ wsL_law := in_r11 _ (List.mem_of_getElem? (i := 7) rfl)
theorem kr11_8 : Cond.fieldLink RX10 34 "NoseDrum$Tape" "start" "I" ∈ wsL_law := in_r11 _ (List.mem_of_getElem? (i := 8) rfl)
theorem kr11_9 : Cond.fieldLink RX10 31 "NoseDrum$Tape" "kind" "I" ∈ wsL_law := in_r11 _ (List.mem_of_getElem? (i := 9) rfl)
theorem kr11_10 : Cond.methodLink RX10 37 yX10_behindBlanks ∈ wsL_law := in_r11 _ (List.mem_of_getElem? (i := 10) rfl)
theorem kr11_11 : Cond.instanceMethod yX10_behindBlanks ∈ wsL_law := in_r11 _ (List.mem_of_getElem? (i := 11) rfl)
theorem kr11_12 : Cond.selects RX10 yX10_behindBlanks yX10_behindBlanks ∈ wsL_law := in_r11 _ (List.mem_of_getElem? (i := 12) rfl)
theorem kr11_13 : Cond.code yX10_behindBlanks cX10_behindBlanks 3 (some .int) ∈ wsL_law := in_r11 _ (List.mem_of_getElem? (i := 13) rfl)
theorem kr11_14 : Cond.methodLink RX10 41 yX10_byteAt ∈ wsL_law := in_r11 _ (List.mem_of_getElem? (i := 14) rfl)
theorem kr11_15 : Cond.instanceMethod yX10_byteAt ∈ wsL_law := in_r11 _ (List.mem_of_getElem? (i := 15) rfl)
theorem kr11_16 : Cond.selects RX10 yX10_byteAt yX10_byteAt ∈ wsL_law := in_r11 _ (List.mem_of_getElem? (i := 16) rfl)
theorem kr11_17 : Cond.code yX10_byteAt cX10_byteAt 2 (some .int) ∈ wsL_law := in_r11 _ (List.mem_of_getElem? (i := 17) rfl)
theorem kr11_18 : Cond.methodLink RX10 44 yX10_isLetter ∈ wsL_law := in_r11 _ (List.mem_of_getElem? (i := 18) rfl)
theorem kr11_19 : Cond.static yX10_isLetter ∈ wsL_law := in_r11 _ (List.mem_of_getElem? (i := 19) rfl)
theorem kr11_20 : Cond.code yX10_isLetter cX10_isLetter 1 (some .boolean) ∈ wsL_law := in_r11 _ (List.mem_of_getElem? (i := 20) rfl)
theorem kr11_21 : Cond.methodLink RX10 48 yX10_behindLetters ∈ wsL_law := in_r11 _ (List.mem_of_getElem? (i := 21) rfl)
theorem kr11_22 : Cond.instanceMethod yX10_behindLetters ∈ wsL_law := in_r11 _ (List.mem_of_getElem? (i := 22) rfl)
theorem kr11_23 : Cond.selects RX10 yX10_behindLetters yX10_behindLetters ∈ wsL_law := in_r11 _ (List.mem_of_getElem? (i := 23) rfl)
theorem kr12_0 : Cond.code yX10_behindLetters cX10_behindLetters 3 (some .int) ∈ wsL_law := in_r12 _ (List.mem_of_getElem? (i := 0) rfl)
theorem kr12_1 : Cond.methodLink RX10 51 yX10_isDigit ∈ wsL_law := in_r12 _ (List.mem_of_getElem? (i := 1) rfl)
theorem kr12_2 : Cond.static yX10_isDigit ∈ wsL_law := in_r12 _ (List.mem_of_getElem? (i := 2) rfl)
theorem kr12_3 : Cond.code yX10_isDigit cX10_isDigit 1 (some .boolean) ∈ wsL_law := in_r12 _ (List.mem_of_getElem? (i := 3) rfl)
theorem kr12_4 : Cond.methodLink RX10 54 yX10_behindDigits ∈ wsL_law := in_r12 _ (List.mem_of_getElem? (i := 4) rfl)
theorem kr12_5 : Cond.instanceMethod yX10_behindDigits ∈ wsL_law := in_r12 _ (List.mem_of_getElem? (i := 5) rfl)
theorem kr12_6 : Cond.selects RX10 yX10_behindDigits yX10_behindDigits ∈ wsL_law := in_r12 _ (List.mem_of_getElem? (i := 6) rfl)
theorem kr12_7 : Cond.code yX10_behindDigits cX10_behindDigits 3 (some .int) ∈ wsL_law := in_r12 _ (List.mem_of_getElem? (i := 7) rfl)
theorem kr12_8 : Cond.fieldLink RX10 78 "NoseDrum$Tape" "value" "I" ∈ wsL_law := in_r12 _ (List.mem_of_getElem? (i := 8) rfl)
theorem kr12_9 : Cond.constant RX10 81 (1000000) ∈ wsL_law := in_r12 _ (List.mem_of_getElem? (i := 9) rfl)
theorem kr12_10 : Cond.methodLink RX11 87 yX2_readFrom ∈ wsL_law := in_r12 _ (List.mem_of_getElem? (i := 10) rfl)
theorem kr12_11 : Cond.instanceMethod yX2_readFrom ∈ wsL_law := in_r12 _ (List.mem_of_getElem? (i := 11) rfl)
theorem kr12_12 : Cond.selects RX2 yX2_readFrom yX2_readFrom ∈ wsL_law := in_r12 _ (List.mem_of_getElem? (i := 12) rfl)
theorem kr12_13 : Cond.code yX2_readFrom cX2_readFrom 3 none ∈ wsL_law := in_r12 _ (List.mem_of_getElem? (i := 13) rfl)
theorem kr12_14 : Cond.methodLink RX2 111 yX10_goesOn ∈ wsL_law := in_r12 _ (List.mem_of_getElem? (i := 14) rfl)
theorem kr12_15 : Cond.instanceMethod yX10_goesOn ∈ wsL_law := in_r12 _ (List.mem_of_getElem? (i := 15) rfl)
theorem kr12_16 : Cond.selects RX10 yX10_goesOn yX10_goesOn ∈ wsL_law := in_r12 _ (List.mem_of_getElem? (i := 16) rfl)
theorem kr12_17 : Cond.code yX10_goesOn cX10_goesOn 1 (some .boolean) ∈ wsL_law := in_r12 _ (List.mem_of_getElem? (i := 17) rfl)
theorem kr12_18 : Cond.methodLink RX2 115 yX2_readLine ∈ wsL_law := in_r12 _ (List.mem_of_getElem? (i := 18) rfl)
theorem kr12_19 : Cond.instanceMethod yX2_readLine ∈ wsL_law := in_r12 _ (List.mem_of_getElem? (i := 19) rfl)
theorem kr12_20 : Cond.selects RX2 yX2_readLine yX2_readLine ∈ wsL_law := in_r12 _ (List.mem_of_getElem? (i := 20) rfl)
theorem kr12_21 : Cond.code yX2_readLine cX2_readLine 2 none ∈ wsL_law := in_r12 _ (List.mem_of_getElem? (i := 21) rfl)
theorem kr12_22 : Cond.methodLink RX2 123 yX2_readDrumLine ∈ wsL_law := in_r12 _ (List.mem_of_getElem? (i := 22) rfl)
theorem kr12_23 : Cond.instanceMethod yX2_readDrumLine ∈ wsL_law := in_r12 _ (List.mem_of_getElem? (i := 23) rfl)
theorem kr13_0 : Cond.selects RX2 yX2_readDrumLine yX2_readDrumLine ∈ wsL_law := in_r13 _ (List.mem_of_getElem? (i := 0) rfl)
theorem kr13_1 : Cond.code yX2_readDrumLine cX2_readDrumLine 2 none ∈ wsL_law := in_r13 _ (List.mem_of_getElem? (i := 1) rfl)
theorem kr13_2 : Cond.methodLink RX2 153 yX10_takeWord ∈ wsL_law := in_r13 _ (List.mem_of_getElem? (i := 2) rfl)
theorem kr13_3 : Cond.instanceMethod yX10_takeWord ∈ wsL_law := in_r13 _ (List.mem_of_getElem? (i := 3) rfl)
theorem kr13_4 : Cond.selects RX10 yX10_takeWord yX10_takeWord ∈ wsL_law := in_r13 _ (List.mem_of_getElem? (i := 4) rfl)
theorem kr13_5 : Cond.code yX10_takeWord cX10_takeWord 2 none ∈ wsL_law := in_r13 _ (List.mem_of_getElem? (i := 5) rfl)
theorem kr13_6 : Cond.methodLink RX10 66 yX10_isWord ∈ wsL_law := in_r13 _ (List.mem_of_getElem? (i := 6) rfl)
theorem kr13_7 : Cond.instanceMethod yX10_isWord ∈ wsL_law := in_r13 _ (List.mem_of_getElem? (i := 7) rfl)
theorem kr13_8 : Cond.selects RX10 yX10_isWord yX10_isWord ∈ wsL_law := in_r13 _ (List.mem_of_getElem? (i := 8) rfl)
theorem kr13_9 : Cond.code yX10_isWord cX10_isWord 3 (some .boolean) ∈ wsL_law := in_r13 _ (List.mem_of_getElem? (i := 9) rfl)
theorem kr13_10 : Cond.methodLink RX10 57 yJ0_length_8abf5 ∈ wsL_law := in_r13 _ (List.mem_of_getElem? (i := 10) rfl)
theorem kr13_11 : Cond.instanceMethod yJ0_length_8abf5 ∈ wsL_law := in_r13 _ (List.mem_of_getElem? (i := 11) rfl)
theorem kr13_12 : Cond.selects RJ0 yJ0_length_8abf5 yJ0_length_8abf5 ∈ wsL_law := in_r13 _ (List.mem_of_getElem? (i := 12) rfl)
theorem kr13_13 : Cond.initialized RJ0 ∈ wsL_law := in_r13 _ (List.mem_of_getElem? (i := 13) rfl)
theorem kr13_14 : Cond.code yJ0_length_8abf5 cJ0_length_8abf5 1 (some .int) ∈ wsL_law := in_r13 _ (List.mem_of_getElem? (i := 14) rfl)
theorem kr13_15 : Cond.fieldLink RJ0 9 "java/lang/String" "value" "[B" ∈ wsL_law := in_r13 _ (List.mem_of_getElem? (i := 15) rfl)
theorem kr13_16 : Cond.methodLink RJ0 335 yJ0_coder_7d493 ∈ wsL_law := in_r13 _ (List.mem_of_getElem? (i := 16) rfl)
theorem kr13_17 : Cond.instanceMethod yJ0_coder_7d493 ∈ wsL_law := in_r13 _ (List.mem_of_getElem? (i := 17) rfl)
theorem kr13_18 : Cond.selects RJ0 yJ0_coder_7d493 yJ0_coder_7d493 ∈ wsL_law := in_r13 _ (List.mem_of_getElem? (i := 18) rfl)
theorem kr13_19 : Cond.code yJ0_coder_7d493 cJ0_coder_7d493 1 (some .byte) ∈ wsL_law := in_r13 _ (List.mem_of_getElem? (i := 19) rfl)
theorem kr13_20 : Cond.fieldLink RJ0 38 "java/lang/String" "COMPACT_STRINGS" "Z" ∈ wsL_law := in_r13 _ (List.mem_of_getElem? (i := 20) rfl)
theorem kr13_21 : Cond.fieldLink RJ0 15 "java/lang/String" "coder" "B" ∈ wsL_law := in_r13 _ (List.mem_of_getElem? (i := 21) rfl)
theorem kr13_22 : Cond.methodLink RX10 62 yJ0_charAt_5068e ∈ wsL_law := in_r13 _ (List.mem_of_getElem? (i := 22) rfl)
theorem kr13_23 : Cond.instanceMethod yJ0_charAt_5068e ∈ wsL_law := in_r13 _ (List.mem_of_getElem? (i := 23) rfl)
theorem kr14_0 : Cond.selects RJ0 yJ0_charAt_5068e yJ0_charAt_5068e ∈ wsL_law := in_r14 _ (List.mem_of_getElem? (i := 0) rfl)
theorem kr14_1 : Cond.code yJ0_charAt_5068e cJ0_charAt_5068e 2 (some .char) ∈ wsL_law := in_r14 _ (List.mem_of_getElem? (i := 1) rfl)
theorem kr14_2 : Cond.methodLink RJ0 492 yJ0_isLatin1_aae02 ∈ wsL_law := in_r14 _ (List.mem_of_getElem? (i := 2) rfl)
theorem kr14_3 : Cond.instanceMethod yJ0_isLatin1_aae02 ∈ wsL_law := in_r14 _ (List.mem_of_getElem? (i := 3) rfl)
theorem kr14_4 : Cond.selects RJ0 yJ0_isLatin1_aae02 yJ0_isLatin1_aae02 ∈ wsL_law := in_r14 _ (List.mem_of_getElem? (i := 4) rfl)
theorem kr14_5 : Cond.code yJ0_isLatin1_aae02 cJ0_isLatin1_aae02 1 (some .boolean) ∈ wsL_law := in_r14 _ (List.mem_of_getElem? (i := 5) rfl)
theorem kr14_6 : Cond.methodLink RJ0 495 yJ1_charAt_3b067 ∈ wsL_law := in_r14 _ (List.mem_of_getElem? (i := 6) rfl)
theorem kr14_7 : Cond.static yJ1_charAt_3b067 ∈ wsL_law := in_r14 _ (List.mem_of_getElem? (i := 7) rfl)
theorem kr14_8 : Cond.initialized RJ1 ∈ wsL_law := in_r14 _ (List.mem_of_getElem? (i := 8) rfl)
theorem kr14_9 : Cond.code yJ1_charAt_3b067 cJ1_charAt_3b067 2 (some .char) ∈ wsL_law := in_r14 _ (List.mem_of_getElem? (i := 9) rfl)
theorem kr14_10 : Cond.methodLink RJ1 9 yJ0_checkIndex_df160 ∈ wsL_law := in_r14 _ (List.mem_of_getElem? (i := 10) rfl)
theorem kr14_11 : Cond.static yJ0_checkIndex_df160 ∈ wsL_law := in_r14 _ (List.mem_of_getElem? (i := 11) rfl)
theorem kr14_12 : Cond.code yJ0_checkIndex_df160 cJ0_checkIndex_df160 2 none ∈ wsL_law := in_r14 _ (List.mem_of_getElem? (i := 12) rfl)
theorem kr14_13 : Cond.fieldLink RJ0 1053 "jdk/internal/util/Preconditions" "SIOOBE_FORMATTER" "Ljava/util/function/BiFunction;" ∈ wsL_law := in_r14 _ (List.mem_of_getElem? (i := 13) rfl)
theorem kr14_14 : Cond.methodLink RJ0 1059 yJ3_checkIndex_8e157 ∈ wsL_law := in_r14 _ (List.mem_of_getElem? (i := 14) rfl)
theorem kr14_15 : Cond.static yJ3_checkIndex_8e157 ∈ wsL_law := in_r14 _ (List.mem_of_getElem? (i := 15) rfl)
theorem kr14_16 : Cond.initialized RJ3 ∈ wsL_law := in_r14 _ (List.mem_of_getElem? (i := 16) rfl)
theorem kr14_17 : Cond.code yJ3_checkIndex_8e157 cJ3_checkIndex_8e157 3 (some .int) ∈ wsL_law := in_r14 _ (List.mem_of_getElem? (i := 17) rfl)
theorem kr14_18 : Cond.methodLink RJ0 498 yJ2_charAt_3b067 ∈ wsL_law := in_r14 _ (List.mem_of_getElem? (i := 18) rfl)
theorem kr14_19 : Cond.static yJ2_charAt_3b067 ∈ wsL_law := in_r14 _ (List.mem_of_getElem? (i := 19) rfl)
theorem kr14_20 : Cond.initialized RJ2 ∈ wsL_law := in_r14 _ (List.mem_of_getElem? (i := 20) rfl)
theorem kr14_21 : Cond.code yJ2_charAt_3b067 cJ2_charAt_3b067 2 (some .char) ∈ wsL_law := in_r14 _ (List.mem_of_getElem? (i := 21) rfl)
theorem kr14_22 : Cond.methodLink RJ2 67 yJ2_checkIndex_2214a ∈ wsL_law := in_r14 _ (List.mem_of_getElem? (i := 22) rfl)
theorem kr14_23 : Cond.static yJ2_checkIndex_2214a ∈ wsL_law := in_r14 _ (List.mem_of_getElem? (i := 23) rfl)
theorem kr15_0 : Cond.code yJ2_checkIndex_2214a cJ2_checkIndex_2214a 2 none ∈ wsL_law := in_r15 _ (List.mem_of_getElem? (i := 0) rfl)
theorem kr15_1 : Cond.methodLink RJ2 48 yJ2_length_9d52b ∈ wsL_law := in_r15 _ (List.mem_of_getElem? (i := 1) rfl)
theorem kr15_2 : Cond.static yJ2_length_9d52b ∈ wsL_law := in_r15 _ (List.mem_of_getElem? (i := 2) rfl)
theorem kr15_3 : Cond.code yJ2_length_9d52b cJ2_length_9d52b 1 (some .int) ∈ wsL_law := in_r15 _ (List.mem_of_getElem? (i := 3) rfl)
theorem kr15_4 : Cond.methodLink RJ2 414 yJ0_checkIndex_df160 ∈ wsL_law := in_r15 _ (List.mem_of_getElem? (i := 4) rfl)
theorem kr15_5 : Cond.methodLink RJ2 71 yJ2_getChar_3b067 ∈ wsL_law := in_r15 _ (List.mem_of_getElem? (i := 5) rfl)
theorem kr15_6 : Cond.static yJ2_getChar_3b067 ∈ wsL_law := in_r15 _ (List.mem_of_getElem? (i := 6) rfl)
theorem kr15_7 : Cond.code yJ2_getChar_3b067 cJ2_getChar_3b067 2 (some .char) ∈ wsL_law := in_r15 _ (List.mem_of_getElem? (i := 7) rfl)
theorem kr15_8 : Cond.fieldLink RJ2 44 "java/lang/StringUTF16" "$assertionsDisabled" "Z" ∈ wsL_law := in_r15 _ (List.mem_of_getElem? (i := 8) rfl)
theorem kr15_9 : Cond.fieldLink RJ2 59 "java/lang/StringUTF16" "HI_BYTE_SHIFT" "I" ∈ wsL_law := in_r15 _ (List.mem_of_getElem? (i := 9) rfl)
theorem kr15_10 : Cond.fieldLink RJ2 63 "java/lang/StringUTF16" "LO_BYTE_SHIFT" "I" ∈ wsL_law := in_r15 _ (List.mem_of_getElem? (i := 10) rfl)
theorem kr15_11 : Cond.methodLink RX10 70 yX10_blame ∈ wsL_law := in_r15 _ (List.mem_of_getElem? (i := 11) rfl)
theorem kr15_12 : Cond.instanceMethod yX10_blame ∈ wsL_law := in_r15 _ (List.mem_of_getElem? (i := 12) rfl)
theorem kr15_13 : Cond.selects RX10 yX10_blame yX10_blame ∈ wsL_law := in_r15 _ (List.mem_of_getElem? (i := 13) rfl)
theorem kr15_14 : Cond.code yX10_blame cX10_blame 2 none ∈ wsL_law := in_r15 _ (List.mem_of_getElem? (i := 14) rfl)
theorem kr15_15 : Cond.methodLink RX2 158 yX10_takeNumber ∈ wsL_law := in_r15 _ (List.mem_of_getElem? (i := 15) rfl)
theorem kr15_16 : Cond.instanceMethod yX10_takeNumber ∈ wsL_law := in_r15 _ (List.mem_of_getElem? (i := 16) rfl)
theorem kr15_17 : Cond.selects RX10 yX10_takeNumber yX10_takeNumber ∈ wsL_law := in_r15 _ (List.mem_of_getElem? (i := 17) rfl)
theorem kr15_18 : Cond.code yX10_takeNumber cX10_takeNumber 4 (some .int) ∈ wsL_law := in_r15 _ (List.mem_of_getElem? (i := 18) rfl)
theorem kr15_19 : Cond.methodLink RX2 128 yX10_isWord ∈ wsL_law := in_r15 _ (List.mem_of_getElem? (i := 19) rfl)
theorem kr15_20 : Cond.methodLink RX2 132 yX2_readTrackLine ∈ wsL_law := in_r15 _ (List.mem_of_getElem? (i := 20) rfl)
theorem kr15_21 : Cond.instanceMethod yX2_readTrackLine ∈ wsL_law := in_r15 _ (List.mem_of_getElem? (i := 21) rfl)
theorem kr15_22 : Cond.selects RX2 yX2_readTrackLine yX2_readTrackLine ∈ wsL_law := in_r15 _ (List.mem_of_getElem? (i := 22) rfl)
theorem kr15_23 : Cond.code yX2_readTrackLine cX2_readTrackLine 2 none ∈ wsL_law := in_r15 _ (List.mem_of_getElem? (i := 23) rfl)
theorem kr16_0 : Cond.methodLink RX2 163 yX10_blame ∈ wsL_law := in_r16 _ (List.mem_of_getElem? (i := 0) rfl)
theorem kr16_1 : Cond.methodLink RX2 167 yX10_readToken ∈ wsL_law := in_r16 _ (List.mem_of_getElem? (i := 1) rfl)
theorem kr16_2 : Cond.methodLink RX2 137 yX3_readLine ∈ wsL_law := in_r16 _ (List.mem_of_getElem? (i := 2) rfl)
theorem kr16_3 : Cond.instanceMethod yX3_readLine ∈ wsL_law := in_r16 _ (List.mem_of_getElem? (i := 3) rfl)
theorem kr16_4 : Cond.selects RX3 yX3_readLine yX3_readLine ∈ wsL_law := in_r16 _ (List.mem_of_getElem? (i := 4) rfl)
theorem kr16_5 : Cond.code yX3_readLine cX3_readLine 4 none ∈ wsL_law := in_r16 _ (List.mem_of_getElem? (i := 5) rfl)
theorem kr16_6 : Cond.fieldLink RX3 34 "NoseDrum$Noses" "count" "I" ∈ wsL_law := in_r16 _ (List.mem_of_getElem? (i := 6) rfl)
theorem kr16_7 : Cond.methodLink RX3 40 yX10_blame ∈ wsL_law := in_r16 _ (List.mem_of_getElem? (i := 7) rfl)
theorem kr16_8 : Cond.methodLink RX3 44 yX10_readToken ∈ wsL_law := in_r16 _ (List.mem_of_getElem? (i := 8) rfl)
theorem kr16_9 : Cond.methodLink RX3 49 yX10_takeWord ∈ wsL_law := in_r16 _ (List.mem_of_getElem? (i := 9) rfl)
theorem kr16_10 : Cond.methodLink RX3 53 yX10_takeNumber ∈ wsL_law := in_r16 _ (List.mem_of_getElem? (i := 10) rfl)
theorem kr16_11 : Cond.methodLink RX2 142 yX4_readLine ∈ wsL_law := in_r16 _ (List.mem_of_getElem? (i := 11) rfl)
theorem kr16_12 : Cond.instanceMethod yX4_readLine ∈ wsL_law := in_r16 _ (List.mem_of_getElem? (i := 12) rfl)
theorem kr16_13 : Cond.selects RX4 yX4_readLine yX4_readLine ∈ wsL_law := in_r16 _ (List.mem_of_getElem? (i := 13) rfl)
theorem kr16_14 : Cond.code yX4_readLine cX4_readLine 3 none ∈ wsL_law := in_r16 _ (List.mem_of_getElem? (i := 14) rfl)
theorem kr16_15 : Cond.fieldLink RX4 24 "NoseDrum$Pawls" "count" "I" ∈ wsL_law := in_r16 _ (List.mem_of_getElem? (i := 15) rfl)
theorem kr16_16 : Cond.methodLink RX4 30 yX10_blame ∈ wsL_law := in_r16 _ (List.mem_of_getElem? (i := 16) rfl)
theorem kr16_17 : Cond.methodLink RX4 34 yX10_readToken ∈ wsL_law := in_r16 _ (List.mem_of_getElem? (i := 17) rfl)
theorem kr16_18 : Cond.methodLink RX4 38 yX10_takeWord ∈ wsL_law := in_r16 _ (List.mem_of_getElem? (i := 18) rfl)
theorem kr16_19 : Cond.methodLink RX4 42 yX10_takeNumber ∈ wsL_law := in_r16 _ (List.mem_of_getElem? (i := 19) rfl)
theorem kr16_20 : Cond.methodLink RX2 147 yX2_readGearLine ∈ wsL_law := in_r16 _ (List.mem_of_getElem? (i := 20) rfl)
theorem kr16_21 : Cond.instanceMethod yX2_readGearLine ∈ wsL_law := in_r16 _ (List.mem_of_getElem? (i := 21) rfl)
theorem kr16_22 : Cond.selects RX2 yX2_readGearLine yX2_readGearLine ∈ wsL_law := in_r16 _ (List.mem_of_getElem? (i := 22) rfl)
theorem kr16_23 : Cond.code yX2_readGearLine cX2_readGearLine 2 none ∈ wsL_law := in_r16 _ (List.mem_of_getElem? (i := 23) rfl)
theorem kr17_0 : Cond.methodLink RX2 150 yX1_readLine ∈ wsL_law := in_r17 _ (List.mem_of_getElem? (i := 0) rfl)
theorem kr17_1 : Cond.instanceMethod yX1_readLine ∈ wsL_law := in_r17 _ (List.mem_of_getElem? (i := 1) rfl)
theorem kr17_2 : Cond.selects RX1 yX1_readLine yX1_readLine ∈ wsL_law := in_r17 _ (List.mem_of_getElem? (i := 2) rfl)
theorem kr17_3 : Cond.code yX1_readLine cX1_readLine 4 none ∈ wsL_law := in_r17 _ (List.mem_of_getElem? (i := 3) rfl)
theorem kr17_4 : Cond.fieldLink RX1 49 "NoseDrum$Followers" "count" "I" ∈ wsL_law := in_r17 _ (List.mem_of_getElem? (i := 4) rfl)
theorem kr17_5 : Cond.methodLink RX1 39 yX1_sortHere ∈ wsL_law := in_r17 _ (List.mem_of_getElem? (i := 5) rfl)
theorem kr17_6 : Cond.static yX1_sortHere ∈ wsL_law := in_r17 _ (List.mem_of_getElem? (i := 6) rfl)
theorem kr17_7 : Cond.code yX1_sortHere cX1_sortHere 1 (some .int) ∈ wsL_law := in_r17 _ (List.mem_of_getElem? (i := 7) rfl)
theorem kr17_8 : Cond.methodLink RX1 66 yX10_isWord ∈ wsL_law := in_r17 _ (List.mem_of_getElem? (i := 8) rfl)
theorem kr17_9 : Cond.methodLink RX1 45 yX10_blame ∈ wsL_law := in_r17 _ (List.mem_of_getElem? (i := 9) rfl)
theorem kr17_10 : Cond.methodLink RX1 53 yX10_readToken ∈ wsL_law := in_r17 _ (List.mem_of_getElem? (i := 10) rfl)
theorem kr17_11 : Cond.methodLink RX1 56 yX1_readLever ∈ wsL_law := in_r17 _ (List.mem_of_getElem? (i := 11) rfl)
theorem kr17_12 : Cond.instanceMethod yX1_readLever ∈ wsL_law := in_r17 _ (List.mem_of_getElem? (i := 12) rfl)
theorem kr17_13 : Cond.selects RX1 yX1_readLever yX1_readLever ∈ wsL_law := in_r17 _ (List.mem_of_getElem? (i := 13) rfl)
theorem kr17_14 : Cond.code yX1_readLever cX1_readLever 2 none ∈ wsL_law := in_r17 _ (List.mem_of_getElem? (i := 14) rfl)
theorem kr17_15 : Cond.methodLink RX1 81 yX10_takeWord ∈ wsL_law := in_r17 _ (List.mem_of_getElem? (i := 15) rfl)
theorem kr17_16 : Cond.methodLink RX1 76 yX10_takeNumber ∈ wsL_law := in_r17 _ (List.mem_of_getElem? (i := 16) rfl)
theorem kr17_17 : Cond.methodLink RX1 60 yX1_readSprung ∈ wsL_law := in_r17 _ (List.mem_of_getElem? (i := 17) rfl)
theorem kr17_18 : Cond.instanceMethod yX1_readSprung ∈ wsL_law := in_r17 _ (List.mem_of_getElem? (i := 18) rfl)
theorem kr17_19 : Cond.selects RX1 yX1_readSprung yX1_readSprung ∈ wsL_law := in_r17 _ (List.mem_of_getElem? (i := 19) rfl)
theorem kr17_20 : Cond.code yX1_readSprung cX1_readSprung 4 none ∈ wsL_law := in_r17 _ (List.mem_of_getElem? (i := 20) rfl)
theorem kr17_21 : Cond.methodLink RX2 119 yX10_takeSign ∈ wsL_law := in_r17 _ (List.mem_of_getElem? (i := 21) rfl)
theorem kr17_22 : Cond.instanceMethod yX10_takeSign ∈ wsL_law := in_r17 _ (List.mem_of_getElem? (i := 22) rfl)
theorem kr17_23 : Cond.selects RX10 yX10_takeSign yX10_takeSign ∈ wsL_law := in_r17 _ (List.mem_of_getElem? (i := 23) rfl)
theorem kr18_0 : Cond.code yX10_takeSign cX10_takeSign 2 none ∈ wsL_law := in_r18 _ (List.mem_of_getElem? (i := 0) rfl)
theorem kr18_1 : Cond.methodLink RX10 74 yX10_isSign ∈ wsL_law := in_r18 _ (List.mem_of_getElem? (i := 1) rfl)
theorem kr18_2 : Cond.instanceMethod yX10_isSign ∈ wsL_law := in_r18 _ (List.mem_of_getElem? (i := 2) rfl)
theorem kr18_3 : Cond.selects RX10 yX10_isSign yX10_isSign ∈ wsL_law := in_r18 _ (List.mem_of_getElem? (i := 3) rfl)
theorem kr18_4 : Cond.code yX10_isSign cX10_isSign 2 (some .boolean) ∈ wsL_law := in_r18 _ (List.mem_of_getElem? (i := 4) rfl)
theorem kr18_5 : Cond.methodLink RX11 94 yX0_fillTable ∈ wsL_law := in_r18 _ (List.mem_of_getElem? (i := 5) rfl)
theorem kr18_6 : Cond.instanceMethod yX0_fillTable ∈ wsL_law := in_r18 _ (List.mem_of_getElem? (i := 6) rfl)
theorem kr18_7 : Cond.selects RX0 yX0_fillTable yX0_fillTable ∈ wsL_law := in_r18 _ (List.mem_of_getElem? (i := 7) rfl)
theorem kr18_8 : Cond.code yX0_fillTable cX0_fillTable 3 none ∈ wsL_law := in_r18 _ (List.mem_of_getElem? (i := 8) rfl)
theorem kr18_9 : Cond.fieldLink RX0 48 "NoseDrum$Machine" "noses" "LNoseDrum$Noses;" ∈ wsL_law := in_r18 _ (List.mem_of_getElem? (i := 9) rfl)
theorem kr18_10 : Cond.fieldLink RX0 54 "NoseDrum$Noses" "worn" "[I" ∈ wsL_law := in_r18 _ (List.mem_of_getElem? (i := 10) rfl)
theorem kr18_11 : Cond.fieldLink RX0 108 "NoseDrum$Machine" "followers" "LNoseDrum$Followers;" ∈ wsL_law := in_r18 _ (List.mem_of_getElem? (i := 11) rfl)
theorem kr18_12 : Cond.fieldLink RX0 150 "NoseDrum$Followers" "count" "I" ∈ wsL_law := in_r18 _ (List.mem_of_getElem? (i := 12) rfl)
theorem kr18_13 : Cond.methodLink RX0 89 arraycopyName ∈ wsL_law := in_r18 _ (List.mem_of_getElem? (i := 13) rfl)
theorem kr18_14 : Cond.native arraycopyName ∈ wsL_law := in_r18 _ (List.mem_of_getElem? (i := 14) rfl)
theorem kr18_15 : Cond.static arraycopyName ∈ wsL_law := in_r18 _ (List.mem_of_getElem? (i := 15) rfl)
theorem kr18_16 : Cond.initialized "java/lang/System" ∈ wsL_law := in_r18 _ (List.mem_of_getElem? (i := 16) rfl)
theorem kr18_17 : Cond.methodLink RX0 55 yX0_takeHeights ∈ wsL_law := in_r18 _ (List.mem_of_getElem? (i := 17) rfl)
theorem kr18_18 : Cond.instanceMethod yX0_takeHeights ∈ wsL_law := in_r18 _ (List.mem_of_getElem? (i := 18) rfl)
theorem kr18_19 : Cond.selects RX0 yX0_takeHeights yX0_takeHeights ∈ wsL_law := in_r18 _ (List.mem_of_getElem? (i := 19) rfl)
theorem kr18_20 : Cond.code yX0_takeHeights cX0_takeHeights 4 none ∈ wsL_law := in_r18 _ (List.mem_of_getElem? (i := 20) rfl)
theorem kr18_21 : Cond.fieldLink RX0 35 "NoseDrum$Noses" "count" "I" ∈ wsL_law := in_r18 _ (List.mem_of_getElem? (i := 21) rfl)
theorem kr18_22 : Cond.methodLink RX0 41 yX3_heightOf ∈ wsL_law := in_r18 _ (List.mem_of_getElem? (i := 22) rfl)
theorem kr18_23 : Cond.instanceMethod yX3_heightOf ∈ wsL_law := in_r18 _ (List.mem_of_getElem? (i := 23) rfl)
theorem kr19_0 : Cond.selects RX3 yX3_heightOf yX3_heightOf ∈ wsL_law := in_r19 _ (List.mem_of_getElem? (i := 0) rfl)
theorem kr19_1 : Cond.code yX3_heightOf cX3_heightOf 3 (some .int) ∈ wsL_law := in_r19 _ (List.mem_of_getElem? (i := 1) rfl)
theorem kr19_2 : Cond.methodLink RX3 67 Lib.Math.max.name ∈ wsL_law := in_r19 _ (List.mem_of_getElem? (i := 2) rfl)
theorem kr19_3 : Cond.static Lib.Math.max.name ∈ wsL_law := in_r19 _ (List.mem_of_getElem? (i := 3) rfl)
theorem kr19_4 : Cond.initialized "java/lang/Math" ∈ wsL_law := in_r19 _ (List.mem_of_getElem? (i := 4) rfl)
theorem kr19_5 : Cond.code Lib.Math.max.name Lib.Math.max.code 2 (some .int) ∈ wsL_law := in_r19 _ (List.mem_of_getElem? (i := 5) rfl)
theorem kr19_6 : Cond.methodLink RX0 102 yX0_fill ∈ wsL_law := in_r19 _ (List.mem_of_getElem? (i := 6) rfl)
theorem kr19_7 : Cond.instanceMethod yX0_fill ∈ wsL_law := in_r19 _ (List.mem_of_getElem? (i := 7) rfl)
theorem kr19_8 : Cond.selects RX0 yX0_fill yX0_fill ∈ wsL_law := in_r19 _ (List.mem_of_getElem? (i := 8) rfl)
theorem kr19_9 : Cond.code yX0_fill cX0_fill 6 none ∈ wsL_law := in_r19 _ (List.mem_of_getElem? (i := 9) rfl)
theorem kr19_10 : Cond.fieldLink RX0 117 "NoseDrum$Followers" "on" "[I" ∈ wsL_law := in_r19 _ (List.mem_of_getElem? (i := 10) rfl)
theorem kr19_11 : Cond.fieldLink RX0 120 "NoseDrum$Followers" "sort" "[I" ∈ wsL_law := in_r19 _ (List.mem_of_getElem? (i := 11) rfl)
theorem kr19_12 : Cond.fieldLink RX0 123 "NoseDrum$Followers" "first" "[I" ∈ wsL_law := in_r19 _ (List.mem_of_getElem? (i := 12) rfl)
theorem kr19_13 : Cond.fieldLink RX0 130 "NoseDrum$Followers" "spring" "[I" ∈ wsL_law := in_r19 _ (List.mem_of_getElem? (i := 13) rfl)
theorem kr19_14 : Cond.methodLink RX0 105 yX2_hasFollower ∈ wsL_law := in_r19 _ (List.mem_of_getElem? (i := 14) rfl)
theorem kr19_15 : Cond.instanceMethod yX2_hasFollower ∈ wsL_law := in_r19 _ (List.mem_of_getElem? (i := 15) rfl)
theorem kr19_16 : Cond.selects RX2 yX2_hasFollower yX2_hasFollower ∈ wsL_law := in_r19 _ (List.mem_of_getElem? (i := 16) rfl)
theorem kr19_17 : Cond.code yX2_hasFollower cX2_hasFollower 2 (some .boolean) ∈ wsL_law := in_r19 _ (List.mem_of_getElem? (i := 17) rfl)
theorem kr19_18 : Cond.methodLink RX0 112 yX1_rootOf ∈ wsL_law := in_r19 _ (List.mem_of_getElem? (i := 18) rfl)
theorem kr19_19 : Cond.instanceMethod yX1_rootOf ∈ wsL_law := in_r19 _ (List.mem_of_getElem? (i := 19) rfl)
theorem kr19_20 : Cond.selects RX1 yX1_rootOf yX1_rootOf ∈ wsL_law := in_r19 _ (List.mem_of_getElem? (i := 20) rfl)
theorem kr19_21 : Cond.code yX1_rootOf cX1_rootOf 4 (some .int) ∈ wsL_law := in_r19 _ (List.mem_of_getElem? (i := 21) rfl)
theorem kr19_22 : Cond.methodLink RX1 95 yX1_below ∈ wsL_law := in_r19 _ (List.mem_of_getElem? (i := 22) rfl)
theorem kr19_23 : Cond.instanceMethod yX1_below ∈ wsL_law := in_r19 _ (List.mem_of_getElem? (i := 23) rfl)
theorem kr20_0 : Cond.selects RX1 yX1_below yX1_below ∈ wsL_law := in_r20 _ (List.mem_of_getElem? (i := 0) rfl)
theorem kr20_1 : Cond.code yX1_below cX1_below 2 (some .int) ∈ wsL_law := in_r20 _ (List.mem_of_getElem? (i := 1) rfl)
theorem kr20_2 : Cond.methodLink RX0 59 yX0_fillProfile ∈ wsL_law := in_r20 _ (List.mem_of_getElem? (i := 2) rfl)
theorem kr20_3 : Cond.instanceMethod yX0_fillProfile ∈ wsL_law := in_r20 _ (List.mem_of_getElem? (i := 3) rfl)
theorem kr20_4 : Cond.selects RX0 yX0_fillProfile yX0_fillProfile ∈ wsL_law := in_r20 _ (List.mem_of_getElem? (i := 4) rfl)
theorem kr20_5 : Cond.code yX0_fillProfile cX0_fillProfile 4 none ∈ wsL_law := in_r20 _ (List.mem_of_getElem? (i := 5) rfl)
theorem kr20_6 : Cond.fieldLink RX0 67 "NoseDrum$Noses" "track" "[I" ∈ wsL_law := in_r20 _ (List.mem_of_getElem? (i := 6) rfl)
theorem kr20_7 : Cond.methodLink RX0 63 yX0_clearProfile ∈ wsL_law := in_r20 _ (List.mem_of_getElem? (i := 7) rfl)
theorem kr20_8 : Cond.instanceMethod yX0_clearProfile ∈ wsL_law := in_r20 _ (List.mem_of_getElem? (i := 8) rfl)
theorem kr20_9 : Cond.selects RX0 yX0_clearProfile yX0_clearProfile ∈ wsL_law := in_r20 _ (List.mem_of_getElem? (i := 9) rfl)
theorem kr20_10 : Cond.code yX0_clearProfile cX0_clearProfile 3 none ∈ wsL_law := in_r20 _ (List.mem_of_getElem? (i := 10) rfl)
theorem kr20_11 : Cond.fieldLink RX0 73 "NoseDrum$Machine" "steps" "I" ∈ wsL_law := in_r20 _ (List.mem_of_getElem? (i := 11) rfl)
theorem kr20_12 : Cond.methodLink RX0 70 yX0_raiseProfile ∈ wsL_law := in_r20 _ (List.mem_of_getElem? (i := 12) rfl)
theorem kr20_13 : Cond.instanceMethod yX0_raiseProfile ∈ wsL_law := in_r20 _ (List.mem_of_getElem? (i := 13) rfl)
theorem kr20_14 : Cond.selects RX0 yX0_raiseProfile yX0_raiseProfile ∈ wsL_law := in_r20 _ (List.mem_of_getElem? (i := 14) rfl)
theorem kr20_15 : Cond.code yX0_raiseProfile cX0_raiseProfile 12 none ∈ wsL_law := in_r20 _ (List.mem_of_getElem? (i := 15) rfl)
theorem kr20_16 : Cond.fieldLink RX0 76 "NoseDrum$Noses" "steep" "[I" ∈ wsL_law := in_r20 _ (List.mem_of_getElem? (i := 16) rfl)
theorem kr20_17 : Cond.fieldLink RX0 79 "NoseDrum$Noses" "wide" "[I" ∈ wsL_law := in_r20 _ (List.mem_of_getElem? (i := 17) rfl)
theorem kr20_18 : Cond.fieldLink RX0 82 "NoseDrum$Noses" "at" "[I" ∈ wsL_law := in_r20 _ (List.mem_of_getElem? (i := 18) rfl)
theorem kr20_19 : Cond.methodLink RX0 85 yX2_hasStep ∈ wsL_law := in_r20 _ (List.mem_of_getElem? (i := 19) rfl)
theorem kr20_20 : Cond.instanceMethod yX2_hasStep ∈ wsL_law := in_r20 _ (List.mem_of_getElem? (i := 20) rfl)
theorem kr20_21 : Cond.selects RX2 yX2_hasStep yX2_hasStep ∈ wsL_law := in_r20 _ (List.mem_of_getElem? (i := 21) rfl)
theorem kr20_22 : Cond.code yX2_hasStep cX2_hasStep 2 (some .boolean) ∈ wsL_law := in_r20 _ (List.mem_of_getElem? (i := 22) rfl)
theorem kr20_23 : Cond.methodLink RX0 126 yX0_spread ∈ wsL_law := in_r20 _ (List.mem_of_getElem? (i := 23) rfl)
theorem kr21_0 : Cond.instanceMethod yX0_spread ∈ wsL_law := in_r21 _ (List.mem_of_getElem? (i := 0) rfl)
theorem kr21_1 : Cond.selects RX0 yX0_spread yX0_spread ∈ wsL_law := in_r21 _ (List.mem_of_getElem? (i := 1) rfl)
theorem kr21_2 : Cond.code yX0_spread cX0_spread 9 none ∈ wsL_law := in_r21 _ (List.mem_of_getElem? (i := 2) rfl)
theorem kr21_3 : Cond.methodLink RX0 95 yX2_round ∈ wsL_law := in_r21 _ (List.mem_of_getElem? (i := 3) rfl)
theorem kr21_4 : Cond.instanceMethod yX2_round ∈ wsL_law := in_r21 _ (List.mem_of_getElem? (i := 4) rfl)
theorem kr21_5 : Cond.selects RX2 yX2_round yX2_round ∈ wsL_law := in_r21 _ (List.mem_of_getElem? (i := 5) rfl)
theorem kr21_6 : Cond.code yX2_round cX2_round 2 (some .int) ∈ wsL_law := in_r21 _ (List.mem_of_getElem? (i := 6) rfl)
theorem kr21_7 : Cond.methodLink RX2 55 yJ9_floorMod_7cf53 ∈ wsL_law := in_r21 _ (List.mem_of_getElem? (i := 7) rfl)
theorem kr21_8 : Cond.static yJ9_floorMod_7cf53 ∈ wsL_law := in_r21 _ (List.mem_of_getElem? (i := 8) rfl)
theorem kr21_9 : Cond.initialized RJ9 ∈ wsL_law := in_r21 _ (List.mem_of_getElem? (i := 9) rfl)
theorem kr21_10 : Cond.code yJ9_floorMod_7cf53 cJ9_floorMod_7cf53 3 (some .int) ∈ wsL_law := in_r21 _ (List.mem_of_getElem? (i := 10) rfl)
theorem kr21_11 : Cond.methodLink RX0 133 yX0_settle ∈ wsL_law := in_r21 _ (List.mem_of_getElem? (i := 11) rfl)
theorem kr21_12 : Cond.instanceMethod yX0_settle ∈ wsL_law := in_r21 _ (List.mem_of_getElem? (i := 12) rfl)
theorem kr21_13 : Cond.selects RX0 yX0_settle yX0_settle ∈ wsL_law := in_r21 _ (List.mem_of_getElem? (i := 13) rfl)
theorem kr21_14 : Cond.code yX0_settle cX0_settle 6 none ∈ wsL_law := in_r21 _ (List.mem_of_getElem? (i := 14) rfl)
theorem kr21_15 : Cond.methodLink RX0 142 Lib.Math.max.name ∈ wsL_law := in_r21 _ (List.mem_of_getElem? (i := 15) rfl)
theorem kr21_16 : Cond.methodLink RX0 136 yX1_leversOf ∈ wsL_law := in_r21 _ (List.mem_of_getElem? (i := 16) rfl)
theorem kr21_17 : Cond.instanceMethod yX1_leversOf ∈ wsL_law := in_r21 _ (List.mem_of_getElem? (i := 17) rfl)
theorem kr21_18 : Cond.selects RX1 yX1_leversOf yX1_leversOf ∈ wsL_law := in_r21 _ (List.mem_of_getElem? (i := 18) rfl)
theorem kr21_19 : Cond.code yX1_leversOf cX1_leversOf 5 (some .int) ∈ wsL_law := in_r21 _ (List.mem_of_getElem? (i := 19) rfl)
theorem kr21_20 : Cond.methodLink RX0 139 yX0_passLever ∈ wsL_law := in_r21 _ (List.mem_of_getElem? (i := 20) rfl)
theorem kr21_21 : Cond.instanceMethod yX0_passLever ∈ wsL_law := in_r21 _ (List.mem_of_getElem? (i := 21) rfl)
theorem kr21_22 : Cond.selects RX0 yX0_passLever yX0_passLever ∈ wsL_law := in_r21 _ (List.mem_of_getElem? (i := 22) rfl)
theorem kr21_23 : Cond.code yX0_passLever cX0_passLever 4 none ∈ wsL_law := in_r21 _ (List.mem_of_getElem? (i := 23) rfl)
theorem kr22_0 : Cond.methodLink RX0 147 yX1_leverOver ∈ wsL_law := in_r22 _ (List.mem_of_getElem? (i := 0) rfl)
theorem kr22_1 : Cond.instanceMethod yX1_leverOver ∈ wsL_law := in_r22 _ (List.mem_of_getElem? (i := 1) rfl)
theorem kr22_2 : Cond.selects RX1 yX1_leverOver yX1_leverOver ∈ wsL_law := in_r22 _ (List.mem_of_getElem? (i := 2) rfl)
theorem kr22_3 : Cond.code yX1_leverOver cX1_leverOver 3 (some .int) ∈ wsL_law := in_r22 _ (List.mem_of_getElem? (i := 3) rfl)
theorem kr22_4 : Cond.methodLink RX1 99 Lib.Math.min.name ∈ wsL_law := in_r22 _ (List.mem_of_getElem? (i := 4) rfl)
theorem kr22_5 : Cond.static Lib.Math.min.name ∈ wsL_law := in_r22 _ (List.mem_of_getElem? (i := 5) rfl)
theorem kr22_6 : Cond.code Lib.Math.min.name Lib.Math.min.code 2 (some .int) ∈ wsL_law := in_r22 _ (List.mem_of_getElem? (i := 6) rfl)
theorem kr22_7 : Cond.methodLink RX11 98 yX2_begin ∈ wsL_law := in_r22 _ (List.mem_of_getElem? (i := 7) rfl)
theorem kr22_8 : Cond.instanceMethod yX2_begin ∈ wsL_law := in_r22 _ (List.mem_of_getElem? (i := 8) rfl)
theorem kr22_9 : Cond.selects RX2 yX2_begin yX2_begin ∈ wsL_law := in_r22 _ (List.mem_of_getElem? (i := 9) rfl)
theorem kr22_10 : Cond.code yX2_begin cX2_begin 2 none ∈ wsL_law := in_r22 _ (List.mem_of_getElem? (i := 10) rfl)
theorem kr22_11 : Cond.methodLink RX2 172 yX1_begin ∈ wsL_law := in_r22 _ (List.mem_of_getElem? (i := 11) rfl)
theorem kr22_12 : Cond.instanceMethod yX1_begin ∈ wsL_law := in_r22 _ (List.mem_of_getElem? (i := 12) rfl)
theorem kr22_13 : Cond.selects RX1 yX1_begin yX1_begin ∈ wsL_law := in_r22 _ (List.mem_of_getElem? (i := 13) rfl)
theorem kr22_14 : Cond.code yX1_begin cX1_begin 4 none ∈ wsL_law := in_r22 _ (List.mem_of_getElem? (i := 14) rfl)
theorem kr22_15 : Cond.methodLink RX1 104 yX0_liftAt ∈ wsL_law := in_r22 _ (List.mem_of_getElem? (i := 15) rfl)
theorem kr22_16 : Cond.instanceMethod yX0_liftAt ∈ wsL_law := in_r22 _ (List.mem_of_getElem? (i := 16) rfl)
theorem kr22_17 : Cond.selects RX0 yX0_liftAt yX0_liftAt ∈ wsL_law := in_r22 _ (List.mem_of_getElem? (i := 17) rfl)
theorem kr22_18 : Cond.code yX0_liftAt cX0_liftAt 3 (some .int) ∈ wsL_law := in_r22 _ (List.mem_of_getElem? (i := 18) rfl)
theorem kr22_19 : Cond.methodLink RL 27 yX12_drum ∈ wsL_law := in_r22 _ (List.mem_of_getElem? (i := 19) rfl)
theorem kr22_20 : Cond.instanceMethod yX12_drum ∈ wsL_law := in_r22 _ (List.mem_of_getElem? (i := 20) rfl)
theorem kr22_21 : Cond.selects RX12 yX12_drum yX12_drum ∈ wsL_law := in_r22 _ (List.mem_of_getElem? (i := 21) rfl)
theorem kr22_22 : Cond.code yX12_drum cX12_drum 2 (some .int) ∈ wsL_law := in_r22 _ (List.mem_of_getElem? (i := 22) rfl)
theorem kr22_23 : Cond.fieldLink RX12 118 "NoseDrumModel" "token" "I" ∈ wsL_law := in_r22 _ (List.mem_of_getElem? (i := 23) rfl)
theorem kr23_0 : Cond.methodLink RX12 236 yX12_begins ∈ wsL_law := in_r23 _ (List.mem_of_getElem? (i := 0) rfl)
theorem kr23_1 : Cond.instanceMethod yX12_begins ∈ wsL_law := in_r23 _ (List.mem_of_getElem? (i := 1) rfl)
theorem kr23_2 : Cond.selects RX12 yX12_begins yX12_begins ∈ wsL_law := in_r23 _ (List.mem_of_getElem? (i := 2) rfl)
theorem kr23_3 : Cond.code yX12_begins cX12_begins 1 none ∈ wsL_law := in_r23 _ (List.mem_of_getElem? (i := 3) rfl)
theorem kr23_4 : Cond.fieldLink RX12 105 "NoseDrumModel" "size" "I" ∈ wsL_law := in_r23 _ (List.mem_of_getElem? (i := 4) rfl)
theorem kr23_5 : Cond.fieldLink RX12 108 "NoseDrumModel" "at" "I" ∈ wsL_law := in_r23 _ (List.mem_of_getElem? (i := 5) rfl)
theorem kr23_6 : Cond.fieldLink RX12 139 "NoseDrumModel" "faultKind" "I" ∈ wsL_law := in_r23 _ (List.mem_of_getElem? (i := 6) rfl)
theorem kr23_7 : Cond.methodLink RX12 142 yX12_advance ∈ wsL_law := in_r23 _ (List.mem_of_getElem? (i := 7) rfl)
theorem kr23_8 : Cond.instanceMethod yX12_advance ∈ wsL_law := in_r23 _ (List.mem_of_getElem? (i := 8) rfl)
theorem kr23_9 : Cond.selects RX12 yX12_advance yX12_advance ∈ wsL_law := in_r23 _ (List.mem_of_getElem? (i := 9) rfl)
theorem kr23_10 : Cond.code yX12_advance cX12_advance 2 none ∈ wsL_law := in_r23 _ (List.mem_of_getElem? (i := 10) rfl)
theorem kr23_11 : Cond.fieldLink RX12 115 "NoseDrumModel" "from" "I" ∈ wsL_law := in_r23 _ (List.mem_of_getElem? (i := 11) rfl)
theorem kr23_12 : Cond.constantLong RX12 121 (97) ∈ wsL_law := in_r23 _ (List.mem_of_getElem? (i := 12) rfl)
theorem kr23_13 : Cond.constantLong RX12 123 (122) ∈ wsL_law := in_r23 _ (List.mem_of_getElem? (i := 13) rfl)
theorem kr23_14 : Cond.constantLong RX12 125 (48) ∈ wsL_law := in_r23 _ (List.mem_of_getElem? (i := 14) rfl)
theorem kr23_15 : Cond.constantLong RX12 127 (57) ∈ wsL_law := in_r23 _ (List.mem_of_getElem? (i := 15) rfl)
theorem kr23_16 : Cond.fieldLink RX12 129 "NoseDrumModel" "value" "I" ∈ wsL_law := in_r23 _ (List.mem_of_getElem? (i := 16) rfl)
theorem kr23_17 : Cond.constant RX12 132 (99999) ∈ wsL_law := in_r23 _ (List.mem_of_getElem? (i := 17) rfl)
theorem kr23_18 : Cond.methodLink RX12 133 Lib.Math.min.name ∈ wsL_law := in_r23 _ (List.mem_of_getElem? (i := 18) rfl)
theorem kr23_19 : Cond.methodLink RX12 111 yX12_see ∈ wsL_law := in_r23 _ (List.mem_of_getElem? (i := 19) rfl)
theorem kr23_20 : Cond.instanceMethod yX12_see ∈ wsL_law := in_r23 _ (List.mem_of_getElem? (i := 20) rfl)
theorem kr23_21 : Cond.selects RX12 yX12_see yX12_see ∈ wsL_law := in_r23 _ (List.mem_of_getElem? (i := 21) rfl)
theorem kr23_22 : Cond.code yX12_see cX12_see 2 (some .int) ∈ wsL_law := in_r23 _ (List.mem_of_getElem? (i := 22) rfl)
theorem kr23_23 : Cond.methodLink RX12 145 yX12_good ∈ wsL_law := in_r23 _ (List.mem_of_getElem? (i := 23) rfl)
theorem kr24_0 : Cond.instanceMethod yX12_good ∈ wsL_law := in_r24 _ (List.mem_of_getElem? (i := 0) rfl)
theorem kr24_1 : Cond.selects RX12 yX12_good yX12_good ∈ wsL_law := in_r24 _ (List.mem_of_getElem? (i := 1) rfl)
theorem kr24_2 : Cond.code yX12_good cX12_good 1 (some .boolean) ∈ wsL_law := in_r24 _ (List.mem_of_getElem? (i := 2) rfl)
theorem kr24_3 : Cond.methodLink RX12 239 yX12_readDrum ∈ wsL_law := in_r24 _ (List.mem_of_getElem? (i := 3) rfl)
theorem kr24_4 : Cond.instanceMethod yX12_readDrum ∈ wsL_law := in_r24 _ (List.mem_of_getElem? (i := 4) rfl)
theorem kr24_5 : Cond.selects RX12 yX12_readDrum yX12_readDrum ∈ wsL_law := in_r24 _ (List.mem_of_getElem? (i := 5) rfl)
theorem kr24_6 : Cond.code yX12_readDrum cX12_readDrum 1 none ∈ wsL_law := in_r24 _ (List.mem_of_getElem? (i := 6) rfl)
theorem kr24_7 : Cond.methodLink RX12 170 yX12_needs ∈ wsL_law := in_r24 _ (List.mem_of_getElem? (i := 7) rfl)
theorem kr24_8 : Cond.instanceMethod yX12_needs ∈ wsL_law := in_r24 _ (List.mem_of_getElem? (i := 8) rfl)
theorem kr24_9 : Cond.selects RX12 yX12_needs yX12_needs ∈ wsL_law := in_r24 _ (List.mem_of_getElem? (i := 9) rfl)
theorem kr24_10 : Cond.code yX12_needs cX12_needs 2 none ∈ wsL_law := in_r24 _ (List.mem_of_getElem? (i := 10) rfl)
theorem kr24_11 : Cond.methodLink RX12 163 yX12_takes ∈ wsL_law := in_r24 _ (List.mem_of_getElem? (i := 11) rfl)
theorem kr24_12 : Cond.instanceMethod yX12_takes ∈ wsL_law := in_r24 _ (List.mem_of_getElem? (i := 12) rfl)
theorem kr24_13 : Cond.selects RX12 yX12_takes yX12_takes ∈ wsL_law := in_r24 _ (List.mem_of_getElem? (i := 13) rfl)
theorem kr24_14 : Cond.code yX12_takes cX12_takes 3 (some .boolean) ∈ wsL_law := in_r24 _ (List.mem_of_getElem? (i := 14) rfl)
theorem kr24_15 : Cond.methodLink RX12 159 yX12_is ∈ wsL_law := in_r24 _ (List.mem_of_getElem? (i := 15) rfl)
theorem kr24_16 : Cond.instanceMethod yX12_is ∈ wsL_law := in_r24 _ (List.mem_of_getElem? (i := 16) rfl)
theorem kr24_17 : Cond.selects RX12 yX12_is yX12_is ∈ wsL_law := in_r24 _ (List.mem_of_getElem? (i := 17) rfl)
theorem kr24_18 : Cond.code yX12_is cX12_is 4 (some .boolean) ∈ wsL_law := in_r24 _ (List.mem_of_getElem? (i := 18) rfl)
theorem kr24_19 : Cond.methodLink RX12 149 yJ0_length_8abf5 ∈ wsL_law := in_r24 _ (List.mem_of_getElem? (i := 19) rfl)
theorem kr24_20 : Cond.methodLink RX12 155 yJ0_charAt_5068e ∈ wsL_law := in_r24 _ (List.mem_of_getElem? (i := 20) rfl)
theorem kr24_21 : Cond.methodLink RX12 166 yX12_errs ∈ wsL_law := in_r24 _ (List.mem_of_getElem? (i := 21) rfl)
theorem kr24_22 : Cond.instanceMethod yX12_errs ∈ wsL_law := in_r24 _ (List.mem_of_getElem? (i := 22) rfl)
theorem kr24_23 : Cond.selects RX12 yX12_errs yX12_errs ∈ wsL_law := in_r24 _ (List.mem_of_getElem? (i := 23) rfl)
theorem kr25_0 : Cond.code yX12_errs cX12_errs 2 none ∈ wsL_law := in_r25 _ (List.mem_of_getElem? (i := 0) rfl)
theorem kr25_1 : Cond.methodLink RX12 181 yX12_told ∈ wsL_law := in_r25 _ (List.mem_of_getElem? (i := 1) rfl)
theorem kr25_2 : Cond.instanceMethod yX12_told ∈ wsL_law := in_r25 _ (List.mem_of_getElem? (i := 2) rfl)
theorem kr25_3 : Cond.selects RX12 yX12_told yX12_told ∈ wsL_law := in_r25 _ (List.mem_of_getElem? (i := 3) rfl)
theorem kr25_4 : Cond.code yX12_told cX12_told 4 (some .int) ∈ wsL_law := in_r25 _ (List.mem_of_getElem? (i := 4) rfl)
theorem kr25_5 : Cond.methodLink RX12 174 yX12_number ∈ wsL_law := in_r25 _ (List.mem_of_getElem? (i := 5) rfl)
theorem kr25_6 : Cond.instanceMethod yX12_number ∈ wsL_law := in_r25 _ (List.mem_of_getElem? (i := 6) rfl)
theorem kr25_7 : Cond.selects RX12 yX12_number yX12_number ∈ wsL_law := in_r25 _ (List.mem_of_getElem? (i := 7) rfl)
theorem kr25_8 : Cond.code yX12_number cX12_number 4 (some .int) ∈ wsL_law := in_r25 _ (List.mem_of_getElem? (i := 8) rfl)
theorem kr25_9 : Cond.methodLink RX12 242 yX12_readNext ∈ wsL_law := in_r25 _ (List.mem_of_getElem? (i := 9) rfl)
theorem kr25_10 : Cond.instanceMethod yX12_readNext ∈ wsL_law := in_r25 _ (List.mem_of_getElem? (i := 10) rfl)
theorem kr25_11 : Cond.selects RX12 yX12_readNext yX12_readNext ∈ wsL_law := in_r25 _ (List.mem_of_getElem? (i := 11) rfl)
theorem kr25_12 : Cond.code yX12_readNext cX12_readNext 2 none ∈ wsL_law := in_r25 _ (List.mem_of_getElem? (i := 12) rfl)
theorem kr25_13 : Cond.methodLink RX12 214 yX12_sortOf ∈ wsL_law := in_r25 _ (List.mem_of_getElem? (i := 13) rfl)
theorem kr25_14 : Cond.instanceMethod yX12_sortOf ∈ wsL_law := in_r25 _ (List.mem_of_getElem? (i := 14) rfl)
theorem kr25_15 : Cond.selects RX12 yX12_sortOf yX12_sortOf ∈ wsL_law := in_r25 _ (List.mem_of_getElem? (i := 15) rfl)
theorem kr25_16 : Cond.code yX12_sortOf cX12_sortOf 1 (some .int) ∈ wsL_law := in_r25 _ (List.mem_of_getElem? (i := 16) rfl)
theorem kr25_17 : Cond.methodLink RX12 225 yX12_readNose ∈ wsL_law := in_r25 _ (List.mem_of_getElem? (i := 17) rfl)
theorem kr25_18 : Cond.instanceMethod yX12_readNose ∈ wsL_law := in_r25 _ (List.mem_of_getElem? (i := 18) rfl)
theorem kr25_19 : Cond.selects RX12 yX12_readNose yX12_readNose ∈ wsL_law := in_r25 _ (List.mem_of_getElem? (i := 19) rfl)
theorem kr25_20 : Cond.code yX12_readNose cX12_readNose 2 none ∈ wsL_law := in_r25 _ (List.mem_of_getElem? (i := 20) rfl)
theorem kr25_21 : Cond.methodLink RX12 228 yX12_readPawl ∈ wsL_law := in_r25 _ (List.mem_of_getElem? (i := 21) rfl)
theorem kr25_22 : Cond.instanceMethod yX12_readPawl ∈ wsL_law := in_r25 _ (List.mem_of_getElem? (i := 22) rfl)
theorem kr25_23 : Cond.selects RX12 yX12_readPawl yX12_readPawl ∈ wsL_law := in_r25 _ (List.mem_of_getElem? (i := 23) rfl)
theorem kr26_0 : Cond.code yX12_readPawl cX12_readPawl 2 none ∈ wsL_law := in_r26 _ (List.mem_of_getElem? (i := 0) rfl)
theorem kr26_1 : Cond.methodLink RX12 233 yX12_readFollower ∈ wsL_law := in_r26 _ (List.mem_of_getElem? (i := 1) rfl)
theorem kr26_2 : Cond.instanceMethod yX12_readFollower ∈ wsL_law := in_r26 _ (List.mem_of_getElem? (i := 2) rfl)
theorem kr26_3 : Cond.selects RX12 yX12_readFollower yX12_readFollower ∈ wsL_law := in_r26 _ (List.mem_of_getElem? (i := 3) rfl)
theorem kr26_4 : Cond.code yX12_readFollower cX12_readFollower 3 none ∈ wsL_law := in_r26 _ (List.mem_of_getElem? (i := 4) rfl)
theorem kr26_5 : Cond.methodLink RX12 245 yX12_needsToken ∈ wsL_law := in_r26 _ (List.mem_of_getElem? (i := 5) rfl)
theorem kr26_6 : Cond.instanceMethod yX12_needsToken ∈ wsL_law := in_r26 _ (List.mem_of_getElem? (i := 6) rfl)
theorem kr26_7 : Cond.selects RX12 yX12_needsToken yX12_needsToken ∈ wsL_law := in_r26 _ (List.mem_of_getElem? (i := 7) rfl)
theorem kr26_8 : Cond.code yX12_needsToken cX12_needsToken 2 none ∈ wsL_law := in_r26 _ (List.mem_of_getElem? (i := 8) rfl)
theorem kr26_9 : Cond.methodLink RX12 248 yX12_isDrum ∈ wsL_law := in_r26 _ (List.mem_of_getElem? (i := 9) rfl)
theorem kr26_10 : Cond.instanceMethod yX12_isDrum ∈ wsL_law := in_r26 _ (List.mem_of_getElem? (i := 10) rfl)
theorem kr26_11 : Cond.selects RX12 yX12_isDrum yX12_isDrum ∈ wsL_law := in_r26 _ (List.mem_of_getElem? (i := 11) rfl)
theorem kr26_12 : Cond.code yX12_isDrum cX12_isDrum 1 (some .boolean) ∈ wsL_law := in_r26 _ (List.mem_of_getElem? (i := 12) rfl)
theorem kr26_13 : Cond.methodLink RX12 251 yX12_settles ∈ wsL_law := in_r26 _ (List.mem_of_getElem? (i := 13) rfl)
theorem kr26_14 : Cond.instanceMethod yX12_settles ∈ wsL_law := in_r26 _ (List.mem_of_getElem? (i := 14) rfl)
theorem kr26_15 : Cond.selects RX12 yX12_settles yX12_settles ∈ wsL_law := in_r26 _ (List.mem_of_getElem? (i := 15) rfl)
theorem kr26_16 : Cond.code yX12_settles cX12_settles 2 none ∈ wsL_law := in_r26 _ (List.mem_of_getElem? (i := 16) rfl)
theorem kr26_17 : Cond.methodLink RX12 292 yX12_fillLifts ∈ wsL_law := in_r26 _ (List.mem_of_getElem? (i := 17) rfl)
theorem kr26_18 : Cond.instanceMethod yX12_fillLifts ∈ wsL_law := in_r26 _ (List.mem_of_getElem? (i := 18) rfl)
theorem kr26_19 : Cond.selects RX12 yX12_fillLifts yX12_fillLifts ∈ wsL_law := in_r26 _ (List.mem_of_getElem? (i := 19) rfl)
theorem kr26_20 : Cond.code yX12_fillLifts cX12_fillLifts 3 none ∈ wsL_law := in_r26 _ (List.mem_of_getElem? (i := 20) rfl)
theorem kr26_21 : Cond.methodLink RX12 270 yX12_fillProfiles ∈ wsL_law := in_r26 _ (List.mem_of_getElem? (i := 21) rfl)
theorem kr26_22 : Cond.instanceMethod yX12_fillProfiles ∈ wsL_law := in_r26 _ (List.mem_of_getElem? (i := 22) rfl)
theorem kr26_23 : Cond.selects RX12 yX12_fillProfiles yX12_fillProfiles ∈ wsL_law := in_r26 _ (List.mem_of_getElem? (i := 23) rfl)
theorem kr27_0 : Cond.code yX12_fillProfiles cX12_fillProfiles 3 none ∈ wsL_law := in_r27 _ (List.mem_of_getElem? (i := 0) rfl)
theorem kr27_1 : Cond.methodLink RX12 266 yX12_profileBut ∈ wsL_law := in_r27 _ (List.mem_of_getElem? (i := 1) rfl)
theorem kr27_2 : Cond.instanceMethod yX12_profileBut ∈ wsL_law := in_r27 _ (List.mem_of_getElem? (i := 2) rfl)
theorem kr27_3 : Cond.selects RX12 yX12_profileBut yX12_profileBut ∈ wsL_law := in_r27 _ (List.mem_of_getElem? (i := 3) rfl)
theorem kr27_4 : Cond.code yX12_profileBut cX12_profileBut 6 (some .int) ∈ wsL_law := in_r27 _ (List.mem_of_getElem? (i := 4) rfl)
theorem kr27_5 : Cond.methodLink RX12 257 Lib.Math.max.name ∈ wsL_law := in_r27 _ (List.mem_of_getElem? (i := 5) rfl)
theorem kr27_6 : Cond.methodLink RX12 254 yX12_ofNose ∈ wsL_law := in_r27 _ (List.mem_of_getElem? (i := 6) rfl)
theorem kr27_7 : Cond.instanceMethod yX12_ofNose ∈ wsL_law := in_r27 _ (List.mem_of_getElem? (i := 7) rfl)
theorem kr27_8 : Cond.selects RX12 yX12_ofNose yX12_ofNose ∈ wsL_law := in_r27 _ (List.mem_of_getElem? (i := 8) rfl)
theorem kr27_9 : Cond.code yX12_ofNose cX12_ofNose 3 (some .int) ∈ wsL_law := in_r27 _ (List.mem_of_getElem? (i := 9) rfl)
theorem kr27_10 : Cond.methodLink RX12 263 yX12_heightOf ∈ wsL_law := in_r27 _ (List.mem_of_getElem? (i := 10) rfl)
theorem kr27_11 : Cond.instanceMethod yX12_heightOf ∈ wsL_law := in_r27 _ (List.mem_of_getElem? (i := 11) rfl)
theorem kr27_12 : Cond.selects RX12 yX12_heightOf yX12_heightOf ∈ wsL_law := in_r27 _ (List.mem_of_getElem? (i := 12) rfl)
theorem kr27_13 : Cond.code yX12_heightOf cX12_heightOf 6 (some .int) ∈ wsL_law := in_r27 _ (List.mem_of_getElem? (i := 13) rfl)
theorem kr27_14 : Cond.methodLink RX12 260 yX12_round ∈ wsL_law := in_r27 _ (List.mem_of_getElem? (i := 14) rfl)
theorem kr27_15 : Cond.instanceMethod yX12_round ∈ wsL_law := in_r27 _ (List.mem_of_getElem? (i := 15) rfl)
theorem kr27_16 : Cond.selects RX12 yX12_round yX12_round ∈ wsL_law := in_r27 _ (List.mem_of_getElem? (i := 16) rfl)
theorem kr27_17 : Cond.code yX12_round cX12_round 3 (some .int) ∈ wsL_law := in_r27 _ (List.mem_of_getElem? (i := 17) rfl)
theorem kr27_18 : Cond.methodLink RX12 273 yX12_of ∈ wsL_law := in_r27 _ (List.mem_of_getElem? (i := 18) rfl)
theorem kr27_19 : Cond.instanceMethod yX12_of ∈ wsL_law := in_r27 _ (List.mem_of_getElem? (i := 19) rfl)
theorem kr27_20 : Cond.selects RX12 yX12_of yX12_of ∈ wsL_law := in_r27 _ (List.mem_of_getElem? (i := 20) rfl)
theorem kr27_21 : Cond.code yX12_of cX12_of 3 (some .int) ∈ wsL_law := in_r27 _ (List.mem_of_getElem? (i := 21) rfl)
theorem kr27_22 : Cond.methodLink RX12 276 yX12_leverOf ∈ wsL_law := in_r27 _ (List.mem_of_getElem? (i := 22) rfl)
theorem kr27_23 : Cond.instanceMethod yX12_leverOf ∈ wsL_law := in_r27 _ (List.mem_of_getElem? (i := 23) rfl)
theorem kr28_0 : Cond.selects RX12 yX12_leverOf yX12_leverOf ∈ wsL_law := in_r28 _ (List.mem_of_getElem? (i := 0) rfl)
theorem kr28_1 : Cond.code yX12_leverOf cX12_leverOf 3 (some .int) ∈ wsL_law := in_r28 _ (List.mem_of_getElem? (i := 1) rfl)
theorem kr28_2 : Cond.methodLink RX12 279 yX12_liftBy ∈ wsL_law := in_r28 _ (List.mem_of_getElem? (i := 2) rfl)
theorem kr28_3 : Cond.instanceMethod yX12_liftBy ∈ wsL_law := in_r28 _ (List.mem_of_getElem? (i := 3) rfl)
theorem kr28_4 : Cond.selects RX12 yX12_liftBy yX12_liftBy ∈ wsL_law := in_r28 _ (List.mem_of_getElem? (i := 4) rfl)
theorem kr28_5 : Cond.code yX12_liftBy cX12_liftBy 6 (some .int) ∈ wsL_law := in_r28 _ (List.mem_of_getElem? (i := 5) rfl)
theorem kr28_6 : Cond.methodLink RX12 297 yX12_posOf ∈ wsL_law := in_r28 _ (List.mem_of_getElem? (i := 6) rfl)
theorem kr28_7 : Cond.instanceMethod yX12_posOf ∈ wsL_law := in_r28 _ (List.mem_of_getElem? (i := 7) rfl)
theorem kr28_8 : Cond.selects RX12 yX12_posOf yX12_posOf ∈ wsL_law := in_r28 _ (List.mem_of_getElem? (i := 8) rfl)
theorem kr28_9 : Cond.code yX12_posOf cX12_posOf 2 (some .int) ∈ wsL_law := in_r28 _ (List.mem_of_getElem? (i := 9) rfl)
theorem kr28_10 : Cond.methodLink RX12 300 yX12_writes ∈ wsL_law := in_r28 _ (List.mem_of_getElem? (i := 10) rfl)
theorem kr28_11 : Cond.instanceMethod yX12_writes ∈ wsL_law := in_r28 _ (List.mem_of_getElem? (i := 11) rfl)
theorem kr28_12 : Cond.selects RX12 yX12_writes yX12_writes ∈ wsL_law := in_r28 _ (List.mem_of_getElem? (i := 12) rfl)
theorem kr28_13 : Cond.code yX12_writes cX12_writes 2 none ∈ wsL_law := in_r28 _ (List.mem_of_getElem? (i := 13) rfl)
theorem kr28_14 : Cond.methodLink RL 28 yX11_motion ∈ wsL_law := in_r28 _ (List.mem_of_getElem? (i := 14) rfl)
theorem kr28_15 : Cond.instanceMethod yX11_motion ∈ wsL_law := in_r28 _ (List.mem_of_getElem? (i := 15) rfl)
theorem kr28_16 : Cond.selects RX11 yX11_motion yX11_motion ∈ wsL_law := in_r28 _ (List.mem_of_getElem? (i := 16) rfl)
theorem kr28_17 : Cond.code yX11_motion cX11_motion 1 (some .int) ∈ wsL_law := in_r28 _ (List.mem_of_getElem? (i := 17) rfl)
theorem kr28_18 : Cond.fieldLink RX11 108 "NoseDrum$Machine" "followers" "LNoseDrum$Followers;" ∈ wsL_law := in_r28 _ (List.mem_of_getElem? (i := 18) rfl)
theorem kr28_19 : Cond.fieldLink RX11 112 "NoseDrum$Followers" "count" "I" ∈ wsL_law := in_r28 _ (List.mem_of_getElem? (i := 19) rfl)
theorem kr28_20 : Cond.fieldLink RX11 120 "NoseDrum$Machine" "hasMotion" "Z" ∈ wsL_law := in_r28 _ (List.mem_of_getElem? (i := 20) rfl)
theorem kr28_21 : Cond.methodLink RX11 105 yX2_isTold ∈ wsL_law := in_r28 _ (List.mem_of_getElem? (i := 21) rfl)
theorem kr28_22 : Cond.instanceMethod yX2_isTold ∈ wsL_law := in_r28 _ (List.mem_of_getElem? (i := 22) rfl)
theorem kr28_23 : Cond.selects RX2 yX2_isTold yX2_isTold ∈ wsL_law := in_r28 _ (List.mem_of_getElem? (i := 23) rfl)
theorem kr29_0 : Cond.code yX2_isTold cX2_isTold 1 (some .boolean) ∈ wsL_law := in_r29 _ (List.mem_of_getElem? (i := 0) rfl)
theorem kr29_1 : Cond.methodLink RX11 117 yX5_readFrom ∈ wsL_law := in_r29 _ (List.mem_of_getElem? (i := 1) rfl)
theorem kr29_2 : Cond.instanceMethod yX5_readFrom ∈ wsL_law := in_r29 _ (List.mem_of_getElem? (i := 2) rfl)
theorem kr29_3 : Cond.selects RX5 yX5_readFrom yX5_readFrom ∈ wsL_law := in_r29 _ (List.mem_of_getElem? (i := 3) rfl)
theorem kr29_4 : Cond.code yX5_readFrom cX5_readFrom 4 none ∈ wsL_law := in_r29 _ (List.mem_of_getElem? (i := 4) rfl)
theorem kr29_5 : Cond.fieldLink RX5 33 "NoseDrum$Program" "count" "I" ∈ wsL_law := in_r29 _ (List.mem_of_getElem? (i := 5) rfl)
theorem kr29_6 : Cond.fieldLink RX5 37 "NoseDrum$Program" "open" "I" ∈ wsL_law := in_r29 _ (List.mem_of_getElem? (i := 6) rfl)
theorem kr29_7 : Cond.methodLink RX5 40 yX10_goesOn ∈ wsL_law := in_r29 _ (List.mem_of_getElem? (i := 7) rfl)
theorem kr29_8 : Cond.methodLink RX5 44 yX5_readAct ∈ wsL_law := in_r29 _ (List.mem_of_getElem? (i := 8) rfl)
theorem kr29_9 : Cond.instanceMethod yX5_readAct ∈ wsL_law := in_r29 _ (List.mem_of_getElem? (i := 9) rfl)
theorem kr29_10 : Cond.selects RX5 yX5_readAct yX5_readAct ∈ wsL_law := in_r29 _ (List.mem_of_getElem? (i := 10) rfl)
theorem kr29_11 : Cond.code yX5_readAct cX5_readAct 5 none ∈ wsL_law := in_r29 _ (List.mem_of_getElem? (i := 11) rfl)
theorem kr29_12 : Cond.methodLink RX5 54 yX10_isWord ∈ wsL_law := in_r29 _ (List.mem_of_getElem? (i := 12) rfl)
theorem kr29_13 : Cond.methodLink RX5 58 yX5_readMove ∈ wsL_law := in_r29 _ (List.mem_of_getElem? (i := 13) rfl)
theorem kr29_14 : Cond.instanceMethod yX5_readMove ∈ wsL_law := in_r29 _ (List.mem_of_getElem? (i := 14) rfl)
theorem kr29_15 : Cond.selects RX5 yX5_readMove yX5_readMove ∈ wsL_law := in_r29 _ (List.mem_of_getElem? (i := 15) rfl)
theorem kr29_16 : Cond.code yX5_readMove cX5_readMove 5 none ∈ wsL_law := in_r29 _ (List.mem_of_getElem? (i := 16) rfl)
theorem kr29_17 : Cond.methodLink RX5 68 yX10_readToken ∈ wsL_law := in_r29 _ (List.mem_of_getElem? (i := 17) rfl)
theorem kr29_18 : Cond.methodLink RX5 71 yX10_takeNumber ∈ wsL_law := in_r29 _ (List.mem_of_getElem? (i := 18) rfl)
theorem kr29_19 : Cond.methodLink RX5 95 yX10_takeSign ∈ wsL_law := in_r29 _ (List.mem_of_getElem? (i := 19) rfl)
theorem kr29_20 : Cond.methodLink RX5 99 yX5_add ∈ wsL_law := in_r29 _ (List.mem_of_getElem? (i := 20) rfl)
theorem kr29_21 : Cond.instanceMethod yX5_add ∈ wsL_law := in_r29 _ (List.mem_of_getElem? (i := 21) rfl)
theorem kr29_22 : Cond.selects RX5 yX5_add yX5_add ∈ wsL_law := in_r29 _ (List.mem_of_getElem? (i := 22) rfl)
theorem kr29_23 : Cond.code yX5_add cX5_add 4 none ∈ wsL_law := in_r29 _ (List.mem_of_getElem? (i := 23) rfl)
theorem kr30_0 : Cond.methodLink RX5 75 yX5_readOpening ∈ wsL_law := in_r30 _ (List.mem_of_getElem? (i := 0) rfl)
theorem kr30_1 : Cond.instanceMethod yX5_readOpening ∈ wsL_law := in_r30 _ (List.mem_of_getElem? (i := 1) rfl)
theorem kr30_2 : Cond.selects RX5 yX5_readOpening yX5_readOpening ∈ wsL_law := in_r30 _ (List.mem_of_getElem? (i := 2) rfl)
theorem kr30_3 : Cond.code yX5_readOpening cX5_readOpening 5 none ∈ wsL_law := in_r30 _ (List.mem_of_getElem? (i := 3) rfl)
theorem kr30_4 : Cond.fieldLink RX5 103 "NoseDrum$Tape" "fault" "I" ∈ wsL_law := in_r30 _ (List.mem_of_getElem? (i := 4) rfl)
theorem kr30_5 : Cond.methodLink RX5 87 yX10_isSign ∈ wsL_law := in_r30 _ (List.mem_of_getElem? (i := 5) rfl)
theorem kr30_6 : Cond.methodLink RX5 48 yX10_blame ∈ wsL_law := in_r30 _ (List.mem_of_getElem? (i := 6) rfl)
theorem kr30_7 : Cond.methodLink RX5 83 yX10_takeWord ∈ wsL_law := in_r30 _ (List.mem_of_getElem? (i := 7) rfl)
theorem kr30_8 : Cond.methodLink RX5 91 yX5_readClosing ∈ wsL_law := in_r30 _ (List.mem_of_getElem? (i := 8) rfl)
theorem kr30_9 : Cond.instanceMethod yX5_readClosing ∈ wsL_law := in_r30 _ (List.mem_of_getElem? (i := 9) rfl)
theorem kr30_10 : Cond.selects RX5 yX5_readClosing yX5_readClosing ∈ wsL_law := in_r30 _ (List.mem_of_getElem? (i := 10) rfl)
theorem kr30_11 : Cond.code yX5_readClosing cX5_readClosing 3 none ∈ wsL_law := in_r30 _ (List.mem_of_getElem? (i := 11) rfl)
theorem kr30_12 : Cond.methodLink RX11 124 yX5_fillRow ∈ wsL_law := in_r30 _ (List.mem_of_getElem? (i := 12) rfl)
theorem kr30_13 : Cond.instanceMethod yX5_fillRow ∈ wsL_law := in_r30 _ (List.mem_of_getElem? (i := 13) rfl)
theorem kr30_14 : Cond.selects RX5 yX5_fillRow yX5_fillRow ∈ wsL_law := in_r30 _ (List.mem_of_getElem? (i := 14) rfl)
theorem kr30_15 : Cond.code yX5_fillRow cX5_fillRow 5 (some .int) ∈ wsL_law := in_r30 _ (List.mem_of_getElem? (i := 15) rfl)
theorem kr30_16 : Cond.fieldLink RX5 106 "NoseDrum$Program" "step" "I" ∈ wsL_law := in_r30 _ (List.mem_of_getElem? (i := 16) rfl)
theorem kr30_17 : Cond.fieldLink RX5 109 "NoseDrum$Program" "height" "I" ∈ wsL_law := in_r30 _ (List.mem_of_getElem? (i := 17) rfl)
theorem kr30_18 : Cond.fieldLink RX5 112 "NoseDrum$Machine" "row" "[I" ∈ wsL_law := in_r30 _ (List.mem_of_getElem? (i := 18) rfl)
theorem kr30_19 : Cond.constant RX5 117 (1000000) ∈ wsL_law := in_r30 _ (List.mem_of_getElem? (i := 19) rfl)
theorem kr30_20 : Cond.fieldLink RX5 118 "NoseDrum$Machine" "steps" "I" ∈ wsL_law := in_r30 _ (List.mem_of_getElem? (i := 20) rfl)
theorem kr30_21 : Cond.methodLink RX5 121 yX5_behindAct ∈ wsL_law := in_r30 _ (List.mem_of_getElem? (i := 21) rfl)
theorem kr30_22 : Cond.instanceMethod yX5_behindAct ∈ wsL_law := in_r30 _ (List.mem_of_getElem? (i := 22) rfl)
theorem kr30_23 : Cond.selects RX5 yX5_behindAct yX5_behindAct ∈ wsL_law := in_r30 _ (List.mem_of_getElem? (i := 23) rfl)
theorem kr31_0 : Cond.code yX5_behindAct cX5_behindAct 4 (some .int) ∈ wsL_law := in_r31 _ (List.mem_of_getElem? (i := 0) rfl)
theorem kr31_1 : Cond.methodLink RX5 129 Lib.Math.max.name ∈ wsL_law := in_r31 _ (List.mem_of_getElem? (i := 1) rfl)
theorem kr31_2 : Cond.methodLink RX5 125 yX5_comeOn ∈ wsL_law := in_r31 _ (List.mem_of_getElem? (i := 2) rfl)
theorem kr31_3 : Cond.instanceMethod yX5_comeOn ∈ wsL_law := in_r31 _ (List.mem_of_getElem? (i := 3) rfl)
theorem kr31_4 : Cond.selects RX5 yX5_comeOn yX5_comeOn ∈ wsL_law := in_r31 _ (List.mem_of_getElem? (i := 4) rfl)
theorem kr31_5 : Cond.code yX5_comeOn cX5_comeOn 4 none ∈ wsL_law := in_r31 _ (List.mem_of_getElem? (i := 5) rfl)
theorem kr31_6 : Cond.methodLink RX5 134 yX5_enter ∈ wsL_law := in_r31 _ (List.mem_of_getElem? (i := 6) rfl)
theorem kr31_7 : Cond.instanceMethod yX5_enter ∈ wsL_law := in_r31 _ (List.mem_of_getElem? (i := 7) rfl)
theorem kr31_8 : Cond.selects RX5 yX5_enter yX5_enter ∈ wsL_law := in_r31 _ (List.mem_of_getElem? (i := 8) rfl)
theorem kr31_9 : Cond.code yX5_enter cX5_enter 2 none ∈ wsL_law := in_r31 _ (List.mem_of_getElem? (i := 9) rfl)
theorem kr31_10 : Cond.methodLink RX5 137 yX0_liftAt ∈ wsL_law := in_r31 _ (List.mem_of_getElem? (i := 10) rfl)
theorem kr31_11 : Cond.methodLink RX5 142 yX5_behindClosing ∈ wsL_law := in_r31 _ (List.mem_of_getElem? (i := 11) rfl)
theorem kr31_12 : Cond.instanceMethod yX5_behindClosing ∈ wsL_law := in_r31 _ (List.mem_of_getElem? (i := 12) rfl)
theorem kr31_13 : Cond.selects RX5 yX5_behindClosing yX5_behindClosing ∈ wsL_law := in_r31 _ (List.mem_of_getElem? (i := 13) rfl)
theorem kr31_14 : Cond.code yX5_behindClosing cX5_behindClosing 3 (some .int) ∈ wsL_law := in_r31 _ (List.mem_of_getElem? (i := 14) rfl)
theorem kr31_15 : Cond.methodLink RL 31 yX12_motion ∈ wsL_law := in_r31 _ (List.mem_of_getElem? (i := 15) rfl)
theorem kr31_16 : Cond.instanceMethod yX12_motion ∈ wsL_law := in_r31 _ (List.mem_of_getElem? (i := 16) rfl)
theorem kr31_17 : Cond.selects RX12 yX12_motion yX12_motion ∈ wsL_law := in_r31 _ (List.mem_of_getElem? (i := 17) rfl)
theorem kr31_18 : Cond.code yX12_motion cX12_motion 3 (some .int) ∈ wsL_law := in_r31 _ (List.mem_of_getElem? (i := 18) rfl)
theorem kr31_19 : Cond.fieldLink RX12 354 "NoseDrumModel" "actMany" "I" ∈ wsL_law := in_r31 _ (List.mem_of_getElem? (i := 19) rfl)
theorem kr31_20 : Cond.fieldLink RX12 357 "NoseDrumModel" "opened" "I" ∈ wsL_law := in_r31 _ (List.mem_of_getElem? (i := 20) rfl)
theorem kr31_21 : Cond.fieldLink RX12 381 "NoseDrumModel" "comes" "I" ∈ wsL_law := in_r31 _ (List.mem_of_getElem? (i := 21) rfl)
theorem kr31_22 : Cond.methodLink RX12 390 yX12_readAct ∈ wsL_law := in_r31 _ (List.mem_of_getElem? (i := 22) rfl)
theorem kr31_23 : Cond.instanceMethod yX12_readAct ∈ wsL_law := in_r31 _ (List.mem_of_getElem? (i := 23) rfl)
theorem kr32_0 : Cond.selects RX12 yX12_readAct yX12_readAct ∈ wsL_law := in_r32 _ (List.mem_of_getElem? (i := 0) rfl)
theorem kr32_1 : Cond.code yX12_readAct cX12_readAct 2 none ∈ wsL_law := in_r32 _ (List.mem_of_getElem? (i := 1) rfl)
theorem kr32_2 : Cond.methodLink RX12 363 yX12_closes ∈ wsL_law := in_r32 _ (List.mem_of_getElem? (i := 2) rfl)
theorem kr32_3 : Cond.instanceMethod yX12_closes ∈ wsL_law := in_r32 _ (List.mem_of_getElem? (i := 3) rfl)
theorem kr32_4 : Cond.selects RX12 yX12_closes yX12_closes ∈ wsL_law := in_r32 _ (List.mem_of_getElem? (i := 4) rfl)
theorem kr32_5 : Cond.code yX12_closes cX12_closes 1 none ∈ wsL_law := in_r32 _ (List.mem_of_getElem? (i := 5) rfl)
theorem kr32_6 : Cond.methodLink RX12 360 yX12_adds ∈ wsL_law := in_r32 _ (List.mem_of_getElem? (i := 6) rfl)
theorem kr32_7 : Cond.instanceMethod yX12_adds ∈ wsL_law := in_r32 _ (List.mem_of_getElem? (i := 7) rfl)
theorem kr32_8 : Cond.selects RX12 yX12_adds yX12_adds ∈ wsL_law := in_r32 _ (List.mem_of_getElem? (i := 8) rfl)
theorem kr32_9 : Cond.code yX12_adds cX12_adds 4 none ∈ wsL_law := in_r32 _ (List.mem_of_getElem? (i := 9) rfl)
theorem kr32_10 : Cond.methodLink RX12 374 yX12_opens ∈ wsL_law := in_r32 _ (List.mem_of_getElem? (i := 10) rfl)
theorem kr32_11 : Cond.instanceMethod yX12_opens ∈ wsL_law := in_r32 _ (List.mem_of_getElem? (i := 11) rfl)
theorem kr32_12 : Cond.selects RX12 yX12_opens yX12_opens ∈ wsL_law := in_r32 _ (List.mem_of_getElem? (i := 12) rfl)
theorem kr32_13 : Cond.code yX12_opens cX12_opens 1 none ∈ wsL_law := in_r32 _ (List.mem_of_getElem? (i := 13) rfl)
theorem kr32_14 : Cond.methodLink RX12 393 yX12_does ∈ wsL_law := in_r32 _ (List.mem_of_getElem? (i := 14) rfl)
theorem kr32_15 : Cond.instanceMethod yX12_does ∈ wsL_law := in_r32 _ (List.mem_of_getElem? (i := 15) rfl)
theorem kr32_16 : Cond.selects RX12 yX12_does yX12_does ∈ wsL_law := in_r32 _ (List.mem_of_getElem? (i := 16) rfl)
theorem kr32_17 : Cond.code yX12_does cX12_does 4 (some .int) ∈ wsL_law := in_r32 _ (List.mem_of_getElem? (i := 17) rfl)
theorem kr32_18 : Cond.methodLink RX12 384 yX12_climbs ∈ wsL_law := in_r32 _ (List.mem_of_getElem? (i := 18) rfl)
theorem kr32_19 : Cond.instanceMethod yX12_climbs ∈ wsL_law := in_r32 _ (List.mem_of_getElem? (i := 19) rfl)
theorem kr32_20 : Cond.selects RX12 yX12_climbs yX12_climbs ∈ wsL_law := in_r32 _ (List.mem_of_getElem? (i := 20) rfl)
theorem kr32_21 : Cond.code yX12_climbs cX12_climbs 3 none ∈ wsL_law := in_r32 _ (List.mem_of_getElem? (i := 21) rfl)
theorem kr32_22 : Cond.methodLink RX12 387 yX12_ends ∈ wsL_law := in_r32 _ (List.mem_of_getElem? (i := 22) rfl)
theorem kr32_23 : Cond.instanceMethod yX12_ends ∈ wsL_law := in_r32 _ (List.mem_of_getElem? (i := 23) rfl)
theorem kr33_0 : Cond.selects RX12 yX12_ends yX12_ends ∈ wsL_law := in_r33 _ (List.mem_of_getElem? (i := 0) rfl)
theorem kr33_1 : Cond.code yX12_ends cX12_ends 3 (some .int) ∈ wsL_law := in_r33 _ (List.mem_of_getElem? (i := 1) rfl)
theorem kr33_2 : Cond.methodLink RL 32 yX11_fault ∈ wsL_law := in_r33 _ (List.mem_of_getElem? (i := 2) rfl)
theorem kr33_3 : Cond.instanceMethod yX11_fault ∈ wsL_law := in_r33 _ (List.mem_of_getElem? (i := 3) rfl)
theorem kr33_4 : Cond.selects RX11 yX11_fault yX11_fault ∈ wsL_law := in_r33 _ (List.mem_of_getElem? (i := 4) rfl)
theorem kr33_5 : Cond.code yX11_fault cX11_fault 2 (some .int) ∈ wsL_law := in_r33 _ (List.mem_of_getElem? (i := 5) rfl)
theorem kr33_6 : Cond.fieldLink RX11 128 "NoseDrum$Tape" "place" "I" ∈ wsL_law := in_r33 _ (List.mem_of_getElem? (i := 6) rfl)
theorem kr33_7 : Cond.methodLink RL 35 yX12_fault ∈ wsL_law := in_r33 _ (List.mem_of_getElem? (i := 7) rfl)
theorem kr33_8 : Cond.instanceMethod yX12_fault ∈ wsL_law := in_r33 _ (List.mem_of_getElem? (i := 8) rfl)
theorem kr33_9 : Cond.selects RX12 yX12_fault yX12_fault ∈ wsL_law := in_r33 _ (List.mem_of_getElem? (i := 9) rfl)
theorem kr33_10 : Cond.code yX12_fault cX12_fault 2 (some .int) ∈ wsL_law := in_r33 _ (List.mem_of_getElem? (i := 10) rfl)
theorem kr33_11 : Cond.methodLink RL 36 yX11_profile ∈ wsL_law := in_r33 _ (List.mem_of_getElem? (i := 11) rfl)
theorem kr33_12 : Cond.instanceMethod yX11_profile ∈ wsL_law := in_r33 _ (List.mem_of_getElem? (i := 12) rfl)
theorem kr33_13 : Cond.selects RX11 yX11_profile yX11_profile ∈ wsL_law := in_r33 _ (List.mem_of_getElem? (i := 13) rfl)
theorem kr33_14 : Cond.code yX11_profile cX11_profile 3 (some .int) ∈ wsL_law := in_r33 _ (List.mem_of_getElem? (i := 14) rfl)
theorem kr33_15 : Cond.fieldLink RX11 142 "NoseDrum$Curves" "profile" "[I" ∈ wsL_law := in_r33 _ (List.mem_of_getElem? (i := 15) rfl)
theorem kr33_16 : Cond.methodLink RX11 131 yX2_hasTrack ∈ wsL_law := in_r33 _ (List.mem_of_getElem? (i := 16) rfl)
theorem kr33_17 : Cond.instanceMethod yX2_hasTrack ∈ wsL_law := in_r33 _ (List.mem_of_getElem? (i := 17) rfl)
theorem kr33_18 : Cond.selects RX2 yX2_hasTrack yX2_hasTrack ∈ wsL_law := in_r33 _ (List.mem_of_getElem? (i := 18) rfl)
theorem kr33_19 : Cond.code yX2_hasTrack cX2_hasTrack 2 (some .boolean) ∈ wsL_law := in_r33 _ (List.mem_of_getElem? (i := 19) rfl)
theorem kr33_20 : Cond.methodLink RX11 135 yX2_hasStep ∈ wsL_law := in_r33 _ (List.mem_of_getElem? (i := 20) rfl)
theorem kr33_21 : Cond.methodLink RX11 138 yX0_fillProfileAsNow ∈ wsL_law := in_r33 _ (List.mem_of_getElem? (i := 21) rfl)
theorem kr33_22 : Cond.instanceMethod yX0_fillProfileAsNow ∈ wsL_law := in_r33 _ (List.mem_of_getElem? (i := 22) rfl)
theorem kr33_23 : Cond.selects RX0 yX0_fillProfileAsNow yX0_fillProfileAsNow ∈ wsL_law := in_r33 _ (List.mem_of_getElem? (i := 23) rfl)
theorem kr34_0 : Cond.code yX0_fillProfileAsNow cX0_fillProfileAsNow 3 none ∈ wsL_law := in_r34 _ (List.mem_of_getElem? (i := 0) rfl)
theorem kr34_1 : Cond.methodLink RL 40 yX12_profile ∈ wsL_law := in_r34 _ (List.mem_of_getElem? (i := 1) rfl)
theorem kr34_2 : Cond.instanceMethod yX12_profile ∈ wsL_law := in_r34 _ (List.mem_of_getElem? (i := 2) rfl)
theorem kr34_3 : Cond.selects RX12 yX12_profile yX12_profile ∈ wsL_law := in_r34 _ (List.mem_of_getElem? (i := 3) rfl)
theorem kr34_4 : Cond.code yX12_profile cX12_profile 3 (some .int) ∈ wsL_law := in_r34 _ (List.mem_of_getElem? (i := 4) rfl)
theorem kr34_5 : Cond.methodLink RX12 282 yX12_isTrack ∈ wsL_law := in_r34 _ (List.mem_of_getElem? (i := 5) rfl)
theorem kr34_6 : Cond.instanceMethod yX12_isTrack ∈ wsL_law := in_r34 _ (List.mem_of_getElem? (i := 6) rfl)
theorem kr34_7 : Cond.selects RX12 yX12_isTrack yX12_isTrack ∈ wsL_law := in_r34 _ (List.mem_of_getElem? (i := 7) rfl)
theorem kr34_8 : Cond.code yX12_isTrack cX12_isTrack 2 (some .boolean) ∈ wsL_law := in_r34 _ (List.mem_of_getElem? (i := 8) rfl)
theorem kr34_9 : Cond.methodLink RX12 286 yX12_isStep ∈ wsL_law := in_r34 _ (List.mem_of_getElem? (i := 9) rfl)
theorem kr34_10 : Cond.instanceMethod yX12_isStep ∈ wsL_law := in_r34 _ (List.mem_of_getElem? (i := 10) rfl)
theorem kr34_11 : Cond.selects RX12 yX12_isStep yX12_isStep ∈ wsL_law := in_r34 _ (List.mem_of_getElem? (i := 11) rfl)
theorem kr34_12 : Cond.code yX12_isStep cX12_isStep 2 (some .boolean) ∈ wsL_law := in_r34 _ (List.mem_of_getElem? (i := 12) rfl)
theorem kr34_13 : Cond.methodLink RL 41 yX11_lift ∈ wsL_law := in_r34 _ (List.mem_of_getElem? (i := 13) rfl)
theorem kr34_14 : Cond.instanceMethod yX11_lift ∈ wsL_law := in_r34 _ (List.mem_of_getElem? (i := 14) rfl)
theorem kr34_15 : Cond.selects RX11 yX11_lift yX11_lift ∈ wsL_law := in_r34 _ (List.mem_of_getElem? (i := 15) rfl)
theorem kr34_16 : Cond.code yX11_lift cX11_lift 3 (some .int) ∈ wsL_law := in_r34 _ (List.mem_of_getElem? (i := 16) rfl)
theorem kr34_17 : Cond.fieldLink RX11 152 "NoseDrum$Curves" "lift" "[I" ∈ wsL_law := in_r34 _ (List.mem_of_getElem? (i := 17) rfl)
theorem kr34_18 : Cond.methodLink RX11 146 yX2_hasFollower ∈ wsL_law := in_r34 _ (List.mem_of_getElem? (i := 18) rfl)
theorem kr34_19 : Cond.methodLink RX11 149 yX0_fillAsNow ∈ wsL_law := in_r34 _ (List.mem_of_getElem? (i := 19) rfl)
theorem kr34_20 : Cond.instanceMethod yX0_fillAsNow ∈ wsL_law := in_r34 _ (List.mem_of_getElem? (i := 20) rfl)
theorem kr34_21 : Cond.selects RX0 yX0_fillAsNow yX0_fillAsNow ∈ wsL_law := in_r34 _ (List.mem_of_getElem? (i := 21) rfl)
theorem kr34_22 : Cond.code yX0_fillAsNow cX0_fillAsNow 3 none ∈ wsL_law := in_r34 _ (List.mem_of_getElem? (i := 22) rfl)
theorem kr34_23 : Cond.methodLink RL 44 yX12_lift ∈ wsL_law := in_r34 _ (List.mem_of_getElem? (i := 23) rfl)
theorem kr35_0 : Cond.instanceMethod yX12_lift ∈ wsL_law := in_r35 _ (List.mem_of_getElem? (i := 0) rfl)
theorem kr35_1 : Cond.selects RX12 yX12_lift yX12_lift ∈ wsL_law := in_r35 _ (List.mem_of_getElem? (i := 1) rfl)
theorem kr35_2 : Cond.code yX12_lift cX12_lift 3 (some .int) ∈ wsL_law := in_r35 _ (List.mem_of_getElem? (i := 2) rfl)
theorem kr35_3 : Cond.methodLink RX12 289 yX12_isFollower ∈ wsL_law := in_r35 _ (List.mem_of_getElem? (i := 3) rfl)
theorem kr35_4 : Cond.instanceMethod yX12_isFollower ∈ wsL_law := in_r35 _ (List.mem_of_getElem? (i := 4) rfl)
theorem kr35_5 : Cond.selects RX12 yX12_isFollower yX12_isFollower ∈ wsL_law := in_r35 _ (List.mem_of_getElem? (i := 5) rfl)
theorem kr35_6 : Cond.code yX12_isFollower cX12_isFollower 2 (some .boolean) ∈ wsL_law := in_r35 _ (List.mem_of_getElem? (i := 6) rfl)
theorem kr35_7 : Cond.methodLink RL 45 yX11_steep ∈ wsL_law := in_r35 _ (List.mem_of_getElem? (i := 7) rfl)
theorem kr35_8 : Cond.instanceMethod yX11_steep ∈ wsL_law := in_r35 _ (List.mem_of_getElem? (i := 8) rfl)
theorem kr35_9 : Cond.selects RX11 yX11_steep yX11_steep ∈ wsL_law := in_r35 _ (List.mem_of_getElem? (i := 9) rfl)
theorem kr35_10 : Cond.code yX11_steep cX11_steep 4 (some .int) ∈ wsL_law := in_r35 _ (List.mem_of_getElem? (i := 10) rfl)
theorem kr35_11 : Cond.fieldLink RX11 155 "NoseDrum$Machine" "steps" "I" ∈ wsL_law := in_r35 _ (List.mem_of_getElem? (i := 11) rfl)
theorem kr35_12 : Cond.methodLink RX11 162 Lib.Math.max.name ∈ wsL_law := in_r35 _ (List.mem_of_getElem? (i := 12) rfl)
theorem kr35_13 : Cond.methodLink RX11 158 yX2_round ∈ wsL_law := in_r35 _ (List.mem_of_getElem? (i := 13) rfl)
theorem kr35_14 : Cond.methodLink RL 48 yX12_steep ∈ wsL_law := in_r35 _ (List.mem_of_getElem? (i := 14) rfl)
theorem kr35_15 : Cond.instanceMethod yX12_steep ∈ wsL_law := in_r35 _ (List.mem_of_getElem? (i := 15) rfl)
theorem kr35_16 : Cond.selects RX12 yX12_steep yX12_steep ∈ wsL_law := in_r35 _ (List.mem_of_getElem? (i := 16) rfl)
theorem kr35_17 : Cond.code yX12_steep cX12_steep 4 (some .int) ∈ wsL_law := in_r35 _ (List.mem_of_getElem? (i := 17) rfl)
theorem kr35_18 : Cond.methodLink RL 49 yX11_jams ∈ wsL_law := in_r35 _ (List.mem_of_getElem? (i := 18) rfl)
theorem kr35_19 : Cond.instanceMethod yX11_jams ∈ wsL_law := in_r35 _ (List.mem_of_getElem? (i := 19) rfl)
theorem kr35_20 : Cond.selects RX11 yX11_jams yX11_jams ∈ wsL_law := in_r35 _ (List.mem_of_getElem? (i := 20) rfl)
theorem kr35_21 : Cond.code yX11_jams cX11_jams 2 (some .int) ∈ wsL_law := in_r35 _ (List.mem_of_getElem? (i := 21) rfl)
theorem kr35_22 : Cond.fieldLink RX11 168 "NoseDrum$Machine" "jam" "I" ∈ wsL_law := in_r35 _ (List.mem_of_getElem? (i := 22) rfl)
theorem kr35_23 : Cond.methodLink RX11 171 yX11_firstRise ∈ wsL_law := in_r35 _ (List.mem_of_getElem? (i := 23) rfl)
theorem kr36_0 : Cond.instanceMethod yX11_firstRise ∈ wsL_law := in_r36 _ (List.mem_of_getElem? (i := 0) rfl)
theorem kr36_1 : Cond.selects RX11 yX11_firstRise yX11_firstRise ∈ wsL_law := in_r36 _ (List.mem_of_getElem? (i := 1) rfl)
theorem kr36_2 : Cond.code yX11_firstRise cX11_firstRise 4 (some .int) ∈ wsL_law := in_r36 _ (List.mem_of_getElem? (i := 2) rfl)
theorem kr36_3 : Cond.methodLink RL 52 yX12_jams ∈ wsL_law := in_r36 _ (List.mem_of_getElem? (i := 3) rfl)
theorem kr36_4 : Cond.instanceMethod yX12_jams ∈ wsL_law := in_r36 _ (List.mem_of_getElem? (i := 4) rfl)
theorem kr36_5 : Cond.selects RX12 yX12_jams yX12_jams ∈ wsL_law := in_r36 _ (List.mem_of_getElem? (i := 5) rfl)
theorem kr36_6 : Cond.code yX12_jams cX12_jams 3 (some .int) ∈ wsL_law := in_r36 _ (List.mem_of_getElem? (i := 6) rfl)
theorem kr36_7 : Cond.methodLink RL 53 yX11_covers ∈ wsL_law := in_r36 _ (List.mem_of_getElem? (i := 7) rfl)
theorem kr36_8 : Cond.instanceMethod yX11_covers ∈ wsL_law := in_r36 _ (List.mem_of_getElem? (i := 8) rfl)
theorem kr36_9 : Cond.selects RX11 yX11_covers yX11_covers ∈ wsL_law := in_r36 _ (List.mem_of_getElem? (i := 9) rfl)
theorem kr36_10 : Cond.code yX11_covers cX11_covers 5 (some .int) ∈ wsL_law := in_r36 _ (List.mem_of_getElem? (i := 10) rfl)
theorem kr36_11 : Cond.methodLink RL 56 yX12_covers ∈ wsL_law := in_r36 _ (List.mem_of_getElem? (i := 11) rfl)
theorem kr36_12 : Cond.instanceMethod yX12_covers ∈ wsL_law := in_r36 _ (List.mem_of_getElem? (i := 12) rfl)
theorem kr36_13 : Cond.selects RX12 yX12_covers yX12_covers ∈ wsL_law := in_r36 _ (List.mem_of_getElem? (i := 13) rfl)
theorem kr36_14 : Cond.code yX12_covers cX12_covers 5 (some .int) ∈ wsL_law := in_r36 _ (List.mem_of_getElem? (i := 14) rfl)
theorem kr36_15 : Cond.constantLong RX12 295 (60) ∈ wsL_law := in_r36 _ (List.mem_of_getElem? (i := 15) rfl)
theorem kr36_16 : Cond.methodLink RL 57 yX11_turn ∈ wsL_law := in_r36 _ (List.mem_of_getElem? (i := 16) rfl)
theorem kr36_17 : Cond.instanceMethod yX11_turn ∈ wsL_law := in_r36 _ (List.mem_of_getElem? (i := 17) rfl)
theorem kr36_18 : Cond.selects RX11 yX11_turn yX11_turn ∈ wsL_law := in_r36 _ (List.mem_of_getElem? (i := 18) rfl)
theorem kr36_19 : Cond.code yX11_turn cX11_turn 5 (some .int) ∈ wsL_law := in_r36 _ (List.mem_of_getElem? (i := 19) rfl)
theorem kr36_20 : Cond.methodLink RX11 175 Lib.Math.abs.name ∈ wsL_law := in_r36 _ (List.mem_of_getElem? (i := 20) rfl)
theorem kr36_21 : Cond.static Lib.Math.abs.name ∈ wsL_law := in_r36 _ (List.mem_of_getElem? (i := 21) rfl)
theorem kr36_22 : Cond.code Lib.Math.abs.name Lib.Math.abs.code 1 (some .int) ∈ wsL_law := in_r36 _ (List.mem_of_getElem? (i := 22) rfl)
theorem kr36_23 : Cond.methodLink RX11 178 yX2_takeStep ∈ wsL_law := in_r36 _ (List.mem_of_getElem? (i := 23) rfl)
theorem kr37_0 : Cond.instanceMethod yX2_takeStep ∈ wsL_law := in_r37 _ (List.mem_of_getElem? (i := 0) rfl)
theorem kr37_1 : Cond.selects RX2 yX2_takeStep yX2_takeStep ∈ wsL_law := in_r37 _ (List.mem_of_getElem? (i := 1) rfl)
theorem kr37_2 : Cond.code yX2_takeStep cX2_takeStep 6 (some .boolean) ∈ wsL_law := in_r37 _ (List.mem_of_getElem? (i := 2) rfl)
theorem kr37_3 : Cond.fieldLink RX2 183 "NoseDrum$Shaft" "angle" "I" ∈ wsL_law := in_r37 _ (List.mem_of_getElem? (i := 3) rfl)
theorem kr37_4 : Cond.fieldLink RX2 196 "NoseDrum$Shaft" "work" "I" ∈ wsL_law := in_r37 _ (List.mem_of_getElem? (i := 4) rfl)
theorem kr37_5 : Cond.fieldLink RX2 199 "NoseDrum$Shaft" "turned" "I" ∈ wsL_law := in_r37 _ (List.mem_of_getElem? (i := 5) rfl)
theorem kr37_6 : Cond.methodLink RX2 176 yX7_slackFor ∈ wsL_law := in_r37 _ (List.mem_of_getElem? (i := 6) rfl)
theorem kr37_7 : Cond.instanceMethod yX7_slackFor ∈ wsL_law := in_r37 _ (List.mem_of_getElem? (i := 7) rfl)
theorem kr37_8 : Cond.selects RX7 yX7_slackFor yX7_slackFor ∈ wsL_law := in_r37 _ (List.mem_of_getElem? (i := 8) rfl)
theorem kr37_9 : Cond.code yX7_slackFor cX7_slackFor 3 (some .int) ∈ wsL_law := in_r37 _ (List.mem_of_getElem? (i := 9) rfl)
theorem kr37_10 : Cond.methodLink RX2 179 yX7_take ∈ wsL_law := in_r37 _ (List.mem_of_getElem? (i := 10) rfl)
theorem kr37_11 : Cond.instanceMethod yX7_take ∈ wsL_law := in_r37 _ (List.mem_of_getElem? (i := 11) rfl)
theorem kr37_12 : Cond.selects RX7 yX7_take yX7_take ∈ wsL_law := in_r37 _ (List.mem_of_getElem? (i := 12) rfl)
theorem kr37_13 : Cond.code yX7_take cX7_take 3 none ∈ wsL_law := in_r37 _ (List.mem_of_getElem? (i := 13) rfl)
theorem kr37_14 : Cond.methodLink RX2 67 yX2_round ∈ wsL_law := in_r37 _ (List.mem_of_getElem? (i := 14) rfl)
theorem kr37_15 : Cond.methodLink RX2 186 yX1_firstJammed ∈ wsL_law := in_r37 _ (List.mem_of_getElem? (i := 15) rfl)
theorem kr37_16 : Cond.instanceMethod yX1_firstJammed ∈ wsL_law := in_r37 _ (List.mem_of_getElem? (i := 16) rfl)
theorem kr37_17 : Cond.selects RX1 yX1_firstJammed yX1_firstJammed ∈ wsL_law := in_r37 _ (List.mem_of_getElem? (i := 17) rfl)
theorem kr37_18 : Cond.code yX1_firstJammed cX1_firstJammed 5 (some .int) ∈ wsL_law := in_r37 _ (List.mem_of_getElem? (i := 18) rfl)
theorem kr37_19 : Cond.methodLink RX2 190 yX7_jamBy ∈ wsL_law := in_r37 _ (List.mem_of_getElem? (i := 19) rfl)
theorem kr37_20 : Cond.instanceMethod yX7_jamBy ∈ wsL_law := in_r37 _ (List.mem_of_getElem? (i := 20) rfl)
theorem kr37_21 : Cond.selects RX7 yX7_jamBy yX7_jamBy ∈ wsL_law := in_r37 _ (List.mem_of_getElem? (i := 21) rfl)
theorem kr37_22 : Cond.code yX7_jamBy cX7_jamBy 2 none ∈ wsL_law := in_r37 _ (List.mem_of_getElem? (i := 22) rfl)
theorem kr37_23 : Cond.methodLink RX2 193 yX7_turnOn ∈ wsL_law := in_r37 _ (List.mem_of_getElem? (i := 23) rfl)
theorem kr38_0 : Cond.instanceMethod yX7_turnOn ∈ wsL_law := in_r38 _ (List.mem_of_getElem? (i := 0) rfl)
theorem kr38_1 : Cond.selects RX7 yX7_turnOn yX7_turnOn ∈ wsL_law := in_r38 _ (List.mem_of_getElem? (i := 1) rfl)
theorem kr38_2 : Cond.code yX7_turnOn cX7_turnOn 2 none ∈ wsL_law := in_r38 _ (List.mem_of_getElem? (i := 2) rfl)
theorem kr38_3 : Cond.methodLink RX2 202 yX1_moveTo ∈ wsL_law := in_r38 _ (List.mem_of_getElem? (i := 3) rfl)
theorem kr38_4 : Cond.instanceMethod yX1_moveTo ∈ wsL_law := in_r38 _ (List.mem_of_getElem? (i := 4) rfl)
theorem kr38_5 : Cond.selects RX1 yX1_moveTo yX1_moveTo ∈ wsL_law := in_r38 _ (List.mem_of_getElem? (i := 5) rfl)
theorem kr38_6 : Cond.code yX1_moveTo cX1_moveTo 7 (some .int) ∈ wsL_law := in_r38 _ (List.mem_of_getElem? (i := 6) rfl)
theorem kr38_7 : Cond.methodLink RX1 115 Lib.Math.max.name ∈ wsL_law := in_r38 _ (List.mem_of_getElem? (i := 7) rfl)
theorem kr38_8 : Cond.methodLink RX1 109 yJ9_floorMod_7cf53 ∈ wsL_law := in_r38 _ (List.mem_of_getElem? (i := 8) rfl)
theorem kr38_9 : Cond.methodLink RX1 112 yX1_leverOver ∈ wsL_law := in_r38 _ (List.mem_of_getElem? (i := 9) rfl)
theorem kr38_10 : Cond.methodLink RX2 205 yX4_goOn ∈ wsL_law := in_r38 _ (List.mem_of_getElem? (i := 10) rfl)
theorem kr38_11 : Cond.instanceMethod yX4_goOn ∈ wsL_law := in_r38 _ (List.mem_of_getElem? (i := 11) rfl)
theorem kr38_12 : Cond.selects RX4 yX4_goOn yX4_goOn ∈ wsL_law := in_r38 _ (List.mem_of_getElem? (i := 12) rfl)
theorem kr38_13 : Cond.code yX4_goOn cX4_goOn 4 none ∈ wsL_law := in_r38 _ (List.mem_of_getElem? (i := 13) rfl)
theorem kr38_14 : Cond.fieldLink RX4 54 "NoseDrum$Followers" "count" "I" ∈ wsL_law := in_r38 _ (List.mem_of_getElem? (i := 14) rfl)
theorem kr38_15 : Cond.fieldLink RX4 57 "NoseDrum$Followers" "was" "[I" ∈ wsL_law := in_r38 _ (List.mem_of_getElem? (i := 15) rfl)
theorem kr38_16 : Cond.fieldLink RX4 60 "NoseDrum$Followers" "pos" "[I" ∈ wsL_law := in_r38 _ (List.mem_of_getElem? (i := 16) rfl)
theorem kr38_17 : Cond.methodLink RX4 63 yX4_roundByTeeth ∈ wsL_law := in_r38 _ (List.mem_of_getElem? (i := 17) rfl)
theorem kr38_18 : Cond.instanceMethod yX4_roundByTeeth ∈ wsL_law := in_r38 _ (List.mem_of_getElem? (i := 18) rfl)
theorem kr38_19 : Cond.selects RX4 yX4_roundByTeeth yX4_roundByTeeth ∈ wsL_law := in_r38 _ (List.mem_of_getElem? (i := 19) rfl)
theorem kr38_20 : Cond.code yX4_roundByTeeth cX4_roundByTeeth 3 (some .int) ∈ wsL_law := in_r38 _ (List.mem_of_getElem? (i := 20) rfl)
theorem kr38_21 : Cond.methodLink RL 60 yX12_turn ∈ wsL_law := in_r38 _ (List.mem_of_getElem? (i := 21) rfl)
theorem kr38_22 : Cond.instanceMethod yX12_turn ∈ wsL_law := in_r38 _ (List.mem_of_getElem? (i := 22) rfl)
theorem kr38_23 : Cond.selects RX12 yX12_turn yX12_turn ∈ wsL_law := in_r38 _ (List.mem_of_getElem? (i := 23) rfl)
theorem kr39_0 : Cond.code yX12_turn cX12_turn 4 (some .int) ∈ wsL_law := in_r39 _ (List.mem_of_getElem? (i := 0) rfl)
theorem kr39_1 : Cond.constantLong RX12 312 (-600) ∈ wsL_law := in_r39 _ (List.mem_of_getElem? (i := 1) rfl)
theorem kr39_2 : Cond.constantLong RX12 314 (600) ∈ wsL_law := in_r39 _ (List.mem_of_getElem? (i := 2) rfl)
theorem kr39_3 : Cond.methodLink RX12 316 Lib.Math.abs.name ∈ wsL_law := in_r39 _ (List.mem_of_getElem? (i := 3) rfl)
theorem kr39_4 : Cond.methodLink RX12 319 yX12_steps ∈ wsL_law := in_r39 _ (List.mem_of_getElem? (i := 4) rfl)
theorem kr39_5 : Cond.instanceMethod yX12_steps ∈ wsL_law := in_r39 _ (List.mem_of_getElem? (i := 5) rfl)
theorem kr39_6 : Cond.selects RX12 yX12_steps yX12_steps ∈ wsL_law := in_r39 _ (List.mem_of_getElem? (i := 6) rfl)
theorem kr39_7 : Cond.code yX12_steps cX12_steps 5 (some .boolean) ∈ wsL_law := in_r39 _ (List.mem_of_getElem? (i := 7) rfl)
theorem kr39_8 : Cond.methodLink RX12 306 yX12_jammerAt ∈ wsL_law := in_r39 _ (List.mem_of_getElem? (i := 8) rfl)
theorem kr39_9 : Cond.instanceMethod yX12_jammerAt ∈ wsL_law := in_r39 _ (List.mem_of_getElem? (i := 9) rfl)
theorem kr39_10 : Cond.selects RX12 yX12_jammerAt yX12_jammerAt ∈ wsL_law := in_r39 _ (List.mem_of_getElem? (i := 10) rfl)
theorem kr39_11 : Cond.code yX12_jammerAt cX12_jammerAt 3 (some .int) ∈ wsL_law := in_r39 _ (List.mem_of_getElem? (i := 11) rfl)
theorem kr39_12 : Cond.methodLink RX12 309 yX12_moves ∈ wsL_law := in_r39 _ (List.mem_of_getElem? (i := 12) rfl)
theorem kr39_13 : Cond.instanceMethod yX12_moves ∈ wsL_law := in_r39 _ (List.mem_of_getElem? (i := 13) rfl)
theorem kr39_14 : Cond.selects RX12 yX12_moves yX12_moves ∈ wsL_law := in_r39 _ (List.mem_of_getElem? (i := 14) rfl)
theorem kr39_15 : Cond.code yX12_moves cX12_moves 5 none ∈ wsL_law := in_r39 _ (List.mem_of_getElem? (i := 15) rfl)
theorem kr39_16 : Cond.methodLink RX12 303 yX12_ofPawl ∈ wsL_law := in_r39 _ (List.mem_of_getElem? (i := 16) rfl)
theorem kr39_17 : Cond.instanceMethod yX12_ofPawl ∈ wsL_law := in_r39 _ (List.mem_of_getElem? (i := 17) rfl)
theorem kr39_18 : Cond.selects RX12 yX12_ofPawl yX12_ofPawl ∈ wsL_law := in_r39 _ (List.mem_of_getElem? (i := 18) rfl)
theorem kr39_19 : Cond.code yX12_ofPawl cX12_ofPawl 3 (some .int) ∈ wsL_law := in_r39 _ (List.mem_of_getElem? (i := 19) rfl)
theorem kr39_20 : Cond.methodLink RL 61 yX11_follower ∈ wsL_law := in_r39 _ (List.mem_of_getElem? (i := 20) rfl)
theorem kr39_21 : Cond.instanceMethod yX11_follower ∈ wsL_law := in_r39 _ (List.mem_of_getElem? (i := 21) rfl)
theorem kr39_22 : Cond.selects RX11 yX11_follower yX11_follower ∈ wsL_law := in_r39 _ (List.mem_of_getElem? (i := 22) rfl)
theorem kr39_23 : Cond.code yX11_follower cX11_follower 3 (some .int) ∈ wsL_law := in_r39 _ (List.mem_of_getElem? (i := 23) rfl)
theorem kr40_0 : Cond.fieldLink RX11 182 "NoseDrum$Followers" "pos" "[I" ∈ wsL_law := in_r40 _ (List.mem_of_getElem? (i := 0) rfl)
theorem kr40_1 : Cond.fieldLink RX11 185 "NoseDrum$Machine" "shaft" "LNoseDrum$Shaft;" ∈ wsL_law := in_r40 _ (List.mem_of_getElem? (i := 1) rfl)
theorem kr40_2 : Cond.fieldLink RX11 189 "NoseDrum$Shaft" "turned" "I" ∈ wsL_law := in_r40 _ (List.mem_of_getElem? (i := 2) rfl)
theorem kr40_3 : Cond.fieldLink RX11 197 "NoseDrum$Shaft" "angle" "I" ∈ wsL_law := in_r40 _ (List.mem_of_getElem? (i := 3) rfl)
theorem kr40_4 : Cond.fieldLink RX11 200 "NoseDrum$Followers" "sort" "[I" ∈ wsL_law := in_r40 _ (List.mem_of_getElem? (i := 4) rfl)
theorem kr40_5 : Cond.fieldLink RX11 203 "NoseDrum$Shaft" "jammedBy" "I" ∈ wsL_law := in_r40 _ (List.mem_of_getElem? (i := 5) rfl)
theorem kr40_6 : Cond.methodLink RX11 194 yX1_movedOf ∈ wsL_law := in_r40 _ (List.mem_of_getElem? (i := 6) rfl)
theorem kr40_7 : Cond.instanceMethod yX1_movedOf ∈ wsL_law := in_r40 _ (List.mem_of_getElem? (i := 7) rfl)
theorem kr40_8 : Cond.selects RX1 yX1_movedOf yX1_movedOf ∈ wsL_law := in_r40 _ (List.mem_of_getElem? (i := 8) rfl)
theorem kr40_9 : Cond.code yX1_movedOf cX1_movedOf 3 (some .int) ∈ wsL_law := in_r40 _ (List.mem_of_getElem? (i := 9) rfl)
theorem kr40_10 : Cond.methodLink RL 64 yX12_follower ∈ wsL_law := in_r40 _ (List.mem_of_getElem? (i := 10) rfl)
theorem kr40_11 : Cond.instanceMethod yX12_follower ∈ wsL_law := in_r40 _ (List.mem_of_getElem? (i := 11) rfl)
theorem kr40_12 : Cond.selects RX12 yX12_follower yX12_follower ∈ wsL_law := in_r40 _ (List.mem_of_getElem? (i := 12) rfl)
theorem kr40_13 : Cond.code yX12_follower cX12_follower 3 (some .int) ∈ wsL_law := in_r40 _ (List.mem_of_getElem? (i := 13) rfl)
theorem kr40_14 : Cond.constantLong RX12 321 (4) ∈ wsL_law := in_r40 _ (List.mem_of_getElem? (i := 14) rfl)
theorem kr40_15 : Cond.methodLink RL 65 yX11_stands ∈ wsL_law := in_r40 _ (List.mem_of_getElem? (i := 15) rfl)
theorem kr40_16 : Cond.instanceMethod yX11_stands ∈ wsL_law := in_r40 _ (List.mem_of_getElem? (i := 16) rfl)
theorem kr40_17 : Cond.selects RX11 yX11_stands yX11_stands ∈ wsL_law := in_r40 _ (List.mem_of_getElem? (i := 17) rfl)
theorem kr40_18 : Cond.code yX11_stands cX11_stands 2 (some .int) ∈ wsL_law := in_r40 _ (List.mem_of_getElem? (i := 18) rfl)
theorem kr40_19 : Cond.fieldLink RX11 206 "NoseDrum$Shaft" "taken" "I" ∈ wsL_law := in_r40 _ (List.mem_of_getElem? (i := 19) rfl)
theorem kr40_20 : Cond.fieldLink RX11 209 "NoseDrum$Shaft" "work" "I" ∈ wsL_law := in_r40 _ (List.mem_of_getElem? (i := 20) rfl)
theorem kr40_21 : Cond.fieldLink RX11 212 "NoseDrum$Shaft" "slackLeft" "I" ∈ wsL_law := in_r40 _ (List.mem_of_getElem? (i := 21) rfl)
theorem kr40_22 : Cond.fieldLink RX11 218 "NoseDrum$Shaft" "jammed" "I" ∈ wsL_law := in_r40 _ (List.mem_of_getElem? (i := 22) rfl)
theorem kr40_23 : Cond.methodLink RX11 215 yX2_secondStep ∈ wsL_law := in_r40 _ (List.mem_of_getElem? (i := 23) rfl)
theorem kr41_0 : Cond.instanceMethod yX2_secondStep ∈ wsL_law := in_r41 _ (List.mem_of_getElem? (i := 0) rfl)
theorem kr41_1 : Cond.selects RX2 yX2_secondStep yX2_secondStep ∈ wsL_law := in_r41 _ (List.mem_of_getElem? (i := 1) rfl)
theorem kr41_2 : Cond.code yX2_secondStep cX2_secondStep 2 (some .int) ∈ wsL_law := in_r41 _ (List.mem_of_getElem? (i := 2) rfl)
theorem kr41_3 : Cond.methodLink RL 68 yX12_stands ∈ wsL_law := in_r41 _ (List.mem_of_getElem? (i := 3) rfl)
theorem kr41_4 : Cond.instanceMethod yX12_stands ∈ wsL_law := in_r41 _ (List.mem_of_getElem? (i := 4) rfl)
theorem kr41_5 : Cond.selects RX12 yX12_stands yX12_stands ∈ wsL_law := in_r41 _ (List.mem_of_getElem? (i := 5) rfl)
theorem kr41_6 : Cond.code yX12_stands cX12_stands 2 (some .int) ∈ wsL_law := in_r41 _ (List.mem_of_getElem? (i := 6) rfl)
theorem kr41_7 : Cond.methodLink RX12 323 yX12_secondOf ∈ wsL_law := in_r41 _ (List.mem_of_getElem? (i := 7) rfl)
theorem kr41_8 : Cond.instanceMethod yX12_secondOf ∈ wsL_law := in_r41 _ (List.mem_of_getElem? (i := 8) rfl)
theorem kr41_9 : Cond.selects RX12 yX12_secondOf yX12_secondOf ∈ wsL_law := in_r41 _ (List.mem_of_getElem? (i := 9) rfl)
theorem kr41_10 : Cond.code yX12_secondOf cX12_secondOf 4 (some .int) ∈ wsL_law := in_r41 _ (List.mem_of_getElem? (i := 10) rfl)
theorem kr41_11 : Cond.methodLink RL 69 yX11_pawl ∈ wsL_law := in_r41 _ (List.mem_of_getElem? (i := 11) rfl)
theorem kr41_12 : Cond.instanceMethod yX11_pawl ∈ wsL_law := in_r41 _ (List.mem_of_getElem? (i := 12) rfl)
theorem kr41_13 : Cond.selects RX11 yX11_pawl yX11_pawl ∈ wsL_law := in_r41 _ (List.mem_of_getElem? (i := 13) rfl)
theorem kr41_14 : Cond.code yX11_pawl cX11_pawl 2 (some .int) ∈ wsL_law := in_r41 _ (List.mem_of_getElem? (i := 14) rfl)
theorem kr41_15 : Cond.fieldLink RX11 224 "NoseDrum$Machine" "pawls" "LNoseDrum$Pawls;" ∈ wsL_law := in_r41 _ (List.mem_of_getElem? (i := 15) rfl)
theorem kr41_16 : Cond.fieldLink RX11 228 "NoseDrum$Pawls" "tally" "[I" ∈ wsL_law := in_r41 _ (List.mem_of_getElem? (i := 16) rfl)
theorem kr41_17 : Cond.methodLink RX11 221 yX2_hasPawl ∈ wsL_law := in_r41 _ (List.mem_of_getElem? (i := 17) rfl)
theorem kr41_18 : Cond.instanceMethod yX2_hasPawl ∈ wsL_law := in_r41 _ (List.mem_of_getElem? (i := 18) rfl)
theorem kr41_19 : Cond.selects RX2 yX2_hasPawl yX2_hasPawl ∈ wsL_law := in_r41 _ (List.mem_of_getElem? (i := 19) rfl)
theorem kr41_20 : Cond.code yX2_hasPawl cX2_hasPawl 2 (some .boolean) ∈ wsL_law := in_r41 _ (List.mem_of_getElem? (i := 20) rfl)
theorem kr41_21 : Cond.methodLink RL 72 yX12_pawl ∈ wsL_law := in_r41 _ (List.mem_of_getElem? (i := 21) rfl)
theorem kr41_22 : Cond.instanceMethod yX12_pawl ∈ wsL_law := in_r41 _ (List.mem_of_getElem? (i := 22) rfl)
theorem kr41_23 : Cond.selects RX12 yX12_pawl yX12_pawl ∈ wsL_law := in_r41 _ (List.mem_of_getElem? (i := 23) rfl)
theorem kr42_0 : Cond.code yX12_pawl cX12_pawl 2 (some .int) ∈ wsL_law := in_r42 _ (List.mem_of_getElem? (i := 0) rfl)
theorem kr42_1 : Cond.methodLink RX12 327 yX12_isPawl ∈ wsL_law := in_r42 _ (List.mem_of_getElem? (i := 1) rfl)
theorem kr42_2 : Cond.instanceMethod yX12_isPawl ∈ wsL_law := in_r42 _ (List.mem_of_getElem? (i := 2) rfl)
theorem kr42_3 : Cond.selects RX12 yX12_isPawl yX12_isPawl ∈ wsL_law := in_r42 _ (List.mem_of_getElem? (i := 3) rfl)
theorem kr42_4 : Cond.code yX12_isPawl cX12_isPawl 2 (some .boolean) ∈ wsL_law := in_r42 _ (List.mem_of_getElem? (i := 4) rfl)
theorem kr42_5 : Cond.methodLink RL 73 yX11_steady ∈ wsL_law := in_r42 _ (List.mem_of_getElem? (i := 5) rfl)
theorem kr42_6 : Cond.instanceMethod yX11_steady ∈ wsL_law := in_r42 _ (List.mem_of_getElem? (i := 6) rfl)
theorem kr42_7 : Cond.selects RX11 yX11_steady yX11_steady ∈ wsL_law := in_r42 _ (List.mem_of_getElem? (i := 7) rfl)
theorem kr42_8 : Cond.code yX11_steady cX11_steady 3 (some .int) ∈ wsL_law := in_r42 _ (List.mem_of_getElem? (i := 8) rfl)
theorem kr42_9 : Cond.fieldLink RX11 233 "NoseDrum$Curves" "pos" "[I" ∈ wsL_law := in_r42 _ (List.mem_of_getElem? (i := 9) rfl)
theorem kr42_10 : Cond.methodLink RL 76 yX12_steady ∈ wsL_law := in_r42 _ (List.mem_of_getElem? (i := 10) rfl)
theorem kr42_11 : Cond.instanceMethod yX12_steady ∈ wsL_law := in_r42 _ (List.mem_of_getElem? (i := 11) rfl)
theorem kr42_12 : Cond.selects RX12 yX12_steady yX12_steady ∈ wsL_law := in_r42 _ (List.mem_of_getElem? (i := 12) rfl)
theorem kr42_13 : Cond.code yX12_steady cX12_steady 3 (some .int) ∈ wsL_law := in_r42 _ (List.mem_of_getElem? (i := 13) rfl)
theorem kr42_14 : Cond.methodLink RX12 333 yX12_fillSteady ∈ wsL_law := in_r42 _ (List.mem_of_getElem? (i := 14) rfl)
theorem kr42_15 : Cond.instanceMethod yX12_fillSteady ∈ wsL_law := in_r42 _ (List.mem_of_getElem? (i := 15) rfl)
theorem kr42_16 : Cond.selects RX12 yX12_fillSteady yX12_fillSteady ∈ wsL_law := in_r42 _ (List.mem_of_getElem? (i := 16) rfl)
theorem kr42_17 : Cond.code yX12_fillSteady cX12_fillSteady 3 none ∈ wsL_law := in_r42 _ (List.mem_of_getElem? (i := 17) rfl)
theorem kr42_18 : Cond.methodLink RX12 330 yX12_steadyAt ∈ wsL_law := in_r42 _ (List.mem_of_getElem? (i := 18) rfl)
theorem kr42_19 : Cond.instanceMethod yX12_steadyAt ∈ wsL_law := in_r42 _ (List.mem_of_getElem? (i := 19) rfl)
theorem kr42_20 : Cond.selects RX12 yX12_steadyAt yX12_steadyAt ∈ wsL_law := in_r42 _ (List.mem_of_getElem? (i := 20) rfl)
theorem kr42_21 : Cond.code yX12_steadyAt cX12_steadyAt 5 (some .int) ∈ wsL_law := in_r42 _ (List.mem_of_getElem? (i := 21) rfl)
theorem kr42_22 : Cond.methodLink RX12 336 yX12_steadyOf ∈ wsL_law := in_r42 _ (List.mem_of_getElem? (i := 22) rfl)
theorem kr42_23 : Cond.instanceMethod yX12_steadyOf ∈ wsL_law := in_r42 _ (List.mem_of_getElem? (i := 23) rfl)
theorem kr43_0 : Cond.selects RX12 yX12_steadyOf yX12_steadyOf ∈ wsL_law := in_r43 _ (List.mem_of_getElem? (i := 0) rfl)
theorem kr43_1 : Cond.code yX12_steadyOf cX12_steadyOf 3 (some .int) ∈ wsL_law := in_r43 _ (List.mem_of_getElem? (i := 1) rfl)
theorem kr43_2 : Cond.methodLink RL 77 yX11_leaves ∈ wsL_law := in_r43 _ (List.mem_of_getElem? (i := 2) rfl)
theorem kr43_3 : Cond.instanceMethod yX11_leaves ∈ wsL_law := in_r43 _ (List.mem_of_getElem? (i := 3) rfl)
theorem kr43_4 : Cond.selects RX11 yX11_leaves yX11_leaves ∈ wsL_law := in_r43 _ (List.mem_of_getElem? (i := 4) rfl)
theorem kr43_5 : Cond.code yX11_leaves cX11_leaves 6 (some .int) ∈ wsL_law := in_r43 _ (List.mem_of_getElem? (i := 5) rfl)
theorem kr43_6 : Cond.methodLink RL 80 yX12_leaves ∈ wsL_law := in_r43 _ (List.mem_of_getElem? (i := 6) rfl)
theorem kr43_7 : Cond.instanceMethod yX12_leaves ∈ wsL_law := in_r43 _ (List.mem_of_getElem? (i := 7) rfl)
theorem kr43_8 : Cond.selects RX12 yX12_leaves yX12_leaves ∈ wsL_law := in_r43 _ (List.mem_of_getElem? (i := 8) rfl)
theorem kr43_9 : Cond.code yX12_leaves cX12_leaves 6 (some .int) ∈ wsL_law := in_r43 _ (List.mem_of_getElem? (i := 9) rfl)
theorem kr43_10 : Cond.methodLink RL 81 yX11_spring ∈ wsL_law := in_r43 _ (List.mem_of_getElem? (i := 10) rfl)
theorem kr43_11 : Cond.instanceMethod yX11_spring ∈ wsL_law := in_r43 _ (List.mem_of_getElem? (i := 11) rfl)
theorem kr43_12 : Cond.selects RX11 yX11_spring yX11_spring ∈ wsL_law := in_r43 _ (List.mem_of_getElem? (i := 12) rfl)
theorem kr43_13 : Cond.code yX11_spring cX11_spring 4 (some .int) ∈ wsL_law := in_r43 _ (List.mem_of_getElem? (i := 13) rfl)
theorem kr43_14 : Cond.methodLink RL 84 yX12_spring ∈ wsL_law := in_r43 _ (List.mem_of_getElem? (i := 14) rfl)
theorem kr43_15 : Cond.instanceMethod yX12_spring ∈ wsL_law := in_r43 _ (List.mem_of_getElem? (i := 15) rfl)
theorem kr43_16 : Cond.selects RX12 yX12_spring yX12_spring ∈ wsL_law := in_r43 _ (List.mem_of_getElem? (i := 16) rfl)
theorem kr43_17 : Cond.code yX12_spring cX12_spring 4 (some .int) ∈ wsL_law := in_r43 _ (List.mem_of_getElem? (i := 17) rfl)
theorem kr43_18 : Cond.methodLink RL 85 yX11_work ∈ wsL_law := in_r43 _ (List.mem_of_getElem? (i := 18) rfl)
theorem kr43_19 : Cond.instanceMethod yX11_work ∈ wsL_law := in_r43 _ (List.mem_of_getElem? (i := 19) rfl)
theorem kr43_20 : Cond.selects RX11 yX11_work yX11_work ∈ wsL_law := in_r43 _ (List.mem_of_getElem? (i := 20) rfl)
theorem kr43_21 : Cond.code yX11_work cX11_work 3 (some .int) ∈ wsL_law := in_r43 _ (List.mem_of_getElem? (i := 21) rfl)
theorem kr43_22 : Cond.methodLink RX11 234 yX0_risenInTurn ∈ wsL_law := in_r43 _ (List.mem_of_getElem? (i := 22) rfl)
theorem kr43_23 : Cond.instanceMethod yX0_risenInTurn ∈ wsL_law := in_r43 _ (List.mem_of_getElem? (i := 23) rfl)
theorem kr44_0 : Cond.selects RX0 yX0_risenInTurn yX0_risenInTurn ∈ wsL_law := in_r44 _ (List.mem_of_getElem? (i := 0) rfl)
theorem kr44_1 : Cond.code yX0_risenInTurn cX0_risenInTurn 4 (some .int) ∈ wsL_law := in_r44 _ (List.mem_of_getElem? (i := 1) rfl)
theorem kr44_2 : Cond.methodLink RL 88 yX12_work ∈ wsL_law := in_r44 _ (List.mem_of_getElem? (i := 2) rfl)
theorem kr44_3 : Cond.instanceMethod yX12_work ∈ wsL_law := in_r44 _ (List.mem_of_getElem? (i := 3) rfl)
theorem kr44_4 : Cond.selects RX12 yX12_work yX12_work ∈ wsL_law := in_r44 _ (List.mem_of_getElem? (i := 4) rfl)
theorem kr44_5 : Cond.code yX12_work cX12_work 4 (some .int) ∈ wsL_law := in_r44 _ (List.mem_of_getElem? (i := 5) rfl)
theorem kr44_6 : Cond.methodLink RL 89 yX11_clicks ∈ wsL_law := in_r44 _ (List.mem_of_getElem? (i := 6) rfl)
theorem kr44_7 : Cond.instanceMethod yX11_clicks ∈ wsL_law := in_r44 _ (List.mem_of_getElem? (i := 7) rfl)
theorem kr44_8 : Cond.selects RX11 yX11_clicks yX11_clicks ∈ wsL_law := in_r44 _ (List.mem_of_getElem? (i := 8) rfl)
theorem kr44_9 : Cond.code yX11_clicks cX11_clicks 2 (some .int) ∈ wsL_law := in_r44 _ (List.mem_of_getElem? (i := 9) rfl)
theorem kr44_10 : Cond.fieldLink RX11 238 "NoseDrum$Pawls" "on" "[I" ∈ wsL_law := in_r44 _ (List.mem_of_getElem? (i := 10) rfl)
theorem kr44_11 : Cond.fieldLink RX11 241 "NoseDrum$Pawls" "at" "[I" ∈ wsL_law := in_r44 _ (List.mem_of_getElem? (i := 11) rfl)
theorem kr44_12 : Cond.methodLink RX11 244 yX0_clicksInTurn ∈ wsL_law := in_r44 _ (List.mem_of_getElem? (i := 12) rfl)
theorem kr44_13 : Cond.instanceMethod yX0_clicksInTurn ∈ wsL_law := in_r44 _ (List.mem_of_getElem? (i := 13) rfl)
theorem kr44_14 : Cond.selects RX0 yX0_clicksInTurn yX0_clicksInTurn ∈ wsL_law := in_r44 _ (List.mem_of_getElem? (i := 14) rfl)
theorem kr44_15 : Cond.code yX0_clicksInTurn cX0_clicksInTurn 5 (some .int) ∈ wsL_law := in_r44 _ (List.mem_of_getElem? (i := 15) rfl)
theorem kr44_16 : Cond.methodLink RL 92 yX12_clicks ∈ wsL_law := in_r44 _ (List.mem_of_getElem? (i := 16) rfl)
theorem kr44_17 : Cond.instanceMethod yX12_clicks ∈ wsL_law := in_r44 _ (List.mem_of_getElem? (i := 17) rfl)
theorem kr44_18 : Cond.selects RX12 yX12_clicks yX12_clicks ∈ wsL_law := in_r44 _ (List.mem_of_getElem? (i := 18) rfl)
theorem kr44_19 : Cond.code yX12_clicks cX12_clicks 2 (some .int) ∈ wsL_law := in_r44 _ (List.mem_of_getElem? (i := 19) rfl)
theorem kr44_20 : Cond.methodLink RX12 339 yX12_clicksOf ∈ wsL_law := in_r44 _ (List.mem_of_getElem? (i := 20) rfl)
theorem kr44_21 : Cond.instanceMethod yX12_clicksOf ∈ wsL_law := in_r44 _ (List.mem_of_getElem? (i := 21) rfl)
theorem kr44_22 : Cond.selects RX12 yX12_clicksOf yX12_clicksOf ∈ wsL_law := in_r44 _ (List.mem_of_getElem? (i := 22) rfl)
theorem kr44_23 : Cond.code yX12_clicksOf cX12_clicksOf 5 (some .int) ∈ wsL_law := in_r44 _ (List.mem_of_getElem? (i := 23) rfl)
theorem kr45_0 : Cond.methodLink RL 93 yX11_same ∈ wsL_law := in_r45 _ (List.mem_of_getElem? (i := 0) rfl)
theorem kr45_1 : Cond.instanceMethod yX11_same ∈ wsL_law := in_r45 _ (List.mem_of_getElem? (i := 1) rfl)
theorem kr45_2 : Cond.selects RX11 yX11_same yX11_same ∈ wsL_law := in_r45 _ (List.mem_of_getElem? (i := 2) rfl)
theorem kr45_3 : Cond.code yX11_same cX11_same 2 (some .int) ∈ wsL_law := in_r45 _ (List.mem_of_getElem? (i := 3) rfl)
theorem kr45_4 : Cond.fieldLink RX11 248 "NoseDrum$Pawls" "count" "I" ∈ wsL_law := in_r45 _ (List.mem_of_getElem? (i := 4) rfl)
theorem kr45_5 : Cond.fieldLink RX11 249 "NoseDrum$Curves" "clicks" "[I" ∈ wsL_law := in_r45 _ (List.mem_of_getElem? (i := 5) rfl)
theorem kr45_6 : Cond.methodLink RX11 252 yX4_areBack ∈ wsL_law := in_r45 _ (List.mem_of_getElem? (i := 6) rfl)
theorem kr45_7 : Cond.instanceMethod yX4_areBack ∈ wsL_law := in_r45 _ (List.mem_of_getElem? (i := 7) rfl)
theorem kr45_8 : Cond.selects RX4 yX4_areBack yX4_areBack ∈ wsL_law := in_r45 _ (List.mem_of_getElem? (i := 8) rfl)
theorem kr45_9 : Cond.code yX4_areBack cX4_areBack 4 (some .boolean) ∈ wsL_law := in_r45 _ (List.mem_of_getElem? (i := 9) rfl)
theorem kr45_10 : Cond.methodLink RL 96 yX12_same ∈ wsL_law := in_r45 _ (List.mem_of_getElem? (i := 10) rfl)
theorem kr45_11 : Cond.instanceMethod yX12_same ∈ wsL_law := in_r45 _ (List.mem_of_getElem? (i := 11) rfl)
theorem kr45_12 : Cond.selects RX12 yX12_same yX12_same ∈ wsL_law := in_r45 _ (List.mem_of_getElem? (i := 12) rfl)
theorem kr45_13 : Cond.code yX12_same cX12_same 2 (some .int) ∈ wsL_law := in_r45 _ (List.mem_of_getElem? (i := 13) rfl)
theorem kr45_14 : Cond.methodLink RX12 342 yX12_isSame ∈ wsL_law := in_r45 _ (List.mem_of_getElem? (i := 14) rfl)
theorem kr45_15 : Cond.instanceMethod yX12_isSame ∈ wsL_law := in_r45 _ (List.mem_of_getElem? (i := 15) rfl)
theorem kr45_16 : Cond.selects RX12 yX12_isSame yX12_isSame ∈ wsL_law := in_r45 _ (List.mem_of_getElem? (i := 16) rfl)
theorem kr45_17 : Cond.code yX12_isSame cX12_isSame 4 (some .boolean) ∈ wsL_law := in_r45 _ (List.mem_of_getElem? (i := 17) rfl)
theorem kr45_18 : Cond.methodLink RL 97 yX11_wear ∈ wsL_law := in_r45 _ (List.mem_of_getElem? (i := 18) rfl)
theorem kr45_19 : Cond.instanceMethod yX11_wear ∈ wsL_law := in_r45 _ (List.mem_of_getElem? (i := 19) rfl)
theorem kr45_20 : Cond.selects RX11 yX11_wear yX11_wear ∈ wsL_law := in_r45 _ (List.mem_of_getElem? (i := 20) rfl)
theorem kr45_21 : Cond.code yX11_wear cX11_wear 4 (some .int) ∈ wsL_law := in_r45 _ (List.mem_of_getElem? (i := 21) rfl)
theorem kr45_22 : Cond.fieldLink RX11 259 "NoseDrum$Machine" "noses" "LNoseDrum$Noses;" ∈ wsL_law := in_r45 _ (List.mem_of_getElem? (i := 22) rfl)
theorem kr45_23 : Cond.fieldLink RX11 263 "NoseDrum$Noses" "worn" "[I" ∈ wsL_law := in_r45 _ (List.mem_of_getElem? (i := 23) rfl)
theorem kr46_0 : Cond.fieldLink RX11 268 "NoseDrum$Noses" "high" "[I" ∈ wsL_law := in_r46 _ (List.mem_of_getElem? (i := 0) rfl)
theorem kr46_1 : Cond.methodLink RX11 271 Lib.Math.min.name ∈ wsL_law := in_r46 _ (List.mem_of_getElem? (i := 1) rfl)
theorem kr46_2 : Cond.methodLink RX11 256 yX2_hasNose ∈ wsL_law := in_r46 _ (List.mem_of_getElem? (i := 2) rfl)
theorem kr46_3 : Cond.instanceMethod yX2_hasNose ∈ wsL_law := in_r46 _ (List.mem_of_getElem? (i := 3) rfl)
theorem kr46_4 : Cond.selects RX2 yX2_hasNose yX2_hasNose ∈ wsL_law := in_r46 _ (List.mem_of_getElem? (i := 4) rfl)
theorem kr46_5 : Cond.code yX2_hasNose cX2_hasNose 2 (some .boolean) ∈ wsL_law := in_r46 _ (List.mem_of_getElem? (i := 5) rfl)
theorem kr46_6 : Cond.methodLink RL 100 yX12_wear ∈ wsL_law := in_r46 _ (List.mem_of_getElem? (i := 6) rfl)
theorem kr46_7 : Cond.instanceMethod yX12_wear ∈ wsL_law := in_r46 _ (List.mem_of_getElem? (i := 7) rfl)
theorem kr46_8 : Cond.selects RX12 yX12_wear yX12_wear ∈ wsL_law := in_r46 _ (List.mem_of_getElem? (i := 8) rfl)
theorem kr46_9 : Cond.code yX12_wear cX12_wear 4 (some .int) ∈ wsL_law := in_r46 _ (List.mem_of_getElem? (i := 9) rfl)
theorem kr46_10 : Cond.methodLink RX12 345 yX12_isNose ∈ wsL_law := in_r46 _ (List.mem_of_getElem? (i := 10) rfl)
theorem kr46_11 : Cond.instanceMethod yX12_isNose ∈ wsL_law := in_r46 _ (List.mem_of_getElem? (i := 11) rfl)
theorem kr46_12 : Cond.selects RX12 yX12_isNose yX12_isNose ∈ wsL_law := in_r46 _ (List.mem_of_getElem? (i := 12) rfl)
theorem kr46_13 : Cond.code yX12_isNose cX12_isNose 2 (some .boolean) ∈ wsL_law := in_r46 _ (List.mem_of_getElem? (i := 13) rfl)
theorem kr46_14 : Cond.methodLink RX12 348 yX12_setNose ∈ wsL_law := in_r46 _ (List.mem_of_getElem? (i := 14) rfl)
theorem kr46_15 : Cond.instanceMethod yX12_setNose ∈ wsL_law := in_r46 _ (List.mem_of_getElem? (i := 15) rfl)
theorem kr46_16 : Cond.selects RX12 yX12_setNose yX12_setNose ∈ wsL_law := in_r46 _ (List.mem_of_getElem? (i := 16) rfl)
theorem kr46_17 : Cond.code yX12_setNose cX12_setNose 4 none ∈ wsL_law := in_r46 _ (List.mem_of_getElem? (i := 17) rfl)
theorem kr46_18 : Cond.methodLink RL 101 yX11_breaks ∈ wsL_law := in_r46 _ (List.mem_of_getElem? (i := 18) rfl)
theorem kr46_19 : Cond.instanceMethod yX11_breaks ∈ wsL_law := in_r46 _ (List.mem_of_getElem? (i := 19) rfl)
theorem kr46_20 : Cond.selects RX11 yX11_breaks yX11_breaks ∈ wsL_law := in_r46 _ (List.mem_of_getElem? (i := 20) rfl)
theorem kr46_21 : Cond.code yX11_breaks cX11_breaks 4 (some .int) ∈ wsL_law := in_r46 _ (List.mem_of_getElem? (i := 21) rfl)
theorem kr46_22 : Cond.fieldLink RX11 274 "NoseDrum$Noses" "broken" "[Z" ∈ wsL_law := in_r46 _ (List.mem_of_getElem? (i := 22) rfl)
theorem kr46_23 : Cond.methodLink RL 105 yX12_breaks ∈ wsL_law := in_r46 _ (List.mem_of_getElem? (i := 23) rfl)
theorem kr47_0 : Cond.instanceMethod yX12_breaks ∈ wsL_law := in_r47 _ (List.mem_of_getElem? (i := 0) rfl)
theorem kr47_1 : Cond.selects RX12 yX12_breaks yX12_breaks ∈ wsL_law := in_r47 _ (List.mem_of_getElem? (i := 1) rfl)
theorem kr47_2 : Cond.code yX12_breaks cX12_breaks 4 (some .int) ∈ wsL_law := in_r47 _ (List.mem_of_getElem? (i := 2) rfl)
theorem kr47_3 : Cond.methodLink RL 106 yX11_nose ∈ wsL_law := in_r47 _ (List.mem_of_getElem? (i := 3) rfl)
theorem kr47_4 : Cond.instanceMethod yX11_nose ∈ wsL_law := in_r47 _ (List.mem_of_getElem? (i := 4) rfl)
theorem kr47_5 : Cond.selects RX11 yX11_nose yX11_nose ∈ wsL_law := in_r47 _ (List.mem_of_getElem? (i := 5) rfl)
theorem kr47_6 : Cond.code yX11_nose cX11_nose 3 (some .int) ∈ wsL_law := in_r47 _ (List.mem_of_getElem? (i := 6) rfl)
theorem kr47_7 : Cond.fieldLink RX11 277 "NoseDrum$Noses" "track" "[I" ∈ wsL_law := in_r47 _ (List.mem_of_getElem? (i := 7) rfl)
theorem kr47_8 : Cond.fieldLink RX11 280 "NoseDrum$Noses" "at" "[I" ∈ wsL_law := in_r47 _ (List.mem_of_getElem? (i := 8) rfl)
theorem kr47_9 : Cond.fieldLink RX11 281 "NoseDrum$Noses" "wide" "[I" ∈ wsL_law := in_r47 _ (List.mem_of_getElem? (i := 9) rfl)
theorem kr47_10 : Cond.fieldLink RX11 287 "NoseDrum$Noses" "steep" "[I" ∈ wsL_law := in_r47 _ (List.mem_of_getElem? (i := 10) rfl)
theorem kr47_11 : Cond.methodLink RX11 284 yX3_heightOf ∈ wsL_law := in_r47 _ (List.mem_of_getElem? (i := 11) rfl)
theorem kr47_12 : Cond.methodLink RL 109 yX12_nose ∈ wsL_law := in_r47 _ (List.mem_of_getElem? (i := 12) rfl)
theorem kr47_13 : Cond.instanceMethod yX12_nose ∈ wsL_law := in_r47 _ (List.mem_of_getElem? (i := 13) rfl)
theorem kr47_14 : Cond.selects RX12 yX12_nose yX12_nose ∈ wsL_law := in_r47 _ (List.mem_of_getElem? (i := 14) rfl)
theorem kr47_15 : Cond.code yX12_nose cX12_nose 3 (some .int) ∈ wsL_law := in_r47 _ (List.mem_of_getElem? (i := 15) rfl)
theorem kr47_16 : Cond.constantLong RX12 352 (5) ∈ wsL_law := in_r47 _ (List.mem_of_getElem? (i := 16) rfl)
theorem kr47_17 : Cond.methodLink RL 110 yX11_spare ∈ wsL_law := in_r47 _ (List.mem_of_getElem? (i := 17) rfl)
theorem kr47_18 : Cond.instanceMethod yX11_spare ∈ wsL_law := in_r47 _ (List.mem_of_getElem? (i := 18) rfl)
theorem kr47_19 : Cond.selects RX11 yX11_spare yX11_spare ∈ wsL_law := in_r47 _ (List.mem_of_getElem? (i := 19) rfl)
theorem kr47_20 : Cond.code yX11_spare cX11_spare 3 (some .int) ∈ wsL_law := in_r47 _ (List.mem_of_getElem? (i := 20) rfl)
theorem kr47_21 : Cond.fieldLink RX11 294 "NoseDrum$Noses" "count" "I" ∈ wsL_law := in_r47 _ (List.mem_of_getElem? (i := 21) rfl)
theorem kr47_22 : Cond.methodLink RX11 290 yX0_takeHeights ∈ wsL_law := in_r47 _ (List.mem_of_getElem? (i := 22) rfl)
theorem kr47_23 : Cond.methodLink RX11 295 yX0_isSpare ∈ wsL_law := in_r47 _ (List.mem_of_getElem? (i := 23) rfl)
theorem kr48_0 : Cond.instanceMethod yX0_isSpare ∈ wsL_law := in_r48 _ (List.mem_of_getElem? (i := 0) rfl)
theorem kr48_1 : Cond.selects RX0 yX0_isSpare yX0_isSpare ∈ wsL_law := in_r48 _ (List.mem_of_getElem? (i := 1) rfl)
theorem kr48_2 : Cond.code yX0_isSpare cX0_isSpare 5 (some .boolean) ∈ wsL_law := in_r48 _ (List.mem_of_getElem? (i := 2) rfl)
theorem kr48_3 : Cond.methodLink RL 113 yX12_spare ∈ wsL_law := in_r48 _ (List.mem_of_getElem? (i := 3) rfl)
theorem kr48_4 : Cond.instanceMethod yX12_spare ∈ wsL_law := in_r48 _ (List.mem_of_getElem? (i := 4) rfl)
theorem kr48_5 : Cond.selects RX12 yX12_spare yX12_spare ∈ wsL_law := in_r48 _ (List.mem_of_getElem? (i := 5) rfl)
theorem kr48_6 : Cond.code yX12_spare cX12_spare 6 (some .int) ∈ wsL_law := in_r48 _ (List.mem_of_getElem? (i := 6) rfl)
theorem kr48_7 : Cond.methodLink RL 114 yX11_meet ∈ wsL_law := in_r48 _ (List.mem_of_getElem? (i := 7) rfl)
theorem kr48_8 : Cond.instanceMethod yX11_meet ∈ wsL_law := in_r48 _ (List.mem_of_getElem? (i := 8) rfl)
theorem kr48_9 : Cond.selects RX11 yX11_meet yX11_meet ∈ wsL_law := in_r48 _ (List.mem_of_getElem? (i := 9) rfl)
theorem kr48_10 : Cond.code yX11_meet cX11_meet 3 (some .int) ∈ wsL_law := in_r48 _ (List.mem_of_getElem? (i := 10) rfl)
theorem kr48_11 : Cond.methodLink RX11 299 yX0_doMeet ∈ wsL_law := in_r48 _ (List.mem_of_getElem? (i := 11) rfl)
theorem kr48_12 : Cond.instanceMethod yX0_doMeet ∈ wsL_law := in_r48 _ (List.mem_of_getElem? (i := 12) rfl)
theorem kr48_13 : Cond.selects RX0 yX0_doMeet yX0_doMeet ∈ wsL_law := in_r48 _ (List.mem_of_getElem? (i := 13) rfl)
theorem kr48_14 : Cond.code yX0_doMeet cX0_doMeet 5 (some .boolean) ∈ wsL_law := in_r48 _ (List.mem_of_getElem? (i := 14) rfl)
theorem kr48_15 : Cond.methodLink RL 117 yX12_meet ∈ wsL_law := in_r48 _ (List.mem_of_getElem? (i := 15) rfl)
theorem kr48_16 : Cond.instanceMethod yX12_meet ∈ wsL_law := in_r48 _ (List.mem_of_getElem? (i := 16) rfl)
theorem kr48_17 : Cond.selects RX12 yX12_meet yX12_meet ∈ wsL_law := in_r48 _ (List.mem_of_getElem? (i := 17) rfl)
theorem kr48_18 : Cond.code yX12_meet cX12_meet 5 (some .int) ∈ wsL_law := in_r48 _ (List.mem_of_getElem? (i := 18) rfl)
theorem kr48_19 : Cond.methodLink RL 118 yX11_rowAt ∈ wsL_law := in_r48 _ (List.mem_of_getElem? (i := 19) rfl)
theorem kr48_20 : Cond.instanceMethod yX11_rowAt ∈ wsL_law := in_r48 _ (List.mem_of_getElem? (i := 20) rfl)
theorem kr48_21 : Cond.selects RX11 yX11_rowAt yX11_rowAt ∈ wsL_law := in_r48 _ (List.mem_of_getElem? (i := 21) rfl)
theorem kr48_22 : Cond.code yX11_rowAt cX11_rowAt 2 (some .int) ∈ wsL_law := in_r48 _ (List.mem_of_getElem? (i := 22) rfl)
theorem kr48_23 : Cond.fieldLink RX11 303 "NoseDrum$Machine" "row" "[I" ∈ wsL_law := in_r48 _ (List.mem_of_getElem? (i := 23) rfl)
theorem kr49_0 : Cond.methodLink RL 121 yX12_rowAt ∈ wsL_law := in_r49 _ (List.mem_of_getElem? (i := 0) rfl)
theorem kr49_1 : Cond.instanceMethod yX12_rowAt ∈ wsL_law := in_r49 _ (List.mem_of_getElem? (i := 1) rfl)
theorem kr49_2 : Cond.selects RX12 yX12_rowAt yX12_rowAt ∈ wsL_law := in_r49 _ (List.mem_of_getElem? (i := 2) rfl)
theorem kr49_3 : Cond.code yX12_rowAt cX12_rowAt 2 (some .int) ∈ wsL_law := in_r49 _ (List.mem_of_getElem? (i := 3) rfl)
theorem kr49_4 : Cond.methodLink RX12 396 yX12_rowOf ∈ wsL_law := in_r49 _ (List.mem_of_getElem? (i := 4) rfl)
theorem kr49_5 : Cond.instanceMethod yX12_rowOf ∈ wsL_law := in_r49 _ (List.mem_of_getElem? (i := 5) rfl)
theorem kr49_6 : Cond.selects RX12 yX12_rowOf yX12_rowOf ∈ wsL_law := in_r49 _ (List.mem_of_getElem? (i := 6) rfl)
theorem kr49_7 : Cond.code yX12_rowOf cX12_rowOf 2 (some .int) ∈ wsL_law := in_r49 _ (List.mem_of_getElem? (i := 7) rfl)
theorem kr49_8 : Cond.methodLink RL 122 yX11_cut ∈ wsL_law := in_r49 _ (List.mem_of_getElem? (i := 8) rfl)
theorem kr49_9 : Cond.instanceMethod yX11_cut ∈ wsL_law := in_r49 _ (List.mem_of_getElem? (i := 9) rfl)
theorem kr49_10 : Cond.selects RX11 yX11_cut yX11_cut ∈ wsL_law := in_r49 _ (List.mem_of_getElem? (i := 10) rfl)
theorem kr49_11 : Cond.code yX11_cut cX11_cut 4 (some .int) ∈ wsL_law := in_r49 _ (List.mem_of_getElem? (i := 11) rfl)
theorem kr49_12 : Cond.methodLink RX11 306 yX11_isCutter ∈ wsL_law := in_r49 _ (List.mem_of_getElem? (i := 12) rfl)
theorem kr49_13 : Cond.static yX11_isCutter ∈ wsL_law := in_r49 _ (List.mem_of_getElem? (i := 13) rfl)
theorem kr49_14 : Cond.code yX11_isCutter cX11_isCutter 2 (some .boolean) ∈ wsL_law := in_r49 _ (List.mem_of_getElem? (i := 14) rfl)
theorem kr49_15 : Cond.methodLink RX11 310 yX0_fillCut ∈ wsL_law := in_r49 _ (List.mem_of_getElem? (i := 15) rfl)
theorem kr49_16 : Cond.instanceMethod yX0_fillCut ∈ wsL_law := in_r49 _ (List.mem_of_getElem? (i := 16) rfl)
theorem kr49_17 : Cond.selects RX0 yX0_fillCut yX0_fillCut ∈ wsL_law := in_r49 _ (List.mem_of_getElem? (i := 17) rfl)
theorem kr49_18 : Cond.code yX0_fillCut cX0_fillCut 9 none ∈ wsL_law := in_r49 _ (List.mem_of_getElem? (i := 18) rfl)
theorem kr49_19 : Cond.fieldLink RX0 99 "NoseDrum$Machine" "row" "[I" ∈ wsL_law := in_r49 _ (List.mem_of_getElem? (i := 19) rfl)
theorem kr49_20 : Cond.methodLink RL 126 yX12_cut ∈ wsL_law := in_r49 _ (List.mem_of_getElem? (i := 20) rfl)
theorem kr49_21 : Cond.instanceMethod yX12_cut ∈ wsL_law := in_r49 _ (List.mem_of_getElem? (i := 21) rfl)
theorem kr49_22 : Cond.selects RX12 yX12_cut yX12_cut ∈ wsL_law := in_r49 _ (List.mem_of_getElem? (i := 22) rfl)
theorem kr49_23 : Cond.code yX12_cut cX12_cut 4 (some .int) ∈ wsL_law := in_r49 _ (List.mem_of_getElem? (i := 23) rfl)
theorem kr50_0 : Cond.methodLink RX12 401 yX12_isCut ∈ wsL_law := in_r50 _ (List.mem_of_getElem? (i := 0) rfl)
theorem kr50_1 : Cond.instanceMethod yX12_isCut ∈ wsL_law := in_r50 _ (List.mem_of_getElem? (i := 1) rfl)
theorem kr50_2 : Cond.selects RX12 yX12_isCut yX12_isCut ∈ wsL_law := in_r50 _ (List.mem_of_getElem? (i := 2) rfl)
theorem kr50_3 : Cond.code yX12_isCut cX12_isCut 3 (some .boolean) ∈ wsL_law := in_r50 _ (List.mem_of_getElem? (i := 3) rfl)
theorem kr50_4 : Cond.constantLong RX12 96 (2) ∈ wsL_law := in_r50 _ (List.mem_of_getElem? (i := 4) rfl)
theorem kr50_5 : Cond.constantLong RX12 399 (9) ∈ wsL_law := in_r50 _ (List.mem_of_getElem? (i := 5) rfl)
theorem kr50_6 : Cond.methodLink RX12 405 yX12_cutOf ∈ wsL_law := in_r50 _ (List.mem_of_getElem? (i := 6) rfl)
theorem kr50_7 : Cond.instanceMethod yX12_cutOf ∈ wsL_law := in_r50 _ (List.mem_of_getElem? (i := 7) rfl)
theorem kr50_8 : Cond.selects RX12 yX12_cutOf yX12_cutOf ∈ wsL_law := in_r50 _ (List.mem_of_getElem? (i := 8) rfl)
theorem kr50_9 : Cond.code yX12_cutOf cX12_cutOf 6 (some .int) ∈ wsL_law := in_r50 _ (List.mem_of_getElem? (i := 9) rfl)
theorem kr50_10 : Cond.methodLink RL 127 yX11_brings ∈ wsL_law := in_r50 _ (List.mem_of_getElem? (i := 10) rfl)
theorem kr50_11 : Cond.instanceMethod yX11_brings ∈ wsL_law := in_r50 _ (List.mem_of_getElem? (i := 11) rfl)
theorem kr50_12 : Cond.selects RX11 yX11_brings yX11_brings ∈ wsL_law := in_r50 _ (List.mem_of_getElem? (i := 12) rfl)
theorem kr50_13 : Cond.code yX11_brings cX11_brings 3 (some .int) ∈ wsL_law := in_r50 _ (List.mem_of_getElem? (i := 13) rfl)
theorem kr50_14 : Cond.methodLink RX11 314 yX11_firstNotBrought ∈ wsL_law := in_r50 _ (List.mem_of_getElem? (i := 14) rfl)
theorem kr50_15 : Cond.instanceMethod yX11_firstNotBrought ∈ wsL_law := in_r50 _ (List.mem_of_getElem? (i := 15) rfl)
theorem kr50_16 : Cond.selects RX11 yX11_firstNotBrought yX11_firstNotBrought ∈ wsL_law := in_r50 _ (List.mem_of_getElem? (i := 16) rfl)
theorem kr50_17 : Cond.code yX11_firstNotBrought cX11_firstNotBrought 3 (some .int) ∈ wsL_law := in_r50 _ (List.mem_of_getElem? (i := 17) rfl)
theorem kr50_18 : Cond.methodLink RX11 434 yX0_spread ∈ wsL_law := in_r50 _ (List.mem_of_getElem? (i := 18) rfl)
theorem kr50_19 : Cond.methodLink RX11 320 yX11_firstUnlike ∈ wsL_law := in_r50 _ (List.mem_of_getElem? (i := 19) rfl)
theorem kr50_20 : Cond.instanceMethod yX11_firstUnlike ∈ wsL_law := in_r50 _ (List.mem_of_getElem? (i := 20) rfl)
theorem kr50_21 : Cond.selects RX11 yX11_firstUnlike yX11_firstUnlike ∈ wsL_law := in_r50 _ (List.mem_of_getElem? (i := 21) rfl)
theorem kr50_22 : Cond.code yX11_firstUnlike cX11_firstUnlike 4 (some .int) ∈ wsL_law := in_r50 _ (List.mem_of_getElem? (i := 22) rfl)
theorem kr50_23 : Cond.methodLink RL 130 yX12_brings ∈ wsL_law := in_r50 _ (List.mem_of_getElem? (i := 23) rfl)
theorem kr51_0 : Cond.instanceMethod yX12_brings ∈ wsL_law := in_r51 _ (List.mem_of_getElem? (i := 0) rfl)
theorem kr51_1 : Cond.selects RX12 yX12_brings yX12_brings ∈ wsL_law := in_r51 _ (List.mem_of_getElem? (i := 1) rfl)
theorem kr51_2 : Cond.code yX12_brings cX12_brings 3 (some .int) ∈ wsL_law := in_r51 _ (List.mem_of_getElem? (i := 2) rfl)
theorem kr51_3 : Cond.methodLink RX12 408 yX12_failsAt ∈ wsL_law := in_r51 _ (List.mem_of_getElem? (i := 3) rfl)
theorem kr51_4 : Cond.instanceMethod yX12_failsAt ∈ wsL_law := in_r51 _ (List.mem_of_getElem? (i := 4) rfl)
theorem kr51_5 : Cond.selects RX12 yX12_failsAt yX12_failsAt ∈ wsL_law := in_r51 _ (List.mem_of_getElem? (i := 5) rfl)
theorem kr51_6 : Cond.code yX12_failsAt cX12_failsAt 4 (some .int) ∈ wsL_law := in_r51 _ (List.mem_of_getElem? (i := 6) rfl)
theorem kr51_7 : Cond.methodLink RL 131 yX11_widest ∈ wsL_law := in_r51 _ (List.mem_of_getElem? (i := 7) rfl)
theorem kr51_8 : Cond.instanceMethod yX11_widest ∈ wsL_law := in_r51 _ (List.mem_of_getElem? (i := 8) rfl)
theorem kr51_9 : Cond.selects RX11 yX11_widest yX11_widest ∈ wsL_law := in_r51 _ (List.mem_of_getElem? (i := 9) rfl)
theorem kr51_10 : Cond.code yX11_widest cX11_widest 3 (some .int) ∈ wsL_law := in_r51 _ (List.mem_of_getElem? (i := 10) rfl)
theorem kr51_11 : Cond.methodLink RL 134 yX12_widest ∈ wsL_law := in_r51 _ (List.mem_of_getElem? (i := 11) rfl)
theorem kr51_12 : Cond.instanceMethod yX12_widest ∈ wsL_law := in_r51 _ (List.mem_of_getElem? (i := 12) rfl)
theorem kr51_13 : Cond.selects RX12 yX12_widest yX12_widest ∈ wsL_law := in_r51 _ (List.mem_of_getElem? (i := 13) rfl)
theorem kr51_14 : Cond.code yX12_widest cX12_widest 3 (some .int) ∈ wsL_law := in_r51 _ (List.mem_of_getElem? (i := 14) rfl)
theorem kr51_15 : Cond.methodLink RL 135 yX11_hard ∈ wsL_law := in_r51 _ (List.mem_of_getElem? (i := 15) rfl)
theorem kr51_16 : Cond.instanceMethod yX11_hard ∈ wsL_law := in_r51 _ (List.mem_of_getElem? (i := 16) rfl)
theorem kr51_17 : Cond.selects RX11 yX11_hard yX11_hard ∈ wsL_law := in_r51 _ (List.mem_of_getElem? (i := 17) rfl)
theorem kr51_18 : Cond.code yX11_hard cX11_hard 2 (some .int) ∈ wsL_law := in_r51 _ (List.mem_of_getElem? (i := 18) rfl)
theorem kr51_19 : Cond.methodLink RX11 317 yX11_firstFall ∈ wsL_law := in_r51 _ (List.mem_of_getElem? (i := 19) rfl)
theorem kr51_20 : Cond.instanceMethod yX11_firstFall ∈ wsL_law := in_r51 _ (List.mem_of_getElem? (i := 20) rfl)
theorem kr51_21 : Cond.selects RX11 yX11_firstFall yX11_firstFall ∈ wsL_law := in_r51 _ (List.mem_of_getElem? (i := 21) rfl)
theorem kr51_22 : Cond.code yX11_firstFall cX11_firstFall 4 (some .int) ∈ wsL_law := in_r51 _ (List.mem_of_getElem? (i := 22) rfl)
theorem kr51_23 : Cond.methodLink RL 138 yX12_hard ∈ wsL_law := in_r51 _ (List.mem_of_getElem? (i := 23) rfl)
theorem kr52_0 : Cond.instanceMethod yX12_hard ∈ wsL_law := in_r52 _ (List.mem_of_getElem? (i := 0) rfl)
theorem kr52_1 : Cond.selects RX12 yX12_hard yX12_hard ∈ wsL_law := in_r52 _ (List.mem_of_getElem? (i := 1) rfl)
theorem kr52_2 : Cond.code yX12_hard cX12_hard 4 (some .int) ∈ wsL_law := in_r52 _ (List.mem_of_getElem? (i := 2) rfl)
theorem kr52_3 : Cond.methodLink RL 139 yX11_differs ∈ wsL_law := in_r52 _ (List.mem_of_getElem? (i := 3) rfl)
theorem kr52_4 : Cond.instanceMethod yX11_differs ∈ wsL_law := in_r52 _ (List.mem_of_getElem? (i := 4) rfl)
theorem kr52_5 : Cond.selects RX11 yX11_differs yX11_differs ∈ wsL_law := in_r52 _ (List.mem_of_getElem? (i := 5) rfl)
theorem kr52_6 : Cond.code yX11_differs cX11_differs 2 (some .int) ∈ wsL_law := in_r52 _ (List.mem_of_getElem? (i := 6) rfl)
theorem kr52_7 : Cond.methodLink RL 142 yX12_differs ∈ wsL_law := in_r52 _ (List.mem_of_getElem? (i := 7) rfl)
theorem kr52_8 : Cond.instanceMethod yX12_differs ∈ wsL_law := in_r52 _ (List.mem_of_getElem? (i := 8) rfl)
theorem kr52_9 : Cond.selects RX12 yX12_differs yX12_differs ∈ wsL_law := in_r52 _ (List.mem_of_getElem? (i := 9) rfl)
theorem kr52_10 : Cond.code yX12_differs cX12_differs 3 (some .int) ∈ wsL_law := in_r52 _ (List.mem_of_getElem? (i := 10) rfl)
theorem kr52_11 : Cond.methodLink RL 143 yX11_phase ∈ wsL_law := in_r52 _ (List.mem_of_getElem? (i := 11) rfl)
theorem kr52_12 : Cond.instanceMethod yX11_phase ∈ wsL_law := in_r52 _ (List.mem_of_getElem? (i := 12) rfl)
theorem kr52_13 : Cond.selects RX11 yX11_phase yX11_phase ∈ wsL_law := in_r52 _ (List.mem_of_getElem? (i := 13) rfl)
theorem kr52_14 : Cond.code yX11_phase cX11_phase 3 (some .int) ∈ wsL_law := in_r52 _ (List.mem_of_getElem? (i := 14) rfl)
theorem kr52_15 : Cond.methodLink RX11 324 yX0_awayBy ∈ wsL_law := in_r52 _ (List.mem_of_getElem? (i := 15) rfl)
theorem kr52_16 : Cond.instanceMethod yX0_awayBy ∈ wsL_law := in_r52 _ (List.mem_of_getElem? (i := 16) rfl)
theorem kr52_17 : Cond.selects RX0 yX0_awayBy yX0_awayBy ∈ wsL_law := in_r52 _ (List.mem_of_getElem? (i := 17) rfl)
theorem kr52_18 : Cond.code yX0_awayBy cX0_awayBy 5 (some .int) ∈ wsL_law := in_r52 _ (List.mem_of_getElem? (i := 18) rfl)
theorem kr52_19 : Cond.methodLink RX0 151 Lib.Math.abs.name ∈ wsL_law := in_r52 _ (List.mem_of_getElem? (i := 19) rfl)
theorem kr52_20 : Cond.methodLink RL 146 yX12_phase ∈ wsL_law := in_r52 _ (List.mem_of_getElem? (i := 20) rfl)
theorem kr52_21 : Cond.instanceMethod yX12_phase ∈ wsL_law := in_r52 _ (List.mem_of_getElem? (i := 21) rfl)
theorem kr52_22 : Cond.selects RX12 yX12_phase yX12_phase ∈ wsL_law := in_r52 _ (List.mem_of_getElem? (i := 22) rfl)
theorem kr52_23 : Cond.code yX12_phase cX12_phase 3 (some .int) ∈ wsL_law := in_r52 _ (List.mem_of_getElem? (i := 23) rfl)
theorem kr53_0 : Cond.methodLink RX12 411 yX12_awayBy ∈ wsL_law := in_r53 _ (List.mem_of_getElem? (i := 0) rfl)
theorem kr53_1 : Cond.instanceMethod yX12_awayBy ∈ wsL_law := in_r53 _ (List.mem_of_getElem? (i := 1) rfl)
theorem kr53_2 : Cond.selects RX12 yX12_awayBy yX12_awayBy ∈ wsL_law := in_r53 _ (List.mem_of_getElem? (i := 2) rfl)
theorem kr53_3 : Cond.code yX12_awayBy cX12_awayBy 5 (some .int) ∈ wsL_law := in_r53 _ (List.mem_of_getElem? (i := 3) rfl)
theorem kr53_4 : Cond.methodLink RL 147 yX11_nearest ∈ wsL_law := in_r53 _ (List.mem_of_getElem? (i := 4) rfl)
theorem kr53_5 : Cond.instanceMethod yX11_nearest ∈ wsL_law := in_r53 _ (List.mem_of_getElem? (i := 5) rfl)
theorem kr53_6 : Cond.selects RX11 yX11_nearest yX11_nearest ∈ wsL_law := in_r53 _ (List.mem_of_getElem? (i := 6) rfl)
theorem kr53_7 : Cond.code yX11_nearest cX11_nearest 5 (some .int) ∈ wsL_law := in_r53 _ (List.mem_of_getElem? (i := 7) rfl)
theorem kr53_8 : Cond.methodLink RX11 327 yX0_leastAway ∈ wsL_law := in_r53 _ (List.mem_of_getElem? (i := 8) rfl)
theorem kr53_9 : Cond.instanceMethod yX0_leastAway ∈ wsL_law := in_r53 _ (List.mem_of_getElem? (i := 9) rfl)
theorem kr53_10 : Cond.selects RX0 yX0_leastAway yX0_leastAway ∈ wsL_law := in_r53 _ (List.mem_of_getElem? (i := 10) rfl)
theorem kr53_11 : Cond.code yX0_leastAway cX0_leastAway 4 (some .int) ∈ wsL_law := in_r53 _ (List.mem_of_getElem? (i := 11) rfl)
theorem kr53_12 : Cond.methodLink RX0 158 Lib.Math.min.name ∈ wsL_law := in_r53 _ (List.mem_of_getElem? (i := 12) rfl)
theorem kr53_13 : Cond.methodLink RX0 154 yX0_awayBy ∈ wsL_law := in_r53 _ (List.mem_of_getElem? (i := 13) rfl)
theorem kr53_14 : Cond.methodLink RL 150 yX12_nearest ∈ wsL_law := in_r53 _ (List.mem_of_getElem? (i := 14) rfl)
theorem kr53_15 : Cond.instanceMethod yX12_nearest ∈ wsL_law := in_r53 _ (List.mem_of_getElem? (i := 15) rfl)
theorem kr53_16 : Cond.selects RX12 yX12_nearest yX12_nearest ∈ wsL_law := in_r53 _ (List.mem_of_getElem? (i := 16) rfl)
theorem kr53_17 : Cond.code yX12_nearest cX12_nearest 6 (some .int) ∈ wsL_law := in_r53 _ (List.mem_of_getElem? (i := 17) rfl)
theorem kr53_18 : Cond.methodLink RL 151 yX11_fewest ∈ wsL_law := in_r53 _ (List.mem_of_getElem? (i := 18) rfl)
theorem kr53_19 : Cond.instanceMethod yX11_fewest ∈ wsL_law := in_r53 _ (List.mem_of_getElem? (i := 19) rfl)
theorem kr53_20 : Cond.selects RX11 yX11_fewest yX11_fewest ∈ wsL_law := in_r53 _ (List.mem_of_getElem? (i := 20) rfl)
theorem kr53_21 : Cond.code yX11_fewest cX11_fewest 3 (some .int) ∈ wsL_law := in_r53 _ (List.mem_of_getElem? (i := 21) rfl)
theorem kr53_22 : Cond.methodLink RX11 330 yX11_takeMotions ∈ wsL_law := in_r53 _ (List.mem_of_getElem? (i := 22) rfl)
theorem kr53_23 : Cond.instanceMethod yX11_takeMotions ∈ wsL_law := in_r53 _ (List.mem_of_getElem? (i := 23) rfl)
theorem kr54_0 : Cond.selects RX11 yX11_takeMotions yX11_takeMotions ∈ wsL_law := in_r54 _ (List.mem_of_getElem? (i := 0) rfl)
theorem kr54_1 : Cond.code yX11_takeMotions cX11_takeMotions 5 (some .int) ∈ wsL_law := in_r54 _ (List.mem_of_getElem? (i := 1) rfl)
theorem kr54_2 : Cond.fieldLink RX11 418 "NoseDrum$Slots" "length" "[I" ∈ wsL_law := in_r54 _ (List.mem_of_getElem? (i := 2) rfl)
theorem kr54_3 : Cond.fieldLink RX11 336 "NoseDrum$Room" "count" "I" ∈ wsL_law := in_r54 _ (List.mem_of_getElem? (i := 3) rfl)
theorem kr54_4 : Cond.fieldLink RX11 441 "NoseDrum$Room" "size" "[I" ∈ wsL_law := in_r54 _ (List.mem_of_getElem? (i := 4) rfl)
theorem kr54_5 : Cond.methodLink RX11 408 yX11_isSlot ∈ wsL_law := in_r54 _ (List.mem_of_getElem? (i := 5) rfl)
theorem kr54_6 : Cond.static yX11_isSlot ∈ wsL_law := in_r54 _ (List.mem_of_getElem? (i := 6) rfl)
theorem kr54_7 : Cond.code yX11_isSlot cX11_isSlot 1 (some .boolean) ∈ wsL_law := in_r54 _ (List.mem_of_getElem? (i := 7) rfl)
theorem kr54_8 : Cond.methodLink RX11 415 yX8_hasRow ∈ wsL_law := in_r54 _ (List.mem_of_getElem? (i := 8) rfl)
theorem kr54_9 : Cond.instanceMethod yX8_hasRow ∈ wsL_law := in_r54 _ (List.mem_of_getElem? (i := 9) rfl)
theorem kr54_10 : Cond.selects RX8 yX8_hasRow yX8_hasRow ∈ wsL_law := in_r54 _ (List.mem_of_getElem? (i := 10) rfl)
theorem kr54_11 : Cond.code yX8_hasRow cX8_hasRow 2 (some .boolean) ∈ wsL_law := in_r54 _ (List.mem_of_getElem? (i := 11) rfl)
theorem kr54_12 : Cond.methodLink RX11 437 yX8_numberAt ∈ wsL_law := in_r54 _ (List.mem_of_getElem? (i := 12) rfl)
theorem kr54_13 : Cond.instanceMethod yX8_numberAt ∈ wsL_law := in_r54 _ (List.mem_of_getElem? (i := 13) rfl)
theorem kr54_14 : Cond.selects RX8 yX8_numberAt yX8_numberAt ∈ wsL_law := in_r54 _ (List.mem_of_getElem? (i := 14) rfl)
theorem kr54_15 : Cond.code yX8_numberAt cX8_numberAt 3 (some .long) ∈ wsL_law := in_r54 _ (List.mem_of_getElem? (i := 15) rfl)
theorem kr54_16 : Cond.methodLink RX11 333 yX6_fewestTracks ∈ wsL_law := in_r54 _ (List.mem_of_getElem? (i := 16) rfl)
theorem kr54_17 : Cond.instanceMethod yX6_fewestTracks ∈ wsL_law := in_r54 _ (List.mem_of_getElem? (i := 17) rfl)
theorem kr54_18 : Cond.selects RX6 yX6_fewestTracks yX6_fewestTracks ∈ wsL_law := in_r54 _ (List.mem_of_getElem? (i := 18) rfl)
theorem kr54_19 : Cond.code yX6_fewestTracks cX6_fewestTracks 3 (some .int) ∈ wsL_law := in_r54 _ (List.mem_of_getElem? (i := 19) rfl)
theorem kr54_20 : Cond.fieldLink RX6 19 "NoseDrum$Room" "count" "I" ∈ wsL_law := in_r54 _ (List.mem_of_getElem? (i := 20) rfl)
theorem kr54_21 : Cond.methodLink RX6 23 yX6_clearLoads ∈ wsL_law := in_r54 _ (List.mem_of_getElem? (i := 21) rfl)
theorem kr54_22 : Cond.instanceMethod yX6_clearLoads ∈ wsL_law := in_r54 _ (List.mem_of_getElem? (i := 22) rfl)
theorem kr54_23 : Cond.selects RX6 yX6_clearLoads yX6_clearLoads ∈ wsL_law := in_r54 _ (List.mem_of_getElem? (i := 23) rfl)
theorem kr55_0 : Cond.code yX6_clearLoads cX6_clearLoads 2 none ∈ wsL_law := in_r55 _ (List.mem_of_getElem? (i := 0) rfl)
theorem kr55_1 : Cond.methodLink RX6 26 yX6_findsRoom ∈ wsL_law := in_r55 _ (List.mem_of_getElem? (i := 1) rfl)
theorem kr55_2 : Cond.static yX6_findsRoom ∈ wsL_law := in_r55 _ (List.mem_of_getElem? (i := 2) rfl)
theorem kr55_3 : Cond.code yX6_findsRoom cX6_findsRoom 6 (some .boolean) ∈ wsL_law := in_r55 _ (List.mem_of_getElem? (i := 3) rfl)
theorem kr55_4 : Cond.methodLink RL 154 yX12_fewest ∈ wsL_law := in_r55 _ (List.mem_of_getElem? (i := 4) rfl)
theorem kr55_5 : Cond.instanceMethod yX12_fewest ∈ wsL_law := in_r55 _ (List.mem_of_getElem? (i := 5) rfl)
theorem kr55_6 : Cond.selects RX12 yX12_fewest yX12_fewest ∈ wsL_law := in_r55 _ (List.mem_of_getElem? (i := 6) rfl)
theorem kr55_7 : Cond.code yX12_fewest cX12_fewest 3 (some .int) ∈ wsL_law := in_r55 _ (List.mem_of_getElem? (i := 7) rfl)
theorem kr55_8 : Cond.methodLink RX12 417 yX12_asksMotions ∈ wsL_law := in_r55 _ (List.mem_of_getElem? (i := 8) rfl)
theorem kr55_9 : Cond.instanceMethod yX12_asksMotions ∈ wsL_law := in_r55 _ (List.mem_of_getElem? (i := 9) rfl)
theorem kr55_10 : Cond.selects RX12 yX12_asksMotions yX12_asksMotions ∈ wsL_law := in_r55 _ (List.mem_of_getElem? (i := 10) rfl)
theorem kr55_11 : Cond.code yX12_asksMotions cX12_asksMotions 3 (some .int) ∈ wsL_law := in_r55 _ (List.mem_of_getElem? (i := 11) rfl)
theorem kr55_12 : Cond.methodLink RX12 414 yX12_isSlot ∈ wsL_law := in_r55 _ (List.mem_of_getElem? (i := 12) rfl)
theorem kr55_13 : Cond.static yX12_isSlot ∈ wsL_law := in_r55 _ (List.mem_of_getElem? (i := 13) rfl)
theorem kr55_14 : Cond.code yX12_isSlot cX12_isSlot 1 (some .boolean) ∈ wsL_law := in_r55 _ (List.mem_of_getElem? (i := 14) rfl)
theorem kr55_15 : Cond.constantLong RX12 464 (3) ∈ wsL_law := in_r55 _ (List.mem_of_getElem? (i := 15) rfl)
theorem kr55_16 : Cond.methodLink RX12 420 yX12_fillFew ∈ wsL_law := in_r55 _ (List.mem_of_getElem? (i := 16) rfl)
theorem kr55_17 : Cond.instanceMethod yX12_fillFew ∈ wsL_law := in_r55 _ (List.mem_of_getElem? (i := 17) rfl)
theorem kr55_18 : Cond.selects RX12 yX12_fillFew yX12_fillFew ∈ wsL_law := in_r55 _ (List.mem_of_getElem? (i := 18) rfl)
theorem kr55_19 : Cond.code yX12_fillFew cX12_fillFew 4 none ∈ wsL_law := in_r55 _ (List.mem_of_getElem? (i := 19) rfl)
theorem kr55_20 : Cond.methodLink RL 155 yX11_place ∈ wsL_law := in_r55 _ (List.mem_of_getElem? (i := 20) rfl)
theorem kr55_21 : Cond.instanceMethod yX11_place ∈ wsL_law := in_r55 _ (List.mem_of_getElem? (i := 21) rfl)
theorem kr55_22 : Cond.selects RX11 yX11_place yX11_place ∈ wsL_law := in_r55 _ (List.mem_of_getElem? (i := 22) rfl)
theorem kr55_23 : Cond.code yX11_place cX11_place 4 (some .int) ∈ wsL_law := in_r55 _ (List.mem_of_getElem? (i := 23) rfl)
theorem kr56_0 : Cond.fieldLink RX11 337 "NoseDrum$Room" "track" "[I" ∈ wsL_law := in_r56 _ (List.mem_of_getElem? (i := 0) rfl)
theorem kr56_1 : Cond.methodLink RL 158 yX12_place ∈ wsL_law := in_r56 _ (List.mem_of_getElem? (i := 1) rfl)
theorem kr56_2 : Cond.instanceMethod yX12_place ∈ wsL_law := in_r56 _ (List.mem_of_getElem? (i := 2) rfl)
theorem kr56_3 : Cond.selects RX12 yX12_place yX12_place ∈ wsL_law := in_r56 _ (List.mem_of_getElem? (i := 3) rfl)
theorem kr56_4 : Cond.code yX12_place cX12_place 10 (some .int) ∈ wsL_law := in_r56 _ (List.mem_of_getElem? (i := 4) rfl)
theorem kr56_5 : Cond.methodLink RX12 423 yX12_canRest ∈ wsL_law := in_r56 _ (List.mem_of_getElem? (i := 5) rfl)
theorem kr56_6 : Cond.instanceMethod yX12_canRest ∈ wsL_law := in_r56 _ (List.mem_of_getElem? (i := 6) rfl)
theorem kr56_7 : Cond.selects RX12 yX12_canRest yX12_canRest ∈ wsL_law := in_r56 _ (List.mem_of_getElem? (i := 7) rfl)
theorem kr56_8 : Cond.code yX12_canRest cX12_canRest 10 (some .boolean) ∈ wsL_law := in_r56 _ (List.mem_of_getElem? (i := 8) rfl)
theorem kr56_9 : Cond.methodLink RL 159 yX11_clash ∈ wsL_law := in_r56 _ (List.mem_of_getElem? (i := 9) rfl)
theorem kr56_10 : Cond.instanceMethod yX11_clash ∈ wsL_law := in_r56 _ (List.mem_of_getElem? (i := 10) rfl)
theorem kr56_11 : Cond.selects RX11 yX11_clash yX11_clash ∈ wsL_law := in_r56 _ (List.mem_of_getElem? (i := 11) rfl)
theorem kr56_12 : Cond.code yX11_clash cX11_clash 3 (some .int) ∈ wsL_law := in_r56 _ (List.mem_of_getElem? (i := 12) rfl)
theorem kr56_13 : Cond.methodLink RX11 338 yX6_mostApart ∈ wsL_law := in_r56 _ (List.mem_of_getElem? (i := 13) rfl)
theorem kr56_14 : Cond.instanceMethod yX6_mostApart ∈ wsL_law := in_r56 _ (List.mem_of_getElem? (i := 14) rfl)
theorem kr56_15 : Cond.selects RX6 yX6_mostApart yX6_mostApart ∈ wsL_law := in_r56 _ (List.mem_of_getElem? (i := 15) rfl)
theorem kr56_16 : Cond.code yX6_mostApart cX6_mostApart 4 (some .int) ∈ wsL_law := in_r56 _ (List.mem_of_getElem? (i := 16) rfl)
theorem kr56_17 : Cond.methodLink RX6 40 Lib.Math.max.name ∈ wsL_law := in_r56 _ (List.mem_of_getElem? (i := 17) rfl)
theorem kr56_18 : Cond.methodLink RX6 30 yX6_areApart ∈ wsL_law := in_r56 _ (List.mem_of_getElem? (i := 18) rfl)
theorem kr56_19 : Cond.instanceMethod yX6_areApart ∈ wsL_law := in_r56 _ (List.mem_of_getElem? (i := 19) rfl)
theorem kr56_20 : Cond.selects RX6 yX6_areApart yX6_areApart ∈ wsL_law := in_r56 _ (List.mem_of_getElem? (i := 20) rfl)
theorem kr56_21 : Cond.code yX6_areApart cX6_areApart 5 (some .boolean) ∈ wsL_law := in_r56 _ (List.mem_of_getElem? (i := 21) rfl)
theorem kr56_22 : Cond.methodLink RX6 34 yJ6_bitCount_0f7a4 ∈ wsL_law := in_r56 _ (List.mem_of_getElem? (i := 22) rfl)
theorem kr56_23 : Cond.static yJ6_bitCount_0f7a4 ∈ wsL_law := in_r56 _ (List.mem_of_getElem? (i := 23) rfl)
theorem kr57_0 : Cond.initialized RJ6 ∈ wsL_law := in_r57 _ (List.mem_of_getElem? (i := 0) rfl)
theorem kr57_1 : Cond.code yJ6_bitCount_0f7a4 cJ6_bitCount_0f7a4 1 (some .int) ∈ wsL_law := in_r57 _ (List.mem_of_getElem? (i := 1) rfl)
theorem kr57_2 : Cond.constant RJ6 265 (1431655765) ∈ wsL_law := in_r57 _ (List.mem_of_getElem? (i := 2) rfl)
theorem kr57_3 : Cond.constant RJ6 266 (858993459) ∈ wsL_law := in_r57 _ (List.mem_of_getElem? (i := 3) rfl)
theorem kr57_4 : Cond.constant RJ6 267 (252645135) ∈ wsL_law := in_r57 _ (List.mem_of_getElem? (i := 4) rfl)
theorem kr57_5 : Cond.methodLink RL 162 yX12_clash ∈ wsL_law := in_r57 _ (List.mem_of_getElem? (i := 5) rfl)
theorem kr57_6 : Cond.instanceMethod yX12_clash ∈ wsL_law := in_r57 _ (List.mem_of_getElem? (i := 6) rfl)
theorem kr57_7 : Cond.selects RX12 yX12_clash yX12_clash ∈ wsL_law := in_r57 _ (List.mem_of_getElem? (i := 7) rfl)
theorem kr57_8 : Cond.code yX12_clash cX12_clash 9 (some .int) ∈ wsL_law := in_r57 _ (List.mem_of_getElem? (i := 8) rfl)
theorem kr57_9 : Cond.methodLink RL 163 yX11_heard ∈ wsL_law := in_r57 _ (List.mem_of_getElem? (i := 9) rfl)
theorem kr57_10 : Cond.instanceMethod yX11_heard ∈ wsL_law := in_r57 _ (List.mem_of_getElem? (i := 10) rfl)
theorem kr57_11 : Cond.selects RX11 yX11_heard yX11_heard ∈ wsL_law := in_r57 _ (List.mem_of_getElem? (i := 11) rfl)
theorem kr57_12 : Cond.code yX11_heard cX11_heard 3 (some .long) ∈ wsL_law := in_r57 _ (List.mem_of_getElem? (i := 12) rfl)
theorem kr57_13 : Cond.constantLong RX11 344 (-2) ∈ wsL_law := in_r57 _ (List.mem_of_getElem? (i := 13) rfl)
theorem kr57_14 : Cond.methodLink RX11 341 yX11_isHeardHeight ∈ wsL_law := in_r57 _ (List.mem_of_getElem? (i := 14) rfl)
theorem kr57_15 : Cond.static yX11_isHeardHeight ∈ wsL_law := in_r57 _ (List.mem_of_getElem? (i := 15) rfl)
theorem kr57_16 : Cond.code yX11_isHeardHeight cX11_isHeardHeight 1 (some .boolean) ∈ wsL_law := in_r57 _ (List.mem_of_getElem? (i := 16) rfl)
theorem kr57_17 : Cond.methodLink RX11 346 yX0_bitsHeard ∈ wsL_law := in_r57 _ (List.mem_of_getElem? (i := 17) rfl)
theorem kr57_18 : Cond.instanceMethod yX0_bitsHeard ∈ wsL_law := in_r57 _ (List.mem_of_getElem? (i := 18) rfl)
theorem kr57_19 : Cond.selects RX0 yX0_bitsHeard yX0_bitsHeard ∈ wsL_law := in_r57 _ (List.mem_of_getElem? (i := 19) rfl)
theorem kr57_20 : Cond.code yX0_bitsHeard cX0_bitsHeard 6 (some .long) ∈ wsL_law := in_r57 _ (List.mem_of_getElem? (i := 20) rfl)
theorem kr57_21 : Cond.methodLink RL 167 yX12_heard ∈ wsL_law := in_r57 _ (List.mem_of_getElem? (i := 21) rfl)
theorem kr57_22 : Cond.instanceMethod yX12_heard ∈ wsL_law := in_r57 _ (List.mem_of_getElem? (i := 22) rfl)
theorem kr57_23 : Cond.selects RX12 yX12_heard yX12_heard ∈ wsL_law := in_r57 _ (List.mem_of_getElem? (i := 23) rfl)
theorem kr58_0 : Cond.code yX12_heard cX12_heard 3 (some .long) ∈ wsL_law := in_r58 _ (List.mem_of_getElem? (i := 0) rfl)
theorem kr58_1 : Cond.constantLong RX12 427 (99) ∈ wsL_law := in_r58 _ (List.mem_of_getElem? (i := 1) rfl)
theorem kr58_2 : Cond.constantLong RX12 433 (-2) ∈ wsL_law := in_r58 _ (List.mem_of_getElem? (i := 2) rfl)
theorem kr58_3 : Cond.methodLink RX12 429 yX12_heardOf ∈ wsL_law := in_r58 _ (List.mem_of_getElem? (i := 3) rfl)
theorem kr58_4 : Cond.instanceMethod yX12_heardOf ∈ wsL_law := in_r58 _ (List.mem_of_getElem? (i := 4) rfl)
theorem kr58_5 : Cond.selects RX12 yX12_heardOf yX12_heardOf ∈ wsL_law := in_r58 _ (List.mem_of_getElem? (i := 5) rfl)
theorem kr58_6 : Cond.code yX12_heardOf cX12_heardOf 6 (some .long) ∈ wsL_law := in_r58 _ (List.mem_of_getElem? (i := 6) rfl)
theorem kr58_7 : Cond.methodLink RL 168 yX11_faults ∈ wsL_law := in_r58 _ (List.mem_of_getElem? (i := 7) rfl)
theorem kr58_8 : Cond.instanceMethod yX11_faults ∈ wsL_law := in_r58 _ (List.mem_of_getElem? (i := 8) rfl)
theorem kr58_9 : Cond.selects RX11 yX11_faults yX11_faults ∈ wsL_law := in_r58 _ (List.mem_of_getElem? (i := 9) rfl)
theorem kr58_10 : Cond.code yX11_faults cX11_faults 5 (some .int) ∈ wsL_law := in_r58 _ (List.mem_of_getElem? (i := 10) rfl)
theorem kr58_11 : Cond.fieldLink RX11 354 "NoseDrum$Suspects" "many" "I" ∈ wsL_law := in_r58 _ (List.mem_of_getElem? (i := 11) rfl)
theorem kr58_12 : Cond.methodLink RX11 350 yX11_searchFaults ∈ wsL_law := in_r58 _ (List.mem_of_getElem? (i := 12) rfl)
theorem kr58_13 : Cond.instanceMethod yX11_searchFaults ∈ wsL_law := in_r58 _ (List.mem_of_getElem? (i := 13) rfl)
theorem kr58_14 : Cond.selects RX11 yX11_searchFaults yX11_searchFaults ∈ wsL_law := in_r58 _ (List.mem_of_getElem? (i := 14) rfl)
theorem kr58_15 : Cond.code yX11_searchFaults cX11_searchFaults 9 (some .int) ∈ wsL_law := in_r58 _ (List.mem_of_getElem? (i := 15) rfl)
theorem kr58_16 : Cond.methodLink RX11 444 yX9_search ∈ wsL_law := in_r58 _ (List.mem_of_getElem? (i := 16) rfl)
theorem kr58_17 : Cond.instanceMethod yX9_search ∈ wsL_law := in_r58 _ (List.mem_of_getElem? (i := 17) rfl)
theorem kr58_18 : Cond.selects RX9 yX9_search yX9_search ∈ wsL_law := in_r58 _ (List.mem_of_getElem? (i := 18) rfl)
theorem kr58_19 : Cond.code yX9_search cX9_search 9 none ∈ wsL_law := in_r58 _ (List.mem_of_getElem? (i := 19) rfl)
theorem kr58_20 : Cond.fieldLink RX9 7 "NoseDrum$Suspects" "many" "I" ∈ wsL_law := in_r58 _ (List.mem_of_getElem? (i := 20) rfl)
theorem kr58_21 : Cond.fieldLink RX9 13 "NoseDrum$Suspects" "brokenBits" "I" ∈ wsL_law := in_r58 _ (List.mem_of_getElem? (i := 21) rfl)
theorem kr58_22 : Cond.fieldLink RX9 16 "NoseDrum$Suspects" "wornBits" "I" ∈ wsL_law := in_r58 _ (List.mem_of_getElem? (i := 22) rfl)
theorem kr58_23 : Cond.fieldLink RX9 19 "NoseDrum$Suspects" "leastWear" "I" ∈ wsL_law := in_r58 _ (List.mem_of_getElem? (i := 23) rfl)
theorem kr59_0 : Cond.fieldLink RX9 22 "NoseDrum$Machine" "noses" "LNoseDrum$Noses;" ∈ wsL_law := in_r59 _ (List.mem_of_getElem? (i := 0) rfl)
theorem kr59_1 : Cond.fieldLink RX9 42 "NoseDrum$Suspects" "nothingIs" "Z" ∈ wsL_law := in_r59 _ (List.mem_of_getElem? (i := 1) rfl)
theorem kr59_2 : Cond.fieldLink RX9 46 "NoseDrum$Machine" "followers" "LNoseDrum$Followers;" ∈ wsL_law := in_r59 _ (List.mem_of_getElem? (i := 2) rfl)
theorem kr59_3 : Cond.fieldLink RX9 50 "NoseDrum$Followers" "on" "[I" ∈ wsL_law := in_r59 _ (List.mem_of_getElem? (i := 3) rfl)
theorem kr59_4 : Cond.fieldLink RX9 60 "NoseDrum$Noses" "count" "I" ∈ wsL_law := in_r59 _ (List.mem_of_getElem? (i := 4) rfl)
theorem kr59_5 : Cond.fieldLink RX9 65 "NoseDrum$Noses" "track" "[I" ∈ wsL_law := in_r59 _ (List.mem_of_getElem? (i := 5) rfl)
theorem kr59_6 : Cond.fieldLink RX9 72 "NoseDrum$Noses" "high" "[I" ∈ wsL_law := in_r59 _ (List.mem_of_getElem? (i := 6) rfl)
theorem kr59_7 : Cond.methodLink RX9 28 yX0_takeToldHeights ∈ wsL_law := in_r59 _ (List.mem_of_getElem? (i := 7) rfl)
theorem kr59_8 : Cond.instanceMethod yX0_takeToldHeights ∈ wsL_law := in_r59 _ (List.mem_of_getElem? (i := 8) rfl)
theorem kr59_9 : Cond.selects RX0 yX0_takeToldHeights yX0_takeToldHeights ∈ wsL_law := in_r59 _ (List.mem_of_getElem? (i := 9) rfl)
theorem kr59_10 : Cond.code yX0_takeToldHeights cX0_takeToldHeights 3 none ∈ wsL_law := in_r59 _ (List.mem_of_getElem? (i := 10) rfl)
theorem kr59_11 : Cond.fieldLink RX0 45 "NoseDrum$Noses" "high" "[I" ∈ wsL_law := in_r59 _ (List.mem_of_getElem? (i := 11) rfl)
theorem kr59_12 : Cond.methodLink RX9 34 yX0_fill ∈ wsL_law := in_r59 _ (List.mem_of_getElem? (i := 12) rfl)
theorem kr59_13 : Cond.methodLink RX9 38 yX0_bitsHeard ∈ wsL_law := in_r59 _ (List.mem_of_getElem? (i := 13) rfl)
theorem kr59_14 : Cond.methodLink RX9 56 yX1_rootOf ∈ wsL_law := in_r59 _ (List.mem_of_getElem? (i := 14) rfl)
theorem kr59_15 : Cond.methodLink RX9 68 yX9_tryNose ∈ wsL_law := in_r59 _ (List.mem_of_getElem? (i := 15) rfl)
theorem kr59_16 : Cond.instanceMethod yX9_tryNose ∈ wsL_law := in_r59 _ (List.mem_of_getElem? (i := 16) rfl)
theorem kr59_17 : Cond.selects RX9 yX9_tryNose yX9_tryNose ∈ wsL_law := in_r59 _ (List.mem_of_getElem? (i := 17) rfl)
theorem kr59_18 : Cond.code yX9_tryNose cX9_tryNose 10 none ∈ wsL_law := in_r59 _ (List.mem_of_getElem? (i := 18) rfl)
theorem kr59_19 : Cond.fieldLink RX9 79 "NoseDrum$Curves" "heights" "[I" ∈ wsL_law := in_r59 _ (List.mem_of_getElem? (i := 19) rfl)
theorem kr59_20 : Cond.methodLink RX9 82 yX9_suspectBroken ∈ wsL_law := in_r59 _ (List.mem_of_getElem? (i := 20) rfl)
theorem kr59_21 : Cond.instanceMethod yX9_suspectBroken ∈ wsL_law := in_r59 _ (List.mem_of_getElem? (i := 21) rfl)
theorem kr59_22 : Cond.selects RX9 yX9_suspectBroken yX9_suspectBroken ∈ wsL_law := in_r59 _ (List.mem_of_getElem? (i := 22) rfl)
theorem kr59_23 : Cond.code yX9_suspectBroken cX9_suspectBroken 2 none ∈ wsL_law := in_r59 _ (List.mem_of_getElem? (i := 23) rfl)
theorem kr60_0 : Cond.methodLink RX9 86 yX9_suspectWorn ∈ wsL_law := in_r60 _ (List.mem_of_getElem? (i := 0) rfl)
theorem kr60_1 : Cond.instanceMethod yX9_suspectWorn ∈ wsL_law := in_r60 _ (List.mem_of_getElem? (i := 1) rfl)
theorem kr60_2 : Cond.selects RX9 yX9_suspectWorn yX9_suspectWorn ∈ wsL_law := in_r60 _ (List.mem_of_getElem? (i := 2) rfl)
theorem kr60_3 : Cond.code yX9_suspectWorn cX9_suspectWorn 3 none ∈ wsL_law := in_r60 _ (List.mem_of_getElem? (i := 3) rfl)
theorem kr60_4 : Cond.methodLink RX9 89 Lib.Math.min.name ∈ wsL_law := in_r60 _ (List.mem_of_getElem? (i := 4) rfl)
theorem kr60_5 : Cond.methodLink RX9 75 yX9_suspectAll ∈ wsL_law := in_r60 _ (List.mem_of_getElem? (i := 5) rfl)
theorem kr60_6 : Cond.instanceMethod yX9_suspectAll ∈ wsL_law := in_r60 _ (List.mem_of_getElem? (i := 6) rfl)
theorem kr60_7 : Cond.selects RX9 yX9_suspectAll yX9_suspectAll ∈ wsL_law := in_r60 _ (List.mem_of_getElem? (i := 7) rfl)
theorem kr60_8 : Cond.code yX9_suspectAll cX9_suspectAll 4 none ∈ wsL_law := in_r60 _ (List.mem_of_getElem? (i := 8) rfl)
theorem kr60_9 : Cond.methodLink RL 171 yX12_faults ∈ wsL_law := in_r60 _ (List.mem_of_getElem? (i := 9) rfl)
theorem kr60_10 : Cond.instanceMethod yX12_faults ∈ wsL_law := in_r60 _ (List.mem_of_getElem? (i := 10) rfl)
theorem kr60_11 : Cond.selects RX12 yX12_faults yX12_faults ∈ wsL_law := in_r60 _ (List.mem_of_getElem? (i := 11) rfl)
theorem kr60_12 : Cond.code yX12_faults cX12_faults 5 (some .int) ∈ wsL_law := in_r60 _ (List.mem_of_getElem? (i := 12) rfl)
theorem kr60_13 : Cond.fieldLink RX12 441 "NoseDrumModel" "fits" "I" ∈ wsL_law := in_r60 _ (List.mem_of_getElem? (i := 13) rfl)
theorem kr60_14 : Cond.methodLink RX12 453 yX12_asksHeard ∈ wsL_law := in_r60 _ (List.mem_of_getElem? (i := 14) rfl)
theorem kr60_15 : Cond.instanceMethod yX12_asksHeard ∈ wsL_law := in_r60 _ (List.mem_of_getElem? (i := 15) rfl)
theorem kr60_16 : Cond.selects RX12 yX12_asksHeard yX12_asksHeard ∈ wsL_law := in_r60 _ (List.mem_of_getElem? (i := 16) rfl)
theorem kr60_17 : Cond.code yX12_asksHeard cX12_asksHeard 5 (some .int) ∈ wsL_law := in_r60 _ (List.mem_of_getElem? (i := 17) rfl)
theorem kr60_18 : Cond.methodLink RX12 456 yX12_rowSet ∈ wsL_law := in_r60 _ (List.mem_of_getElem? (i := 18) rfl)
theorem kr60_19 : Cond.instanceMethod yX12_rowSet ∈ wsL_law := in_r60 _ (List.mem_of_getElem? (i := 19) rfl)
theorem kr60_20 : Cond.selects RX12 yX12_rowSet yX12_rowSet ∈ wsL_law := in_r60 _ (List.mem_of_getElem? (i := 20) rfl)
theorem kr60_21 : Cond.code yX12_rowSet cX12_rowSet 5 (some .long) ∈ wsL_law := in_r60 _ (List.mem_of_getElem? (i := 21) rfl)
theorem kr60_22 : Cond.methodLink RX12 460 yX12_fillFits ∈ wsL_law := in_r60 _ (List.mem_of_getElem? (i := 22) rfl)
theorem kr60_23 : Cond.instanceMethod yX12_fillFits ∈ wsL_law := in_r60 _ (List.mem_of_getElem? (i := 23) rfl)
theorem kr61_0 : Cond.selects RX12 yX12_fillFits yX12_fillFits ∈ wsL_law := in_r61 _ (List.mem_of_getElem? (i := 0) rfl)
theorem kr61_1 : Cond.code yX12_fillFits cX12_fillFits 8 none ∈ wsL_law := in_r61 _ (List.mem_of_getElem? (i := 1) rfl)
theorem kr61_2 : Cond.fieldLink RX12 438 "NoseDrumModel" "fitSound" "I" ∈ wsL_law := in_r61 _ (List.mem_of_getElem? (i := 2) rfl)
theorem kr61_3 : Cond.fieldLink RX12 444 "NoseDrumModel" "fitBroken" "I" ∈ wsL_law := in_r61 _ (List.mem_of_getElem? (i := 3) rfl)
theorem kr61_4 : Cond.fieldLink RX12 447 "NoseDrumModel" "fitWorn" "I" ∈ wsL_law := in_r61 _ (List.mem_of_getElem? (i := 4) rfl)
theorem kr61_5 : Cond.fieldLink RX12 450 "NoseDrumModel" "fitLeast" "I" ∈ wsL_law := in_r61 _ (List.mem_of_getElem? (i := 5) rfl)
theorem kr61_6 : Cond.methodLink RX12 435 yX12_wholes ∈ wsL_law := in_r61 _ (List.mem_of_getElem? (i := 6) rfl)
theorem kr61_7 : Cond.instanceMethod yX12_wholes ∈ wsL_law := in_r61 _ (List.mem_of_getElem? (i := 7) rfl)
theorem kr61_8 : Cond.selects RX12 yX12_wholes yX12_wholes ∈ wsL_law := in_r61 _ (List.mem_of_getElem? (i := 8) rfl)
theorem kr61_9 : Cond.code yX12_wholes cX12_wholes 2 none ∈ wsL_law := in_r61 _ (List.mem_of_getElem? (i := 9) rfl)
theorem kr61_10 : Cond.methodLink RL 172 yX11_guess ∈ wsL_law := in_r61 _ (List.mem_of_getElem? (i := 10) rfl)
theorem kr61_11 : Cond.instanceMethod yX11_guess ∈ wsL_law := in_r61 _ (List.mem_of_getElem? (i := 11) rfl)
theorem kr61_12 : Cond.selects RX11 yX11_guess yX11_guess ∈ wsL_law := in_r61 _ (List.mem_of_getElem? (i := 12) rfl)
theorem kr61_13 : Cond.code yX11_guess cX11_guess 6 (some .int) ∈ wsL_law := in_r61 _ (List.mem_of_getElem? (i := 13) rfl)
theorem kr61_14 : Cond.fieldLink RX11 357 "NoseDrum$Suspects" "brokenBits" "I" ∈ wsL_law := in_r61 _ (List.mem_of_getElem? (i := 14) rfl)
theorem kr61_15 : Cond.fieldLink RX11 360 "NoseDrum$Suspects" "wornBits" "I" ∈ wsL_law := in_r61 _ (List.mem_of_getElem? (i := 15) rfl)
theorem kr61_16 : Cond.fieldLink RX11 363 "NoseDrum$Suspects" "nothingIs" "Z" ∈ wsL_law := in_r61 _ (List.mem_of_getElem? (i := 16) rfl)
theorem kr61_17 : Cond.fieldLink RX11 366 "NoseDrum$Suspects" "leastWear" "I" ∈ wsL_law := in_r61 _ (List.mem_of_getElem? (i := 17) rfl)
theorem kr61_18 : Cond.methodLink RL 176 yX12_guess ∈ wsL_law := in_r61 _ (List.mem_of_getElem? (i := 18) rfl)
theorem kr61_19 : Cond.instanceMethod yX12_guess ∈ wsL_law := in_r61 _ (List.mem_of_getElem? (i := 19) rfl)
theorem kr61_20 : Cond.selects RX12 yX12_guess yX12_guess ∈ wsL_law := in_r61 _ (List.mem_of_getElem? (i := 20) rfl)
theorem kr61_21 : Cond.code yX12_guess cX12_guess 6 (some .int) ∈ wsL_law := in_r61 _ (List.mem_of_getElem? (i := 21) rfl)
theorem kr61_22 : Cond.methodLink RL 177 yX11_margin ∈ wsL_law := in_r61 _ (List.mem_of_getElem? (i := 22) rfl)
theorem kr61_23 : Cond.instanceMethod yX11_margin ∈ wsL_law := in_r61 _ (List.mem_of_getElem? (i := 23) rfl)
theorem kr62_0 : Cond.selects RX11 yX11_margin yX11_margin ∈ wsL_law := in_r62 _ (List.mem_of_getElem? (i := 0) rfl)
theorem kr62_1 : Cond.code yX11_margin cX11_margin 8 (some .int) ∈ wsL_law := in_r62 _ (List.mem_of_getElem? (i := 1) rfl)
theorem kr62_2 : Cond.fieldLink RX11 369 "NoseDrum$Curves" "heights" "[I" ∈ wsL_law := in_r62 _ (List.mem_of_getElem? (i := 2) rfl)
theorem kr62_3 : Cond.methodLink RX11 372 yX0_fill ∈ wsL_law := in_r62 _ (List.mem_of_getElem? (i := 3) rfl)
theorem kr62_4 : Cond.methodLink RL 180 yX12_margin ∈ wsL_law := in_r62 _ (List.mem_of_getElem? (i := 4) rfl)
theorem kr62_5 : Cond.instanceMethod yX12_margin ∈ wsL_law := in_r62 _ (List.mem_of_getElem? (i := 5) rfl)
theorem kr62_6 : Cond.selects RX12 yX12_margin yX12_margin ∈ wsL_law := in_r62 _ (List.mem_of_getElem? (i := 6) rfl)
theorem kr62_7 : Cond.code yX12_margin cX12_margin 9 (some .int) ∈ wsL_law := in_r62 _ (List.mem_of_getElem? (i := 7) rfl)
theorem kr62_8 : Cond.methodLink RL 181 yX11_years ∈ wsL_law := in_r62 _ (List.mem_of_getElem? (i := 8) rfl)
theorem kr62_9 : Cond.instanceMethod yX11_years ∈ wsL_law := in_r62 _ (List.mem_of_getElem? (i := 9) rfl)
theorem kr62_10 : Cond.selects RX11 yX11_years yX11_years ∈ wsL_law := in_r62 _ (List.mem_of_getElem? (i := 10) rfl)
theorem kr62_11 : Cond.code yX11_years cX11_years 8 (some .int) ∈ wsL_law := in_r62 _ (List.mem_of_getElem? (i := 11) rfl)
theorem kr62_12 : Cond.methodLink RX11 375 yX11_areYears ∈ wsL_law := in_r62 _ (List.mem_of_getElem? (i := 12) rfl)
theorem kr62_13 : Cond.static yX11_areYears ∈ wsL_law := in_r62 _ (List.mem_of_getElem? (i := 13) rfl)
theorem kr62_14 : Cond.code yX11_areYears cX11_areYears 3 (some .boolean) ∈ wsL_law := in_r62 _ (List.mem_of_getElem? (i := 14) rfl)
theorem kr62_15 : Cond.constant RX11 433 (2000000000) ∈ wsL_law := in_r62 _ (List.mem_of_getElem? (i := 15) rfl)
theorem kr62_16 : Cond.methodLink RX11 379 yX3_wornTogether ∈ wsL_law := in_r62 _ (List.mem_of_getElem? (i := 16) rfl)
theorem kr62_17 : Cond.instanceMethod yX3_wornTogether ∈ wsL_law := in_r62 _ (List.mem_of_getElem? (i := 17) rfl)
theorem kr62_18 : Cond.selects RX3 yX3_wornTogether yX3_wornTogether ∈ wsL_law := in_r62 _ (List.mem_of_getElem? (i := 18) rfl)
theorem kr62_19 : Cond.code yX3_wornTogether cX3_wornTogether 3 (some .int) ∈ wsL_law := in_r62 _ (List.mem_of_getElem? (i := 19) rfl)
theorem kr62_20 : Cond.methodLink RX11 383 yX3_passYear ∈ wsL_law := in_r62 _ (List.mem_of_getElem? (i := 20) rfl)
theorem kr62_21 : Cond.instanceMethod yX3_passYear ∈ wsL_law := in_r62 _ (List.mem_of_getElem? (i := 21) rfl)
theorem kr62_22 : Cond.selects RX3 yX3_passYear yX3_passYear ∈ wsL_law := in_r62 _ (List.mem_of_getElem? (i := 22) rfl)
theorem kr62_23 : Cond.code yX3_passYear cX3_passYear 8 (some .long) ∈ wsL_law := in_r62 _ (List.mem_of_getElem? (i := 23) rfl)
theorem kr63_0 : Cond.constantLong RX3 72 (1103515245) ∈ wsL_law := in_r63 _ (List.mem_of_getElem? (i := 0) rfl)
theorem kr63_1 : Cond.constantLong RX3 74 (12345) ∈ wsL_law := in_r63 _ (List.mem_of_getElem? (i := 1) rfl)
theorem kr63_2 : Cond.constantLong RX3 76 (2147483647) ∈ wsL_law := in_r63 _ (List.mem_of_getElem? (i := 2) rfl)
theorem kr63_3 : Cond.constantLong RX3 78 (65536) ∈ wsL_law := in_r63 _ (List.mem_of_getElem? (i := 3) rfl)
theorem kr63_4 : Cond.constantLong RX3 80 (100) ∈ wsL_law := in_r63 _ (List.mem_of_getElem? (i := 4) rfl)
theorem kr63_5 : Cond.methodLink RL 184 yX12_years ∈ wsL_law := in_r63 _ (List.mem_of_getElem? (i := 5) rfl)
theorem kr63_6 : Cond.instanceMethod yX12_years ∈ wsL_law := in_r63 _ (List.mem_of_getElem? (i := 6) rfl)
theorem kr63_7 : Cond.selects RX12 yX12_years yX12_years ∈ wsL_law := in_r63 _ (List.mem_of_getElem? (i := 7) rfl)
theorem kr63_8 : Cond.code yX12_years cX12_years 6 (some .int) ∈ wsL_law := in_r63 _ (List.mem_of_getElem? (i := 8) rfl)
theorem kr63_9 : Cond.fieldLink RX12 468 "NoseDrumModel" "drawn" "J" ∈ wsL_law := in_r63 _ (List.mem_of_getElem? (i := 9) rfl)
theorem kr63_10 : Cond.methodLink RX12 485 yX12_isYears ∈ wsL_law := in_r63 _ (List.mem_of_getElem? (i := 10) rfl)
theorem kr63_11 : Cond.instanceMethod yX12_isYears ∈ wsL_law := in_r63 _ (List.mem_of_getElem? (i := 11) rfl)
theorem kr63_12 : Cond.selects RX12 yX12_isYears yX12_isYears ∈ wsL_law := in_r63 _ (List.mem_of_getElem? (i := 12) rfl)
theorem kr63_13 : Cond.code yX12_isYears cX12_isYears 4 (some .boolean) ∈ wsL_law := in_r63 _ (List.mem_of_getElem? (i := 13) rfl)
theorem kr63_14 : Cond.constantLong RX12 483 (2000000000) ∈ wsL_law := in_r63 _ (List.mem_of_getElem? (i := 14) rfl)
theorem kr63_15 : Cond.constantLong RX12 478 (100) ∈ wsL_law := in_r63 _ (List.mem_of_getElem? (i := 15) rfl)
theorem kr63_16 : Cond.methodLink RX12 488 yX12_year ∈ wsL_law := in_r63 _ (List.mem_of_getElem? (i := 16) rfl)
theorem kr63_17 : Cond.instanceMethod yX12_year ∈ wsL_law := in_r63 _ (List.mem_of_getElem? (i := 17) rfl)
theorem kr63_18 : Cond.selects RX12 yX12_year yX12_year ∈ wsL_law := in_r63 _ (List.mem_of_getElem? (i := 18) rfl)
theorem kr63_19 : Cond.code yX12_year cX12_year 4 (some .int) ∈ wsL_law := in_r63 _ (List.mem_of_getElem? (i := 19) rfl)
theorem kr63_20 : Cond.methodLink RX12 480 yX12_draw ∈ wsL_law := in_r63 _ (List.mem_of_getElem? (i := 20) rfl)
theorem kr63_21 : Cond.instanceMethod yX12_draw ∈ wsL_law := in_r63 _ (List.mem_of_getElem? (i := 21) rfl)
theorem kr63_22 : Cond.selects RX12 yX12_draw yX12_draw ∈ wsL_law := in_r63 _ (List.mem_of_getElem? (i := 22) rfl)
theorem kr63_23 : Cond.code yX12_draw cX12_draw 1 (some .int) ∈ wsL_law := in_r63 _ (List.mem_of_getElem? (i := 23) rfl)
theorem kr64_0 : Cond.constantLong RX12 466 (1103515245) ∈ wsL_law := in_r64 _ (List.mem_of_getElem? (i := 0) rfl)
theorem kr64_1 : Cond.constantLong RX12 472 (12345) ∈ wsL_law := in_r64 _ (List.mem_of_getElem? (i := 1) rfl)
theorem kr64_2 : Cond.constantLong RX12 474 (2147483648) ∈ wsL_law := in_r64 _ (List.mem_of_getElem? (i := 2) rfl)
theorem kr64_3 : Cond.constantLong RX12 476 (65536) ∈ wsL_law := in_r64 _ (List.mem_of_getElem? (i := 3) rfl)
theorem kr64_4 : Cond.methodLink RL 185 yX11_until ∈ wsL_law := in_r64 _ (List.mem_of_getElem? (i := 4) rfl)
theorem kr64_5 : Cond.instanceMethod yX11_until ∈ wsL_law := in_r64 _ (List.mem_of_getElem? (i := 5) rfl)
theorem kr64_6 : Cond.selects RX11 yX11_until yX11_until ∈ wsL_law := in_r64 _ (List.mem_of_getElem? (i := 6) rfl)
theorem kr64_7 : Cond.code yX11_until cX11_until 11 (some .int) ∈ wsL_law := in_r64 _ (List.mem_of_getElem? (i := 7) rfl)
theorem kr64_8 : Cond.fieldLink RX11 387 "NoseDrum$Curves" "worn" "[I" ∈ wsL_law := in_r64 _ (List.mem_of_getElem? (i := 8) rfl)
theorem kr64_9 : Cond.methodLink RX11 388 arraycopyName ∈ wsL_law := in_r64 _ (List.mem_of_getElem? (i := 9) rfl)
theorem kr64_10 : Cond.methodLink RL 188 yX12_until ∈ wsL_law := in_r64 _ (List.mem_of_getElem? (i := 10) rfl)
theorem kr64_11 : Cond.instanceMethod yX12_until ∈ wsL_law := in_r64 _ (List.mem_of_getElem? (i := 11) rfl)
theorem kr64_12 : Cond.selects RX12 yX12_until yX12_until ∈ wsL_law := in_r64 _ (List.mem_of_getElem? (i := 12) rfl)
theorem kr64_13 : Cond.code yX12_until cX12_until 10 (some .int) ∈ wsL_law := in_r64 _ (List.mem_of_getElem? (i := 13) rfl)
theorem kr64_14 : Cond.methodLink RL 189 yX11_count ∈ wsL_law := in_r64 _ (List.mem_of_getElem? (i := 14) rfl)
theorem kr64_15 : Cond.instanceMethod yX11_count ∈ wsL_law := in_r64 _ (List.mem_of_getElem? (i := 15) rfl)
theorem kr64_16 : Cond.selects RX11 yX11_count yX11_count ∈ wsL_law := in_r64 _ (List.mem_of_getElem? (i := 16) rfl)
theorem kr64_17 : Cond.code yX11_count cX11_count 2 (some .int) ∈ wsL_law := in_r64 _ (List.mem_of_getElem? (i := 17) rfl)
theorem kr64_18 : Cond.fieldLink RX11 394 "NoseDrum$Machine" "tracks" "I" ∈ wsL_law := in_r64 _ (List.mem_of_getElem? (i := 18) rfl)
theorem kr64_19 : Cond.fieldLink RX11 397 "NoseDrum$Machine" "slack" "I" ∈ wsL_law := in_r64 _ (List.mem_of_getElem? (i := 19) rfl)
theorem kr64_20 : Cond.methodLink RX11 400 yX3_brokenBits ∈ wsL_law := in_r64 _ (List.mem_of_getElem? (i := 20) rfl)
theorem kr64_21 : Cond.instanceMethod yX3_brokenBits ∈ wsL_law := in_r64 _ (List.mem_of_getElem? (i := 21) rfl)
theorem kr64_22 : Cond.selects RX3 yX3_brokenBits yX3_brokenBits ∈ wsL_law := in_r64 _ (List.mem_of_getElem? (i := 22) rfl)
theorem kr64_23 : Cond.code yX3_brokenBits cX3_brokenBits 3 (some .int) ∈ wsL_law := in_r64 _ (List.mem_of_getElem? (i := 23) rfl)
theorem kr65_0 : Cond.methodLink RX11 402 yX8_howManyHaveRows ∈ wsL_law := in_r65 _ (List.mem_of_getElem? (i := 0) rfl)
theorem kr65_1 : Cond.instanceMethod yX8_howManyHaveRows ∈ wsL_law := in_r65 _ (List.mem_of_getElem? (i := 1) rfl)
theorem kr65_2 : Cond.selects RX8 yX8_howManyHaveRows yX8_howManyHaveRows ∈ wsL_law := in_r65 _ (List.mem_of_getElem? (i := 2) rfl)
theorem kr65_3 : Cond.code yX8_howManyHaveRows cX8_howManyHaveRows 3 (some .int) ∈ wsL_law := in_r65 _ (List.mem_of_getElem? (i := 3) rfl)
theorem kr65_4 : Cond.methodLink RL 192 yX12_count ∈ wsL_law := in_r65 _ (List.mem_of_getElem? (i := 4) rfl)
theorem kr65_5 : Cond.instanceMethod yX12_count ∈ wsL_law := in_r65 _ (List.mem_of_getElem? (i := 5) rfl)
theorem kr65_6 : Cond.selects RX12 yX12_count yX12_count ∈ wsL_law := in_r65 _ (List.mem_of_getElem? (i := 6) rfl)
theorem kr65_7 : Cond.code yX12_count cX12_count 4 (some .int) ∈ wsL_law := in_r65 _ (List.mem_of_getElem? (i := 7) rfl)
theorem kr65_8 : Cond.methodLink RL 193 yX11_keep ∈ wsL_law := in_r65 _ (List.mem_of_getElem? (i := 8) rfl)
theorem kr65_9 : Cond.instanceMethod yX11_keep ∈ wsL_law := in_r65 _ (List.mem_of_getElem? (i := 9) rfl)
theorem kr65_10 : Cond.selects RX11 yX11_keep yX11_keep ∈ wsL_law := in_r65 _ (List.mem_of_getElem? (i := 10) rfl)
theorem kr65_11 : Cond.code yX11_keep cX11_keep 2 (some .int) ∈ wsL_law := in_r65 _ (List.mem_of_getElem? (i := 11) rfl)
theorem kr65_12 : Cond.methodLink RX11 405 yX2_copyFrom ∈ wsL_law := in_r65 _ (List.mem_of_getElem? (i := 12) rfl)
theorem kr65_13 : Cond.instanceMethod yX2_copyFrom ∈ wsL_law := in_r65 _ (List.mem_of_getElem? (i := 13) rfl)
theorem kr65_14 : Cond.selects RX2 yX2_copyFrom yX2_copyFrom ∈ wsL_law := in_r65 _ (List.mem_of_getElem? (i := 14) rfl)
theorem kr65_15 : Cond.code yX2_copyFrom cX2_copyFrom 2 none ∈ wsL_law := in_r65 _ (List.mem_of_getElem? (i := 15) rfl)
theorem kr65_16 : Cond.methodLink RX2 103 arraycopyName ∈ wsL_law := in_r65 _ (List.mem_of_getElem? (i := 16) rfl)
theorem kr65_17 : Cond.methodLink RX2 90 yX3_copyFrom ∈ wsL_law := in_r65 _ (List.mem_of_getElem? (i := 17) rfl)
theorem kr65_18 : Cond.instanceMethod yX3_copyFrom ∈ wsL_law := in_r65 _ (List.mem_of_getElem? (i := 18) rfl)
theorem kr65_19 : Cond.selects RX3 yX3_copyFrom yX3_copyFrom ∈ wsL_law := in_r65 _ (List.mem_of_getElem? (i := 19) rfl)
theorem kr65_20 : Cond.code yX3_copyFrom cX3_copyFrom 2 none ∈ wsL_law := in_r65 _ (List.mem_of_getElem? (i := 20) rfl)
theorem kr65_21 : Cond.methodLink RX3 61 arraycopyName ∈ wsL_law := in_r65 _ (List.mem_of_getElem? (i := 21) rfl)
theorem kr65_22 : Cond.methodLink RX2 94 yX1_copyFrom ∈ wsL_law := in_r65 _ (List.mem_of_getElem? (i := 22) rfl)
theorem kr65_23 : Cond.instanceMethod yX1_copyFrom ∈ wsL_law := in_r65 _ (List.mem_of_getElem? (i := 23) rfl)
theorem kr66_0 : Cond.selects RX1 yX1_copyFrom yX1_copyFrom ∈ wsL_law := in_r66 _ (List.mem_of_getElem? (i := 0) rfl)
theorem kr66_1 : Cond.code yX1_copyFrom cX1_copyFrom 2 none ∈ wsL_law := in_r66 _ (List.mem_of_getElem? (i := 1) rfl)
theorem kr66_2 : Cond.methodLink RX1 89 arraycopyName ∈ wsL_law := in_r66 _ (List.mem_of_getElem? (i := 2) rfl)
theorem kr66_3 : Cond.methodLink RX2 97 yX4_copyFrom ∈ wsL_law := in_r66 _ (List.mem_of_getElem? (i := 3) rfl)
theorem kr66_4 : Cond.instanceMethod yX4_copyFrom ∈ wsL_law := in_r66 _ (List.mem_of_getElem? (i := 4) rfl)
theorem kr66_5 : Cond.selects RX4 yX4_copyFrom yX4_copyFrom ∈ wsL_law := in_r66 _ (List.mem_of_getElem? (i := 5) rfl)
theorem kr66_6 : Cond.code yX4_copyFrom cX4_copyFrom 2 none ∈ wsL_law := in_r66 _ (List.mem_of_getElem? (i := 6) rfl)
theorem kr66_7 : Cond.methodLink RX4 48 arraycopyName ∈ wsL_law := in_r66 _ (List.mem_of_getElem? (i := 7) rfl)
theorem kr66_8 : Cond.methodLink RX2 100 yX7_copyFrom ∈ wsL_law := in_r66 _ (List.mem_of_getElem? (i := 8) rfl)
theorem kr66_9 : Cond.instanceMethod yX7_copyFrom ∈ wsL_law := in_r66 _ (List.mem_of_getElem? (i := 9) rfl)
theorem kr66_10 : Cond.selects RX7 yX7_copyFrom yX7_copyFrom ∈ wsL_law := in_r66 _ (List.mem_of_getElem? (i := 10) rfl)
theorem kr66_11 : Cond.code yX7_copyFrom cX7_copyFrom 2 none ∈ wsL_law := in_r66 _ (List.mem_of_getElem? (i := 11) rfl)
theorem kr66_12 : Cond.methodLink RL 196 yX12_keep ∈ wsL_law := in_r66 _ (List.mem_of_getElem? (i := 12) rfl)
theorem kr66_13 : Cond.instanceMethod yX12_keep ∈ wsL_law := in_r66 _ (List.mem_of_getElem? (i := 13) rfl)
theorem kr66_14 : Cond.selects RX12 yX12_keep yX12_keep ∈ wsL_law := in_r66 _ (List.mem_of_getElem? (i := 14) rfl)
theorem kr66_15 : Cond.code yX12_keep cX12_keep 3 (some .int) ∈ wsL_law := in_r66 _ (List.mem_of_getElem? (i := 15) rfl)
theorem kr66_16 : Cond.methodLink RL 197 yX11_back ∈ wsL_law := in_r66 _ (List.mem_of_getElem? (i := 16) rfl)
theorem kr66_17 : Cond.instanceMethod yX11_back ∈ wsL_law := in_r66 _ (List.mem_of_getElem? (i := 17) rfl)
theorem kr66_18 : Cond.selects RX11 yX11_back yX11_back ∈ wsL_law := in_r66 _ (List.mem_of_getElem? (i := 18) rfl)
theorem kr66_19 : Cond.code yX11_back cX11_back 2 (some .int) ∈ wsL_law := in_r66 _ (List.mem_of_getElem? (i := 19) rfl)
theorem kr66_20 : Cond.methodLink RL 200 yX12_back ∈ wsL_law := in_r66 _ (List.mem_of_getElem? (i := 20) rfl)
theorem kr66_21 : Cond.instanceMethod yX12_back ∈ wsL_law := in_r66 _ (List.mem_of_getElem? (i := 21) rfl)
theorem kr66_22 : Cond.selects RX12 yX12_back yX12_back ∈ wsL_law := in_r66 _ (List.mem_of_getElem? (i := 22) rfl)
theorem kr66_23 : Cond.code yX12_back cX12_back 3 (some .int) ∈ wsL_law := in_r66 _ (List.mem_of_getElem? (i := 23) rfl)
theorem kr67_0 : Cond.methodLink RL 201 yX11_row ∈ wsL_law := in_r67 _ (List.mem_of_getElem? (i := 0) rfl)
theorem kr67_1 : Cond.instanceMethod yX11_row ∈ wsL_law := in_r67 _ (List.mem_of_getElem? (i := 1) rfl)
theorem kr67_2 : Cond.selects RX11 yX11_row yX11_row ∈ wsL_law := in_r67 _ (List.mem_of_getElem? (i := 2) rfl)
theorem kr67_3 : Cond.code yX11_row cX11_row 4 (some .int) ∈ wsL_law := in_r67 _ (List.mem_of_getElem? (i := 3) rfl)
theorem kr67_4 : Cond.methodLink RX11 411 yX8_makeRow ∈ wsL_law := in_r67 _ (List.mem_of_getElem? (i := 4) rfl)
theorem kr67_5 : Cond.instanceMethod yX8_makeRow ∈ wsL_law := in_r67 _ (List.mem_of_getElem? (i := 5) rfl)
theorem kr67_6 : Cond.selects RX8 yX8_makeRow yX8_makeRow ∈ wsL_law := in_r67 _ (List.mem_of_getElem? (i := 6) rfl)
theorem kr67_7 : Cond.code yX8_makeRow cX8_makeRow 5 none ∈ wsL_law := in_r67 _ (List.mem_of_getElem? (i := 7) rfl)
theorem kr67_8 : Cond.methodLink RL 204 yX12_row ∈ wsL_law := in_r67 _ (List.mem_of_getElem? (i := 8) rfl)
theorem kr67_9 : Cond.instanceMethod yX12_row ∈ wsL_law := in_r67 _ (List.mem_of_getElem? (i := 9) rfl)
theorem kr67_10 : Cond.selects RX12 yX12_row yX12_row ∈ wsL_law := in_r67 _ (List.mem_of_getElem? (i := 10) rfl)
theorem kr67_11 : Cond.code yX12_row cX12_row 5 (some .int) ∈ wsL_law := in_r67 _ (List.mem_of_getElem? (i := 11) rfl)
theorem kr67_12 : Cond.methodLink RL 207 yX11_write ∈ wsL_law := in_r67 _ (List.mem_of_getElem? (i := 12) rfl)
theorem kr67_13 : Cond.instanceMethod yX11_write ∈ wsL_law := in_r67 _ (List.mem_of_getElem? (i := 13) rfl)
theorem kr67_14 : Cond.selects RX11 yX11_write yX11_write ∈ wsL_law := in_r67 _ (List.mem_of_getElem? (i := 14) rfl)
theorem kr67_15 : Cond.code yX11_write cX11_write 5 (some .int) ∈ wsL_law := in_r67 _ (List.mem_of_getElem? (i := 15) rfl)
theorem kr67_16 : Cond.methodLink RX11 420 yX8_put ∈ wsL_law := in_r67 _ (List.mem_of_getElem? (i := 16) rfl)
theorem kr67_17 : Cond.instanceMethod yX8_put ∈ wsL_law := in_r67 _ (List.mem_of_getElem? (i := 17) rfl)
theorem kr67_18 : Cond.selects RX8 yX8_put yX8_put ∈ wsL_law := in_r67 _ (List.mem_of_getElem? (i := 18) rfl)
theorem kr67_19 : Cond.code yX8_put cX8_put 5 none ∈ wsL_law := in_r67 _ (List.mem_of_getElem? (i := 19) rfl)
theorem kr67_20 : Cond.methodLink RX8 26 yX8_cutTo ∈ wsL_law := in_r67 _ (List.mem_of_getElem? (i := 20) rfl)
theorem kr67_21 : Cond.static yX8_cutTo ∈ wsL_law := in_r67 _ (List.mem_of_getElem? (i := 21) rfl)
theorem kr67_22 : Cond.code yX8_cutTo cX8_cutTo 3 (some .long) ∈ wsL_law := in_r67 _ (List.mem_of_getElem? (i := 22) rfl)
theorem kr67_23 : Cond.methodLink RL 211 yX12_write ∈ wsL_law := in_r67 _ (List.mem_of_getElem? (i := 23) rfl)
theorem kr68_0 : Cond.instanceMethod yX12_write ∈ wsL_law := in_r68 _ (List.mem_of_getElem? (i := 0) rfl)
theorem kr68_1 : Cond.selects RX12 yX12_write yX12_write ∈ wsL_law := in_r68 _ (List.mem_of_getElem? (i := 1) rfl)
theorem kr68_2 : Cond.code yX12_write cX12_write 5 (some .int) ∈ wsL_law := in_r68 _ (List.mem_of_getElem? (i := 2) rfl)
theorem kr68_3 : Cond.methodLink RX12 491 yX12_cut_ ∈ wsL_law := in_r68 _ (List.mem_of_getElem? (i := 3) rfl)
theorem kr68_4 : Cond.static yX12_cut_ ∈ wsL_law := in_r68 _ (List.mem_of_getElem? (i := 4) rfl)
theorem kr68_5 : Cond.code yX12_cut_ cX12_cut_ 4 (some .long) ∈ wsL_law := in_r68 _ (List.mem_of_getElem? (i := 5) rfl)
theorem kr68_6 : Cond.methodLink RL 212 yX11_paste ∈ wsL_law := in_r68 _ (List.mem_of_getElem? (i := 6) rfl)
theorem kr68_7 : Cond.instanceMethod yX11_paste ∈ wsL_law := in_r68 _ (List.mem_of_getElem? (i := 7) rfl)
theorem kr68_8 : Cond.selects RX11 yX11_paste yX11_paste ∈ wsL_law := in_r68 _ (List.mem_of_getElem? (i := 8) rfl)
theorem kr68_9 : Cond.code yX11_paste cX11_paste 6 (some .int) ∈ wsL_law := in_r68 _ (List.mem_of_getElem? (i := 9) rfl)
theorem kr68_10 : Cond.fieldLink RX11 423 "NoseDrum$Slots" "width" "[I" ∈ wsL_law := in_r68 _ (List.mem_of_getElem? (i := 10) rfl)
theorem kr68_11 : Cond.methodLink RX11 426 yX8_holds ∈ wsL_law := in_r68 _ (List.mem_of_getElem? (i := 11) rfl)
theorem kr68_12 : Cond.instanceMethod yX8_holds ∈ wsL_law := in_r68 _ (List.mem_of_getElem? (i := 12) rfl)
theorem kr68_13 : Cond.selects RX8 yX8_holds yX8_holds ∈ wsL_law := in_r68 _ (List.mem_of_getElem? (i := 13) rfl)
theorem kr68_14 : Cond.code yX8_holds cX8_holds 4 (some .boolean) ∈ wsL_law := in_r68 _ (List.mem_of_getElem? (i := 14) rfl)
theorem kr68_15 : Cond.methodLink RX11 429 yX8_copyNumbers ∈ wsL_law := in_r68 _ (List.mem_of_getElem? (i := 15) rfl)
theorem kr68_16 : Cond.instanceMethod yX8_copyNumbers ∈ wsL_law := in_r68 _ (List.mem_of_getElem? (i := 16) rfl)
theorem kr68_17 : Cond.selects RX8 yX8_copyNumbers yX8_copyNumbers ∈ wsL_law := in_r68 _ (List.mem_of_getElem? (i := 17) rfl)
theorem kr68_18 : Cond.code yX8_copyNumbers cX8_copyNumbers 6 none ∈ wsL_law := in_r68 _ (List.mem_of_getElem? (i := 18) rfl)
theorem kr68_19 : Cond.methodLink RX8 30 arraycopyName ∈ wsL_law := in_r68 _ (List.mem_of_getElem? (i := 19) rfl)
theorem kr68_20 : Cond.methodLink RL 215 yX12_paste ∈ wsL_law := in_r68 _ (List.mem_of_getElem? (i := 20) rfl)
theorem kr68_21 : Cond.instanceMethod yX12_paste ∈ wsL_law := in_r68 _ (List.mem_of_getElem? (i := 21) rfl)
theorem kr68_22 : Cond.selects RX12 yX12_paste yX12_paste ∈ wsL_law := in_r68 _ (List.mem_of_getElem? (i := 22) rfl)
theorem kr68_23 : Cond.code yX12_paste cX12_paste 7 (some .int) ∈ wsL_law := in_r68 _ (List.mem_of_getElem? (i := 23) rfl)
end
section
-- MY OWN ROWS: the uniform shape of a contract over a fresh object
abbrev kw (y : MethodName) (c : ByteArray) (n : Nat) (r : Option FieldType) : List Cond := Cond.code y c n r :: wsL_law
theorem gI {y : MethodName} {c : ByteArray} {n : Nat} {r : Option FieldType} (h5 : Cond.code y c n r ∈ wsL_law) : GoodIn wsL_law (kw y c n r) := by
  intro w hw
  have hm : w ∈ wsL_law := by
    rcases List.mem_cons.mp hw with e | e
    · rw [e]; exact h5
    · exact e
  exact ⟨hm, good_of_word (wsL_mem _ hm)⟩
theorem gV {own C : String} {idx : Nat} {y : MethodName} {c : ByteArray} {n : Nat} {r : Option FieldType} (h1 : Cond.methodLink own idx y ∈ wsL_law) (h2 : Cond.instanceMethod y ∈ wsL_law) (h3 : Cond.selects C y y ∈ wsL_law) (h4 : Cond.initialized C ∈ wsL_law) (h5 : Cond.code y c n r ∈ wsL_law) : GoodIn wsL_law (wsV own idx C y (kw y c n r)) := by
  intro w hw
  have hm : w ∈ wsL_law := by
    rcases List.mem_append.mp hw with e | e
    · simp only [List.mem_cons, List.not_mem_nil, or_false] at e
      rcases e with e | e | e | e <;> rw [e] <;> assumption
    · exact (gI h5 w e).1
  exact ⟨hm, good_of_word (wsL_mem _ hm)⟩
theorem gS {own : String} {idx : Nat} {y : MethodName} {c : ByteArray} {n : Nat} {r : Option FieldType} (h1 : Cond.methodLink own idx y ∈ wsL_law) (h2 : Cond.static y ∈ wsL_law) (h4 : Cond.initialized own ∈ wsL_law) (h5 : Cond.code y c n r ∈ wsL_law) : GoodIn wsL_law (wsS own idx y (kw y c n r)) := by
  intro w hw
  have hm : w ∈ wsL_law := by
    rcases List.mem_append.mp hw with e | e
    · simp only [List.mem_cons, List.not_mem_nil, or_false] at e
      rcases e with e | e | e <;> rw [e] <;> assumption
    · exact (gI h5 w e).1
  exact ⟨hm, good_of_word (wsL_mem _ hm)⟩
/-- a start: the cells w, apart; the classes as the tables have them -/
def kPre (dC : Nat → ClassId) (dI : Nat → Nat → Nat) (tys : List (ClassId × FieldType)) (w : va_W) (sz : Nat) (U : State) : Prop := U.heap.size = sz ∧ va_P (dC, dI) vwCl w U.heap ∧ va_K (dC, dI) vwCl tys U ∧ va_D (fun _ => True) w
/-- the same, with words on nest mates and arrays of references beside it -/
def kPreN (dC : Nat → ClassId) (dI : Nat → Nat → Nat) (tys : List (ClassId × FieldType)) (w : va_W) (sz : Nat) (N : State → Prop) (U : State) : Prop := kPre dC dI tys w sz U ∧ N U
theorem kBlind {dC : Nat → ClassId} {dI : Nat → Nat → Nat} {tys : List (ClassId × FieldType)} {w : va_W} {sz : Nat} {av : List Value} : FrameBlind (va_Pc av (kPre dC dI tys w sz)) := fun a U g mk q => by
  obtain ⟨q0, q1, qP, qK, qD⟩ := q
  exact ⟨q0, q1, qP, va_K.moved (u := U) (U := U.calling g mk a) (Vm.Alike.refl U.vm) qK, qD⟩
theorem kPreOf {s : State} {H : Heap} {dC : Nat → ClassId} {dI : Nat → Nat → Nat} {tys : List (ClassId × FieldType)} {w : va_W} {A : Nat → Prop} (hP : va_P (dC, dI) vwCl w H) (hK : va_K (dC, dI) vwCl tys s) (hD : va_D A w) : ∀ U : State, U.heap = H → s.WarmedH U.vm → kPre dC dI tys w H.size U :=
  fun U hU hW => ⟨by rw [hU], by rw [hU]; exact hP, va_K.moved hW.alike hK, hD.weaken (fun _ _ _ _ => trivial)⟩
theorem kPreS {s : State} {H : Heap} {dC : Nat → ClassId} {dI : Nat → Nat → Nat} {tys : List (ClassId × FieldType)} {w : va_W} {A : Nat → Prop} {As : List Value} (hP : va_P (dC, dI) vwCl w H) (hK : va_K (dC, dI) vwCl tys s) (hD : va_D A w) : PreS s H (va_Pc As (kPre dC dI tys w H.size)) As :=
  ⟨kBlind, fun U hU hW => ⟨rfl, kPreOf hP hK hD U hU hW⟩⟩
theorem kPreV {s : State} {H : Heap} {dC : Nat → ClassId} {dI : Nat → Nat → Nat} {tys : List (ClassId × FieldType)} {w : va_W} {A : Nat → Prop} {As : List Value} {b ci q0 : Nat} {q : vw_C} {fs : List Value} (hP : va_P (dC, dI) vwCl w H) (hK : va_K (dC, dI) vwCl tys s) (hD : va_D A w) (hc : vwCl[ci]? = some q) (he : w[q0]? = some (b, .inr (ci, fs))) : PreV s H q.1 b (va_Pc (Value.ref b :: As) (kPre dC dI tys w H.size)) As :=
  ⟨kBlind, va_recv hK hP hc he, fun U hU hW => ⟨rfl, kPreOf hP hK hD U hU hW⟩⟩
theorem kPreSN {s : State} {H : Heap} {dC : Nat → ClassId} {dI : Nat → Nat → Nat} {tys : List (ClassId × FieldType)} {w : va_W} {A : Nat → Prop} {As : List Value} {N : State → Prop} (hP : va_P (dC, dI) vwCl w H) (hK : va_K (dC, dI) vwCl tys s) (hD : va_D A w) (hb : ∀ (a : Array Value) (U : State) (g : JFrame) (mk : MethodId), N U → N (U.calling g mk a)) (hN : ∀ U : State, s.WarmedH U.vm → N U) : PreS s H (va_Pc As (kPreN dC dI tys w H.size N)) As :=
  ⟨fun a U g mk q => ⟨q.1, (kBlind (av := As) a U g mk ⟨q.1, q.2.1⟩).2, hb a U g mk q.2.2⟩, fun U hU hW => ⟨rfl, kPreOf hP hK hD U hU hW, hN U hW⟩⟩
theorem kP0 {D : va_G} {cl : List vw_C} {H : Heap} : va_P D cl [] H := fun k q h => by simp at h
theorem kD0 {A : Nat → Prop} : va_D A [] := ⟨fun i j p q h => by simp at h, fun k q h => by simp at h⟩
theorem vin {i : Int32} {n : Nat} (h : ¬ (i < 0 ∨ n ≤ i.toNatClampNeg)) : vp_in i n := h
theorem ka_last {D : va_G} {cl : List vw_C} {tys : List (ClassId × FieldType)} {s : State} {c : ClassId} {ty : FieldType} (h : va_K D cl (tys ++ [(c, ty)]) s) : va_RA s c ty := (h.2 tys.length (c, ty) (by simp)).2
theorem ka_int {D : va_G} {cl : List vw_C} {tys : List (ClassId × FieldType)} {s : State} {c c1 : ClassId} {k : Nat} (hK : va_K D cl tys s) (hk : tys[k]? = some (c, .int)) (h : va_K D cl (tys ++ [(c1, .int)]) s) : c = c1 := Option.some.inj (((hK.2 k _ hk).2 : s.vm.findClass _ = some c).symm.trans (ka_last h : s.vm.findClass _ = some c1))
theorem ka_boolean {D : va_G} {cl : List vw_C} {tys : List (ClassId × FieldType)} {s : State} {c c1 : ClassId} {k : Nat} (hK : va_K D cl tys s) (hk : tys[k]? = some (c, .boolean)) (h : va_K D cl (tys ++ [(c1, .boolean)]) s) : c = c1 := Option.some.inj (((hK.2 k _ hk).2 : s.vm.findClass _ = some c).symm.trans (ka_last h : s.vm.findClass _ = some c1))
theorem ka_byte {D : va_G} {cl : List vw_C} {tys : List (ClassId × FieldType)} {s : State} {c c1 : ClassId} {k : Nat} (hK : va_K D cl tys s) (hk : tys[k]? = some (c, .byte)) (h : va_K D cl (tys ++ [(c1, .byte)]) s) : c = c1 := Option.some.inj (((hK.2 k _ hk).2 : s.vm.findClass _ = some c).symm.trans (ka_last h : s.vm.findClass _ = some c1))
theorem ka_long {D : va_G} {cl : List vw_C} {tys : List (ClassId × FieldType)} {s : State} {c c1 : ClassId} {k : Nat} (hK : va_K D cl tys s) (hk : tys[k]? = some (c, .long)) (h : va_K D cl (tys ++ [(c1, .long)]) s) : c = c1 := Option.some.inj (((hK.2 k _ hk).2 : s.vm.findClass _ = some c).symm.trans (ka_last h : s.vm.findClass _ = some c1))
theorem ka_obj {D : va_G} {cl : List vw_C} {tys : List (ClassId × FieldType)} {s : State} {c c1 : ClassId} {C : String} {k : Nat} (hK : va_K D cl tys s) (hk : tys[k]? = some (c, .object C)) (h : va_K D cl (tys ++ [(c1, .object C)]) s) : c = c1 := by
  obtain ⟨-, -, -, -, -, e1⟩ := (hK.2 k _ hk).2
  obtain ⟨-, -, -, -, -, e2⟩ := ka_last h
  exact Option.some.inj (e1.symm.trans e2)
/-- addresses by their places -/
def pick : List Nat → Nat → Nat
  | [], _ => 0
  | a :: _, 0 => a
  | _ :: l, n + 1 => pick l n
theorem kEnter {l : Launch} {y : MethodName} {cc : ByteArray} {n : Nat} {ret : Option FieldType} {rm : Room} {Qc : Array Value → State → Outcome → State → Prop} {mc ms : Nat} {free : Addr → Prop} {dC : Nat → ClassId} {dI : Nat → Nat → Nat} {tys : List (ClassId × FieldType)} {w : va_W} {sz : Nat} {av : List Value} (hy : plainName y.cls = true) (hlen : (lg_sl av).length ≤ n)
    (body : ∀ (p : Program) (e : Env) (s : State) (m : MethodId) (below : List Frame) (meth : Method) (c : Code) (ls : Array Slot), p.tables.exec = Jvm.exec → c.code = cc → meth.sig.returnType = ret → c.maxLocals = n → s.vm.findClass y.cls = some m.cls → meth.locks = false → meth.name = y.name → (∀ wd ∈ wsL_law, wd.before av.toArray s = true) → s.heap.size = sz → va_P (dC, dI) vwCl w s.heap → va_K (dC, dI) vwCl tys s → va_D (va_A w s.heap.size) w → lv_has ls n (lv_args 0 av) → W p l e rm s m av.toArray below meth c s.heap [] 0 0 (MQ below Qc av.toArray s mc ms free) (F0 m 0 ls [])) :
    Met l y (kw y cc n ret) rm (va_Pc av (kPre dC dI tys w sz)) Qc mc ms free := by
  refine Met.ofW (cc := cc) (maxL := n) (ret := ret) hy rfl ?_
  intro p e s m args below meth c s₁ B hml hv
  obtain ⟨rfl, hsz, hP, hK, hD0⟩ := hv
  have hts := atoms_spec (ws := kw y cc n ret) B.pre
  have hl := lv_entry av (n := n) hlen
  rw [lg_entry_eq]
  exact body p e s m below meth c _ B.exec B.bytes B.returns hml (findClass_of_methodNamed B.named) B.notSynchronized (name_of_methodNamed B.named B.method).1 (fun wd h => hts wd (List.mem_cons_of_mem _ h)) hsz hP hK (hD0.self (sz := s.heap.size)) hl
theorem kEnterN {l : Launch} {y : MethodName} {cc : ByteArray} {n : Nat} {ret : Option FieldType} {rm : Room} {Qc : Array Value → State → Outcome → State → Prop} {mc ms : Nat} {free : Addr → Prop} {dC : Nat → ClassId} {dI : Nat → Nat → Nat} {tys : List (ClassId × FieldType)} {w : va_W} {sz : Nat} {av : List Value} {N : State → Prop} (hy : plainName y.cls = true) (hlen : (lg_sl av).length ≤ n)
    (body : ∀ (p : Program) (e : Env) (s : State) (m : MethodId) (below : List Frame) (meth : Method) (c : Code) (ls : Array Slot), p.tables.exec = Jvm.exec → c.code = cc → meth.sig.returnType = ret → c.maxLocals = n → s.vm.findClass y.cls = some m.cls → meth.locks = false → meth.name = y.name → (∀ wd ∈ wsL_law, wd.before av.toArray s = true) → s.heap.size = sz → va_P (dC, dI) vwCl w s.heap → va_K (dC, dI) vwCl tys s → va_D (va_A w s.heap.size) w → N s → lv_has ls n (lv_args 0 av) → W p l e rm s m av.toArray below meth c s.heap [] 0 0 (MQ below Qc av.toArray s mc ms free) (F0 m 0 ls [])) :
    Met l y (kw y cc n ret) rm (va_Pc av (kPreN dC dI tys w sz N)) Qc mc ms free := by
  refine Met.ofW (cc := cc) (maxL := n) (ret := ret) hy rfl ?_
  intro p e s m args below meth c s₁ B hml hv
  obtain ⟨rfl, ⟨hsz, hP, hK, hD0⟩, hN⟩ := hv
  have hts := atoms_spec (ws := kw y cc n ret) B.pre
  have hl := lv_entry av (n := n) hlen
  rw [lg_entry_eq]
  exact body p e s m below meth c _ B.exec B.bytes B.returns hml (findClass_of_methodNamed B.named) B.notSynchronized (name_of_methodNamed B.named B.method).1 (fun wd h => hts wd (List.mem_cons_of_mem _ h)) hsz hP hK (hD0.self (sz := s.heap.size)) hN hl
-- plain facts on ints
theorem ki_lt (a b : Int32) : a < b ↔ a.toInt < b.toInt := Int32.lt_iff_toInt_lt
theorem ki_le (a b : Int32) : a ≤ b ↔ a.toInt ≤ b.toInt := Int32.le_iff_toInt_le
theorem ki_eq (a b : Int32) : a = b ↔ a.toInt = b.toInt := ⟨fun h => by rw [h], fun h => Int32.toInt_inj.mp h⟩
theorem sw_5 {x : Int32} (h1 : ¬ x.toInt < 0) (h2 : ¬ 5 < x.toInt) : x = 0 ∨ x = 1 ∨ x = 2 ∨ x = 3 ∨ x = 4 ∨ x = 5 := by
  simp only [ki_eq]
  have e0 : (0 : Int32).toInt = 0 := by decide
  have e1 : (1 : Int32).toInt = 1 := by decide
  have e2 : (2 : Int32).toInt = 2 := by decide
  have e3 : (3 : Int32).toInt = 3 := by decide
  have e4 : (4 : Int32).toInt = 4 := by decide
  have e5 : (5 : Int32).toInt = 5 := by decide
  omega
theorem sw_11 {x : Int32} (h1 : ¬ x.toInt < 0) (h2 : ¬ 11 < x.toInt) : x = 0 ∨ x = 1 ∨ x = 2 ∨ x = 3 ∨ x = 4 ∨ x = 5 ∨ x = 6 ∨ x = 7 ∨ x = 8 ∨ x = 9 ∨ x = 10 ∨ x = 11 := by
  simp only [ki_eq]
  have e0 : (0 : Int32).toInt = 0 := by decide
  have e1 : (1 : Int32).toInt = 1 := by decide
  have e2 : (2 : Int32).toInt = 2 := by decide
  have e3 : (3 : Int32).toInt = 3 := by decide
  have e4 : (4 : Int32).toInt = 4 := by decide
  have e5 : (5 : Int32).toInt = 5 := by decide
  have e6 : (6 : Int32).toInt = 6 := by decide
  have e7 : (7 : Int32).toInt = 7 := by decide
  have e8 : (8 : Int32).toInt = 8 := by decide
  have e9 : (9 : Int32).toInt = 9 := by decide
  have e10 : (10 : Int32).toInt = 10 := by decide
  have e11 : (11 : Int32).toInt = 11 := by decide
  omega
theorem kz_m8 : (-8 : Int32).toInt = -8 := by decide
theorem kz_m7 : (-7 : Int32).toInt = -7 := by decide
theorem kz_m6 : (-6 : Int32).toInt = -6 := by decide
theorem kz_m4 : (-4 : Int32).toInt = -4 := by decide
theorem kz_m3 : (-3 : Int32).toInt = -3 := by decide
theorem kz_m2 : (-2 : Int32).toInt = -2 := by decide
theorem kz_m1 : (-1 : Int32).toInt = -1 := by decide
theorem kz_0 : (0 : Int32).toInt = 0 := by decide
theorem kz_1 : (1 : Int32).toInt = 1 := by decide
theorem kz_2 : (2 : Int32).toInt = 2 := by decide
theorem kz_3 : (3 : Int32).toInt = 3 := by decide
theorem kz_4 : (4 : Int32).toInt = 4 := by decide
theorem kz_5 : (5 : Int32).toInt = 5 := by decide
theorem kz_6 : (6 : Int32).toInt = 6 := by decide
theorem kz_7 : (7 : Int32).toInt = 7 := by decide
theorem kz_8 : (8 : Int32).toInt = 8 := by decide
theorem kz_9 : (9 : Int32).toInt = 9 := by decide
theorem kz_10 : (10 : Int32).toInt = 10 := by decide
theorem kz_11 : (11 : Int32).toInt = 11 := by decide
theorem kz_20 : (20 : Int32).toInt = 20 := by decide
theorem kz_60 : (60 : Int32).toInt = 60 := by decide
-- the reference's 'in'
def in_sp (v lo hi : Int64) : Int32 := if v < lo then 0 else if hi < v then 0 else 1
theorem lc_lt {x y : Int64} : lg_cmp x y < 0 ↔ x < y := by
  unfold lg_cmp
  by_cases h : y < x
  · have h2 : ¬ x < y := fun q => absurd (Int64.lt_iff_toInt_lt.mp q) (by have := Int64.lt_iff_toInt_lt.mp h; omega)
    simp [h, h2]
  · by_cases h2 : x = y
    · subst h2
      simp [h]
    · have h3 : x < y := by
        rcases Int.lt_trichotomy x.toInt y.toInt with q | q | q
        · exact Int64.lt_iff_toInt_lt.mpr q
        · exact absurd (Int64.toInt_inj.mp q) h2
        · exact absurd (Int64.lt_iff_toInt_lt.mpr q) h
      simp [h, h2, h3]
theorem lc_gt {x y : Int64} : 0 < lg_cmp x y ↔ y < x := by
  unfold lg_cmp
  by_cases h : y < x
  · simp [h]
  · by_cases h2 : x = y
    · simp [h, h2]
    · simp [h, h2]
theorem kl_lt (a b : Int32) : a.toInt64 < b.toInt64 ↔ a < b := by
  rw [Int64.lt_iff_toInt_lt, Int32.lt_iff_toInt_lt, Int32.toInt_toInt64, Int32.toInt_toInt64]
theorem in_or {p : Int32} {lo hi : Int64} (a b : Int32) (ha : a.toInt64 = lo) (hb : b.toInt64 = hi) : (in_sp p.toInt64 lo hi = 0 ∧ (p < a ∨ b < p)) ∨ (in_sp p.toInt64 lo hi = 1 ∧ ¬ p < a ∧ ¬ b < p) := by
  subst ha
  subst hb
  unfold in_sp
  simp only [kl_lt]
  by_cases h1 : p < a
  · exact Or.inl ⟨by simp [h1], Or.inl h1⟩
  · by_cases h2 : b < p
    · exact Or.inl ⟨by simp [h1, h2], Or.inr h2⟩
    · exact Or.inr ⟨by simp [h1, h2], h1, h2⟩
theorem in_no (p : Int32) : in_sp p.toInt64 0 (-1) = 0 := by
  rcases in_or (p := p) (lo := 0) (hi := -1) 0 (-1) (by decide) (by decide) with ⟨e, -⟩ | ⟨-, h1, h2⟩
  · exact e
  · exfalso
    simp only [ki_lt, kz_0, kz_m1] at h1 h2
    omega
theorem k3lt {p : Int32} (h1 : ¬ p < 0) (h2 : p < 3) : p = 0 ∨ p = 1 ∨ p = 2 := by
  simp only [ki_lt, ki_eq, kz_0, kz_1, kz_2, kz_3] at h1 h2 ⊢
  omega
theorem k3le {p : Int32} (h1 : ¬ p < 0) (h2 : ¬ 2 < p) : p = 0 ∨ p = 1 ∨ p = 2 := by
  simp only [ki_lt, ki_eq, kz_0, kz_1, kz_2] at h1 h2 ⊢
  omega
theorem k4le {p : Int32} (h1 : ¬ p < 0) (h2 : ¬ 3 < p) : p = 0 ∨ p = 1 ∨ p = 2 ∨ p = 3 := by
  simp only [ki_lt, ki_eq, kz_0, kz_1, kz_2, kz_3] at h1 h2 ⊢
  omega
theorem upd_z (k : Nat) : upd (fun _ => (0 : Int32)) k 0 = (fun _ => 0) := by
  funext j
  simp [upd]
theorem upd_id (f : Nat → Int32) (k : Nat) : upd f k (f k) = f := by
  funext j
  simp only [upd]
  split
  · rename_i h
    rw [h]
  · rfl
theorem vp_base (B i N : Nat) (h : B + i < N) (hN : N < 2 ^ 31) : vp_in (nI B + nI i) N := by
  rw [nI_add]
  exact vp_in_nI h hN
-- what the calls of several answers answer on a fresh object
def Sp_slot (p0 r : Int32) : Prop := (r = 1 ∧ ¬ p0 < 0 ∧ ¬ 3 < p0) ∨ (r = 0 ∧ (p0 < 0 ∨ 3 < p0))
def Sp_end (p0 r : Int32) : Prop := (p0.toInt = 0 ∧ r.toInt = 0) ∨ (p0.toInt ≠ 0 ∧ r.toInt = -1)
def Sp_fault (p0 r : Int32) : Prop := (p0.toInt = 0 ∧ r.toInt = 0) ∨ (p0.toInt ≠ 0 ∧ r.toInt = -1)
def Sp_stands (p0 r : Int32) : Prop := (0 ≤ p0.toInt ∧ p0.toInt ≤ 5 ∧ r.toInt = 0) ∨ ((p0.toInt < 0 ∨ 5 < p0.toInt) ∧ r.toInt = -1)
def Sp_count (p0 r : Int32) : Prop := (0 ≤ p0.toInt ∧ p0.toInt ≤ 11 ∧ r.toInt = 0) ∨ ((p0.toInt < 0 ∨ 11 < p0.toInt) ∧ r.toInt = -1)
def Sp_keep (p0 r : Int32) : Prop := (0 ≤ p0.toInt ∧ p0.toInt ≤ 2 ∧ r.toInt = 0) ∨ ((p0.toInt < 0 ∨ 2 < p0.toInt) ∧ r.toInt = -2)
def Sp_back (p0 r : Int32) : Prop := (0 ≤ p0.toInt ∧ p0.toInt ≤ 2 ∧ r.toInt = -6) ∨ ((p0.toInt < 0 ∨ 2 < p0.toInt) ∧ r.toInt = -2)
def Sp_row (p0 p1 p2 r : Int32) : Prop := ((p0.toInt < 0 ∨ 3 < p0.toInt ∨ p1.toInt < 0 ∨ 3 < p1.toInt ∨ 60 < p2.toInt) ∧ r.toInt = -2) ∨ ((0 ≤ p0.toInt ∧ p0.toInt ≤ 3 ∧ 0 ≤ p1.toInt ∧ p1.toInt ≤ 3 ∧ p2.toInt ≤ 60) ∧ ((p2.toInt < 0 ∧ r.toInt = -3) ∨ (0 ≤ p2.toInt ∧ r.toInt = 0)))
def Sp_write (p0 r : Int32) : Prop := (0 ≤ p0.toInt ∧ p0.toInt ≤ 3 ∧ r.toInt = -6) ∨ ((p0.toInt < 0 ∨ 3 < p0.toInt) ∧ r.toInt = -2)
def Sp_paste (p0 p2 r : Int32) : Prop := (0 ≤ p0.toInt ∧ p0.toInt ≤ 3 ∧ 0 ≤ p2.toInt ∧ p2.toInt ≤ 3 ∧ r.toInt = -6) ∨ ((p0.toInt < 0 ∨ 3 < p0.toInt ∨ p2.toInt < 0 ∨ 3 < p2.toInt) ∧ r.toInt = -2)
-- nest mates and arrays of references: words that a constructor needs beside the tables'
def va_AOA (ty : FieldType) (U : State) : Prop := (Cond.arrayOver (.array ty)).before #[] U = true
theorem va_AOA.use {ty : FieldType} {A : Array Value} {U : State} (h : va_AOA ty U) : (Cond.arrayOver (.array ty)).before A U = true := h
def nM (U : State) : Prop := va_Nw (.methodLinkNest RX2 11 yX3_init RX11) U ∧ va_Nw (.methodLinkNest RX2 20 yX1_init RX11) U ∧ va_Nw (.methodLinkNest RX2 27 yX4_init RX11) U ∧ va_Nw (.methodLinkNest RX2 34 yX7_init RX11) U
theorem nM_blind (a : Array Value) (U : State) (g : JFrame) (mk : MethodId) (h : nM U) : nM (U.calling g mk a) := ⟨va_Nw.same rfl rfl h.1, va_Nw.same rfl rfl h.2.1, va_Nw.same rfl rfl h.2.2.1, va_Nw.same rfl rfl h.2.2.2⟩
theorem nM_warm {s : State} (h : nM s) (U : State) (hW : s.WarmedH U.vm) : nM U := ⟨va_Nw.warmM hW h.1, va_Nw.warmM hW h.2.1, va_Nw.warmM hW h.2.2.1, va_Nw.warmM hW h.2.2.2⟩
end
section
theorem dX2_hasFollower_0 : decode cX2_hasFollower 0 = .ok (.iload_n 1, 1) := by decide +kernel
theorem dX2_hasFollower_1 : decode cX2_hasFollower 1 = .ok (.ifCond .lt 18, 3) := by decide +kernel
theorem dX2_hasFollower_4 : decode cX2_hasFollower 4 = .ok (.iload_n 1, 1) := by decide +kernel
theorem dX2_hasFollower_5 : decode cX2_hasFollower 5 = .ok (.aload_n 0, 1) := by decide +kernel
theorem dX2_hasFollower_6 : decode cX2_hasFollower 6 = .ok (.getfield 21, 3) := by decide +kernel
theorem dX2_hasFollower_9 : decode cX2_hasFollower 9 = .ok (.getfield 53, 3) := by decide +kernel
theorem dX2_hasFollower_12 : decode cX2_hasFollower 12 = .ok (.if_icmp .ge 7, 3) := by decide +kernel
theorem dX2_hasFollower_19 : decode cX2_hasFollower 19 = .ok (.iconst 0, 1) := by decide +kernel
theorem dX2_hasFollower_20 : decode cX2_hasFollower 20 = .ok (.ireturn, 1) := by decide +kernel
theorem dX2_hasNose_0 : decode cX2_hasNose 0 = .ok (.iload_n 1, 1) := by decide +kernel
theorem dX2_hasNose_1 : decode cX2_hasNose 1 = .ok (.ifCond .lt 18, 3) := by decide +kernel
theorem dX2_hasNose_4 : decode cX2_hasNose 4 = .ok (.iload_n 1, 1) := by decide +kernel
theorem dX2_hasNose_5 : decode cX2_hasNose 5 = .ok (.aload_n 0, 1) := by decide +kernel
theorem dX2_hasNose_6 : decode cX2_hasNose 6 = .ok (.getfield 12, 3) := by decide +kernel
theorem dX2_hasNose_9 : decode cX2_hasNose 9 = .ok (.getfield 50, 3) := by decide +kernel
theorem dX2_hasNose_12 : decode cX2_hasNose 12 = .ok (.if_icmp .ge 7, 3) := by decide +kernel
theorem dX2_hasNose_19 : decode cX2_hasNose 19 = .ok (.iconst 0, 1) := by decide +kernel
theorem dX2_hasNose_20 : decode cX2_hasNose 20 = .ok (.ireturn, 1) := by decide +kernel
theorem dX2_hasPawl_0 : decode cX2_hasPawl 0 = .ok (.iload_n 1, 1) := by decide +kernel
theorem dX2_hasPawl_1 : decode cX2_hasPawl 1 = .ok (.ifCond .lt 18, 3) := by decide +kernel
theorem dX2_hasPawl_4 : decode cX2_hasPawl 4 = .ok (.iload_n 1, 1) := by decide +kernel
theorem dX2_hasPawl_5 : decode cX2_hasPawl 5 = .ok (.aload_n 0, 1) := by decide +kernel
theorem dX2_hasPawl_6 : decode cX2_hasPawl 6 = .ok (.getfield 28, 3) := by decide +kernel
theorem dX2_hasPawl_9 : decode cX2_hasPawl 9 = .ok (.getfield 54, 3) := by decide +kernel
theorem dX2_hasPawl_12 : decode cX2_hasPawl 12 = .ok (.if_icmp .ge 7, 3) := by decide +kernel
theorem dX2_hasPawl_19 : decode cX2_hasPawl 19 = .ok (.iconst 0, 1) := by decide +kernel
theorem dX2_hasPawl_20 : decode cX2_hasPawl 20 = .ok (.ireturn, 1) := by decide +kernel
theorem dX2_hasStep_0 : decode cX2_hasStep 0 = .ok (.iload_n 1, 1) := by decide +kernel
theorem dX2_hasStep_1 : decode cX2_hasStep 1 = .ok (.ifCond .lt 15, 3) := by decide +kernel
theorem dX2_hasStep_4 : decode cX2_hasStep 4 = .ok (.iload_n 1, 1) := by decide +kernel
theorem dX2_hasStep_5 : decode cX2_hasStep 5 = .ok (.aload_n 0, 1) := by decide +kernel
theorem dX2_hasStep_6 : decode cX2_hasStep 6 = .ok (.getfield 43, 3) := by decide +kernel
theorem dX2_hasStep_9 : decode cX2_hasStep 9 = .ok (.if_icmp .ge 7, 3) := by decide +kernel
theorem dX2_hasStep_16 : decode cX2_hasStep 16 = .ok (.iconst 0, 1) := by decide +kernel
theorem dX2_hasStep_17 : decode cX2_hasStep 17 = .ok (.ireturn, 1) := by decide +kernel
theorem dX2_hasTrack_0 : decode cX2_hasTrack 0 = .ok (.iload_n 1, 1) := by decide +kernel
theorem dX2_hasTrack_1 : decode cX2_hasTrack 1 = .ok (.ifCond .lt 15, 3) := by decide +kernel
theorem dX2_hasTrack_4 : decode cX2_hasTrack 4 = .ok (.iload_n 1, 1) := by decide +kernel
theorem dX2_hasTrack_5 : decode cX2_hasTrack 5 = .ok (.aload_n 0, 1) := by decide +kernel
theorem dX2_hasTrack_6 : decode cX2_hasTrack 6 = .ok (.getfield 47, 3) := by decide +kernel
theorem dX2_hasTrack_9 : decode cX2_hasTrack 9 = .ok (.if_icmp .ge 7, 3) := by decide +kernel
theorem dX2_hasTrack_16 : decode cX2_hasTrack 16 = .ok (.iconst 0, 1) := by decide +kernel
theorem dX2_hasTrack_17 : decode cX2_hasTrack 17 = .ok (.ireturn, 1) := by decide +kernel
theorem dX2_isTold_0 : decode cX2_isTold 0 = .ok (.aload_n 0, 1) := by decide +kernel
theorem dX2_isTold_1 : decode cX2_isTold 1 = .ok (.getfield 43, 3) := by decide +kernel
theorem dX2_isTold_4 : decode cX2_isTold 4 = .ok (.ifCond .le 7, 3) := by decide +kernel
theorem dX2_isTold_11 : decode cX2_isTold 11 = .ok (.iconst 0, 1) := by decide +kernel
theorem dX2_isTold_12 : decode cX2_isTold 12 = .ok (.ireturn, 1) := by decide +kernel
theorem dX2_secondStep_0 : decode cX2_secondStep 0 = .ok (.aload_n 0, 1) := by decide +kernel
theorem dX2_secondStep_1 : decode cX2_secondStep 1 = .ok (.getfield 61, 3) := by decide +kernel
theorem dX2_secondStep_4 : decode cX2_secondStep 4 = .ok (.iconst 1, 1) := by decide +kernel
theorem dX2_secondStep_5 : decode cX2_secondStep 5 = .ok (.if_icmp .ge 7, 3) := by decide +kernel
theorem dX2_secondStep_8 : decode cX2_secondStep 8 = .ok (.iconst 0, 1) := by decide +kernel
theorem dX2_secondStep_9 : decode cX2_secondStep 9 = .ok (.goto 18, 3) := by decide +kernel
theorem dX2_secondStep_27 : decode cX2_secondStep 27 = .ok (.ireturn, 1) := by decide +kernel
theorem dX3_brokenBits_0 : decode cX3_brokenBits 0 = .ok (.iconst 0, 1) := by decide +kernel
theorem dX3_brokenBits_1 : decode cX3_brokenBits 1 = .ok (.istore_n 1, 1) := by decide +kernel
theorem dX3_brokenBits_2 : decode cX3_brokenBits 2 = .ok (.iconst 0, 1) := by decide +kernel
theorem dX3_brokenBits_3 : decode cX3_brokenBits 3 = .ok (.istore_n 2, 1) := by decide +kernel
theorem dX3_brokenBits_4 : decode cX3_brokenBits 4 = .ok (.iload_n 2, 1) := by decide +kernel
theorem dX3_brokenBits_5 : decode cX3_brokenBits 5 = .ok (.aload_n 0, 1) := by decide +kernel
theorem dX3_brokenBits_6 : decode cX3_brokenBits 6 = .ok (.getfield 34, 3) := by decide +kernel
theorem dX3_brokenBits_9 : decode cX3_brokenBits 9 = .ok (.if_icmp .ge 24, 3) := by decide +kernel
theorem dX3_brokenBits_33 : decode cX3_brokenBits 33 = .ok (.iload_n 1, 1) := by decide +kernel
theorem dX3_brokenBits_34 : decode cX3_brokenBits 34 = .ok (.ireturn, 1) := by decide +kernel
set_option maxHeartbeats 4000000 in
set_option maxRecDepth 100000 in
theorem c_X2_isTold (l : Launch) (dC : Nat → ClassId) (dI : Nat → Nat → Nat) (cI cZ cB cJ cM : ClassId) (h0 gn gf gp gs gr : Nat)  (sz : Nat) : Met l yX2_isTold (kw yX2_isTold cX2_isTold 1 (some .boolean)) ({ frames := 0, cells := 0, slots := 0, locals := 0 }) (va_Pc [.ref h0] (kPre dC dI [(cI, .int), (cZ, .boolean), (cB, .byte), (cJ, .long), (cM, .object RX2)] [(h0, .inr (2, [.int 0, .int 0, .int 0, .int 0, .int 0, .int 0, .int 0, .int 0, .int 0, .ref gn, .ref gf, .ref gp, .ref gs, .ref gr]))] sz)) (va_Qi (fun (r : Int32) (_ : Unit) => r = 0) (fun _ t => va_P (dC, dI) vwCl [(h0, .inr (2, [.int 0, .int 0, .int 0, .int 0, .int 0, .int 0, .int 0, .int 0, .int 0, .ref gn, .ref gf, .ref gp, .ref gs, .ref gr]))] t.heap ∧ va_D (va_A [(h0, .inr (2, [.int 0, .int 0, .int 0, .int 0, .int 0, .int 0, .int 0, .int 0, .int 0, .ref gn, .ref gf, .ref gp, .ref gs, .ref gr]))] sz) [(h0, .inr (2, [.int 0, .int 0, .int 0, .int 0, .int 0, .int 0, .int 0, .int 0, .int 0, .ref gn, .ref gf, .ref gp, .ref gs, .ref gr]))]) (va_A [(h0, .inr (2, [.int 0, .int 0, .int 0, .int 0, .int 0, .int 0, .int 0, .int 0, .int 0, .ref gn, .ref gf, .ref gp, .ref gs, .ref gr]))] sz)) 0 0 (va_A [(h0, .inr (2, [.int 0, .int 0, .int 0, .int 0, .int 0, .int 0, .int 0, .int 0, .int 0, .ref gn, .ref gf, .ref gp, .ref gs, .ref gr]))] sz) := by
  refine kEnter (by decide) (Nat.le_of_ble_eq_true rfl) ?_
  intro p e s m below meth c ls hx hb hr hml hown hlocks hin hwd hsz hP hK hD hl
  subst hsz
  generalize hAe : va_A [(h0, .inr (2, [.int 0, .int 0, .int 0, .int 0, .int 0, .int 0, .int 0, .int 0, .int 0, .ref gn, .ref gf, .ref gp, .ref gs, .ref gr]))] s.heap.size = A at hD ⊢
  have hA : ∀ q : Nat, s.heap.size ≤ q → A q := fun q h => by rw [← hAe]; exact Or.inr h
  have hS : va_S A s.heap s.heap [] := va_S.rf
  have hl : lv_has ls 1 [(0, .ref h0)] := hl
  refine lv_aload_n hx hb dX2_isTold_0 rfl (lv_at hl 0 rfl) ?_
  refine va_get (D := (dC, dI)) (ci := 2) (v := .int 0) (C := RX2) (T := TX2) (N := 14) hx hb hwd inlX2 hown hK hP 0 rfl rfl 0 (by decide) (hwd _ kr9_23) (fun _ h9 => h9) rfl dX2_isTold_1 ?_
  refine lv_if_le (tgt := 11) hx hb dX2_isTold_4 (by decide) (fun c1 => ?_) (fun c1 => absurd c1 (by decide))
  refine lv_iconst (v := 0) hx hb dX2_isTold_11 (by decide) ?_
  have hP9 := hP.sub (ws' := [(h0, .inr (2, [.int 0, .int 0, .int 0, .int 0, .int 0, .int 0, .int 0, .int 0, .int 0, .ref gn, .ref gf, .ref gp, .ref gs, .ref gr]))]) [0] rfl
  have hD9 := hD.sub (ws' := [(h0, .inr (2, [.int 0, .int 0, .int 0, .int 0, .int 0, .int 0, .int 0, .int 0, .int 0, .ref gn, .ref gf, .ref gp, .ref gs, .ref gr]))]) [0] (by decide) rfl
  exact W.zret (v := 0) hx hb hr (by decide) (fun t ht hW => ⟨⟨0, (), rfl, rfl, (by rw [ht]; exact hP9), hD9⟩, hS.F ht⟩) hS.2.2 dX2_isTold_12
set_option maxHeartbeats 4000000 in
set_option maxRecDepth 100000 in
theorem c_X2_hasTrack (l : Launch) (dC : Nat → ClassId) (dI : Nat → Nat → Nat) (cI cZ cB cJ cM : ClassId) (h0 gn gf gp gs gr : Nat) (p0 : Int32) (sz : Nat) : Met l yX2_hasTrack (kw yX2_hasTrack cX2_hasTrack 2 (some .boolean)) ({ frames := 0, cells := 0, slots := 0, locals := 0 }) (va_Pc [.ref h0, .int p0] (kPre dC dI [(cI, .int), (cZ, .boolean), (cB, .byte), (cJ, .long), (cM, .object RX2)] [(h0, .inr (2, [.int 0, .int 0, .int 0, .int 0, .int 0, .int 0, .int 0, .int 0, .int 0, .ref gn, .ref gf, .ref gp, .ref gs, .ref gr]))] sz)) (va_Qi (fun (r : Int32) (_ : Unit) => r = 0) (fun _ t => va_P (dC, dI) vwCl [(h0, .inr (2, [.int 0, .int 0, .int 0, .int 0, .int 0, .int 0, .int 0, .int 0, .int 0, .ref gn, .ref gf, .ref gp, .ref gs, .ref gr]))] t.heap ∧ va_D (va_A [(h0, .inr (2, [.int 0, .int 0, .int 0, .int 0, .int 0, .int 0, .int 0, .int 0, .int 0, .ref gn, .ref gf, .ref gp, .ref gs, .ref gr]))] sz) [(h0, .inr (2, [.int 0, .int 0, .int 0, .int 0, .int 0, .int 0, .int 0, .int 0, .int 0, .ref gn, .ref gf, .ref gp, .ref gs, .ref gr]))]) (va_A [(h0, .inr (2, [.int 0, .int 0, .int 0, .int 0, .int 0, .int 0, .int 0, .int 0, .int 0, .ref gn, .ref gf, .ref gp, .ref gs, .ref gr]))] sz)) 0 0 (va_A [(h0, .inr (2, [.int 0, .int 0, .int 0, .int 0, .int 0, .int 0, .int 0, .int 0, .int 0, .ref gn, .ref gf, .ref gp, .ref gs, .ref gr]))] sz) := by
  refine kEnter (by decide) (Nat.le_of_ble_eq_true rfl) ?_
  intro p e s m below meth c ls hx hb hr hml hown hlocks hin hwd hsz hP hK hD hl
  subst hsz
  generalize hAe : va_A [(h0, .inr (2, [.int 0, .int 0, .int 0, .int 0, .int 0, .int 0, .int 0, .int 0, .int 0, .ref gn, .ref gf, .ref gp, .ref gs, .ref gr]))] s.heap.size = A at hD ⊢
  have hA : ∀ q : Nat, s.heap.size ≤ q → A q := fun q h => by rw [← hAe]; exact Or.inr h
  have hS : va_S A s.heap s.heap [] := va_S.rf
  have hl : lv_has ls 2 [(0, .ref h0), (1, .int p0)] := hl
  refine lv_iload_n hx hb dX2_hasTrack_0 rfl (lv_at hl 1 rfl) ?_
  refine lv_if_lt (tgt := 16) hx hb dX2_hasTrack_1 (by decide) (fun c1 => ?_) (fun c1 => ?_)
  · refine lv_iconst (v := 0) hx hb dX2_hasTrack_16 (by decide) ?_
    have hP9 := hP.sub (ws' := [(h0, .inr (2, [.int 0, .int 0, .int 0, .int 0, .int 0, .int 0, .int 0, .int 0, .int 0, .ref gn, .ref gf, .ref gp, .ref gs, .ref gr]))]) [0] rfl
    have hD9 := hD.sub (ws' := [(h0, .inr (2, [.int 0, .int 0, .int 0, .int 0, .int 0, .int 0, .int 0, .int 0, .int 0, .ref gn, .ref gf, .ref gp, .ref gs, .ref gr]))]) [0] (by decide) rfl
    exact W.zret (v := 0) hx hb hr (by decide) (fun t ht hW => ⟨⟨0, (), rfl, rfl, (by rw [ht]; exact hP9), hD9⟩, hS.F ht⟩) hS.2.2 dX2_hasTrack_17
  · refine lv_iload_n hx hb dX2_hasTrack_4 rfl (lv_at hl 1 rfl) ?_
    refine lv_aload_n hx hb dX2_hasTrack_5 rfl (lv_at hl 0 rfl) ?_
    refine va_get (D := (dC, dI)) (ci := 2) (v := .int 0) (C := RX2) (T := TX2) (N := 14) hx hb hwd inlX2 hown hK hP 0 rfl rfl 3 (by decide) (hwd _ kr10_2) (fun _ h9 => h9) rfl dX2_hasTrack_6 ?_
    refine lv_icmp_ge (tgt := 16) hx hb dX2_hasTrack_9 (by decide) (fun c2 => ?_) (fun c2 => ?_)
    · refine lv_iconst (v := 0) hx hb dX2_hasTrack_16 (by decide) ?_
      have hP9 := hP.sub (ws' := [(h0, .inr (2, [.int 0, .int 0, .int 0, .int 0, .int 0, .int 0, .int 0, .int 0, .int 0, .ref gn, .ref gf, .ref gp, .ref gs, .ref gr]))]) [0] rfl
      have hD9 := hD.sub (ws' := [(h0, .inr (2, [.int 0, .int 0, .int 0, .int 0, .int 0, .int 0, .int 0, .int 0, .int 0, .ref gn, .ref gf, .ref gp, .ref gs, .ref gr]))]) [0] (by decide) rfl
      exact W.zret (v := 0) hx hb hr (by decide) (fun t ht hW => ⟨⟨0, (), rfl, rfl, (by rw [ht]; exact hP9), hD9⟩, hS.F ht⟩) hS.2.2 dX2_hasTrack_17
    · exfalso
      simp only [ki_lt, ki_le, ki_eq, kz_m8, kz_m7, kz_m6, kz_m4, kz_m3, kz_m2, kz_m1, kz_0, kz_1, kz_2, kz_3, kz_4, kz_5, kz_6, kz_7, kz_8, kz_9, kz_10, kz_11, kz_20, kz_60] at c1 c2
      omega
set_option maxHeartbeats 4000000 in
set_option maxRecDepth 100000 in
theorem c_X2_hasStep (l : Launch) (dC : Nat → ClassId) (dI : Nat → Nat → Nat) (cI cZ cB cJ cM : ClassId) (h0 gn gf gp gs gr : Nat) (p0 : Int32) (sz : Nat) : Met l yX2_hasStep (kw yX2_hasStep cX2_hasStep 2 (some .boolean)) ({ frames := 0, cells := 0, slots := 0, locals := 0 }) (va_Pc [.ref h0, .int p0] (kPre dC dI [(cI, .int), (cZ, .boolean), (cB, .byte), (cJ, .long), (cM, .object RX2)] [(h0, .inr (2, [.int 0, .int 0, .int 0, .int 0, .int 0, .int 0, .int 0, .int 0, .int 0, .ref gn, .ref gf, .ref gp, .ref gs, .ref gr]))] sz)) (va_Qi (fun (r : Int32) (_ : Unit) => r = 0) (fun _ t => va_P (dC, dI) vwCl [(h0, .inr (2, [.int 0, .int 0, .int 0, .int 0, .int 0, .int 0, .int 0, .int 0, .int 0, .ref gn, .ref gf, .ref gp, .ref gs, .ref gr]))] t.heap ∧ va_D (va_A [(h0, .inr (2, [.int 0, .int 0, .int 0, .int 0, .int 0, .int 0, .int 0, .int 0, .int 0, .ref gn, .ref gf, .ref gp, .ref gs, .ref gr]))] sz) [(h0, .inr (2, [.int 0, .int 0, .int 0, .int 0, .int 0, .int 0, .int 0, .int 0, .int 0, .ref gn, .ref gf, .ref gp, .ref gs, .ref gr]))]) (va_A [(h0, .inr (2, [.int 0, .int 0, .int 0, .int 0, .int 0, .int 0, .int 0, .int 0, .int 0, .ref gn, .ref gf, .ref gp, .ref gs, .ref gr]))] sz)) 0 0 (va_A [(h0, .inr (2, [.int 0, .int 0, .int 0, .int 0, .int 0, .int 0, .int 0, .int 0, .int 0, .ref gn, .ref gf, .ref gp, .ref gs, .ref gr]))] sz) := by
  refine kEnter (by decide) (Nat.le_of_ble_eq_true rfl) ?_
  intro p e s m below meth c ls hx hb hr hml hown hlocks hin hwd hsz hP hK hD hl
  subst hsz
  generalize hAe : va_A [(h0, .inr (2, [.int 0, .int 0, .int 0, .int 0, .int 0, .int 0, .int 0, .int 0, .int 0, .ref gn, .ref gf, .ref gp, .ref gs, .ref gr]))] s.heap.size = A at hD ⊢
  have hA : ∀ q : Nat, s.heap.size ≤ q → A q := fun q h => by rw [← hAe]; exact Or.inr h
  have hS : va_S A s.heap s.heap [] := va_S.rf
  have hl : lv_has ls 2 [(0, .ref h0), (1, .int p0)] := hl
  refine lv_iload_n hx hb dX2_hasStep_0 rfl (lv_at hl 1 rfl) ?_
  refine lv_if_lt (tgt := 16) hx hb dX2_hasStep_1 (by decide) (fun c1 => ?_) (fun c1 => ?_)
  · refine lv_iconst (v := 0) hx hb dX2_hasStep_16 (by decide) ?_
    have hP9 := hP.sub (ws' := [(h0, .inr (2, [.int 0, .int 0, .int 0, .int 0, .int 0, .int 0, .int 0, .int 0, .int 0, .ref gn, .ref gf, .ref gp, .ref gs, .ref gr]))]) [0] rfl
    have hD9 := hD.sub (ws' := [(h0, .inr (2, [.int 0, .int 0, .int 0, .int 0, .int 0, .int 0, .int 0, .int 0, .int 0, .ref gn, .ref gf, .ref gp, .ref gs, .ref gr]))]) [0] (by decide) rfl
    exact W.zret (v := 0) hx hb hr (by decide) (fun t ht hW => ⟨⟨0, (), rfl, rfl, (by rw [ht]; exact hP9), hD9⟩, hS.F ht⟩) hS.2.2 dX2_hasStep_17
  · refine lv_iload_n hx hb dX2_hasStep_4 rfl (lv_at hl 1 rfl) ?_
    refine lv_aload_n hx hb dX2_hasStep_5 rfl (lv_at hl 0 rfl) ?_
    refine va_get (D := (dC, dI)) (ci := 2) (v := .int 0) (C := RX2) (T := TX2) (N := 14) hx hb hwd inlX2 hown hK hP 0 rfl rfl 0 (by decide) (hwd _ kr9_23) (fun _ h9 => h9) rfl dX2_hasStep_6 ?_
    refine lv_icmp_ge (tgt := 16) hx hb dX2_hasStep_9 (by decide) (fun c2 => ?_) (fun c2 => ?_)
    · refine lv_iconst (v := 0) hx hb dX2_hasStep_16 (by decide) ?_
      have hP9 := hP.sub (ws' := [(h0, .inr (2, [.int 0, .int 0, .int 0, .int 0, .int 0, .int 0, .int 0, .int 0, .int 0, .ref gn, .ref gf, .ref gp, .ref gs, .ref gr]))]) [0] rfl
      have hD9 := hD.sub (ws' := [(h0, .inr (2, [.int 0, .int 0, .int 0, .int 0, .int 0, .int 0, .int 0, .int 0, .int 0, .ref gn, .ref gf, .ref gp, .ref gs, .ref gr]))]) [0] (by decide) rfl
      exact W.zret (v := 0) hx hb hr (by decide) (fun t ht hW => ⟨⟨0, (), rfl, rfl, (by rw [ht]; exact hP9), hD9⟩, hS.F ht⟩) hS.2.2 dX2_hasStep_17
    · exfalso
      simp only [ki_lt, ki_le, ki_eq, kz_m8, kz_m7, kz_m6, kz_m4, kz_m3, kz_m2, kz_m1, kz_0, kz_1, kz_2, kz_3, kz_4, kz_5, kz_6, kz_7, kz_8, kz_9, kz_10, kz_11, kz_20, kz_60] at c1 c2
      omega
set_option maxHeartbeats 4000000 in
set_option maxRecDepth 100000 in
theorem c_X2_hasNose (l : Launch) (dC : Nat → ClassId) (dI : Nat → Nat → Nat) (cI cZ cB cJ cM : ClassId) (h0 gn gf gp gs gr a0 a1 a2 a3 a4 a5 a6 : Nat) (p0 : Int32) (sz : Nat) : Met l yX2_hasNose (kw yX2_hasNose cX2_hasNose 2 (some .boolean)) ({ frames := 0, cells := 0, slots := 0, locals := 0 }) (va_Pc [.ref h0, .int p0] (kPre dC dI [(cI, .int), (cZ, .boolean), (cB, .byte), (cJ, .long), (cM, .object RX2)] [(h0, .inr (2, [.int 0, .int 0, .int 0, .int 0, .int 0, .int 0, .int 0, .int 0, .int 0, .ref gn, .ref gf, .ref gp, .ref gs, .ref gr])), (gn, .inr (3, [.int 0, .ref a0, .ref a1, .ref a2, .ref a3, .ref a4, .ref a5, .ref a6]))] sz)) (va_Qi (fun (r : Int32) (_ : Unit) => r = 0) (fun _ t => va_P (dC, dI) vwCl [(h0, .inr (2, [.int 0, .int 0, .int 0, .int 0, .int 0, .int 0, .int 0, .int 0, .int 0, .ref gn, .ref gf, .ref gp, .ref gs, .ref gr])), (gn, .inr (3, [.int 0, .ref a0, .ref a1, .ref a2, .ref a3, .ref a4, .ref a5, .ref a6]))] t.heap ∧ va_D (va_A [(h0, .inr (2, [.int 0, .int 0, .int 0, .int 0, .int 0, .int 0, .int 0, .int 0, .int 0, .ref gn, .ref gf, .ref gp, .ref gs, .ref gr])), (gn, .inr (3, [.int 0, .ref a0, .ref a1, .ref a2, .ref a3, .ref a4, .ref a5, .ref a6]))] sz) [(h0, .inr (2, [.int 0, .int 0, .int 0, .int 0, .int 0, .int 0, .int 0, .int 0, .int 0, .ref gn, .ref gf, .ref gp, .ref gs, .ref gr])), (gn, .inr (3, [.int 0, .ref a0, .ref a1, .ref a2, .ref a3, .ref a4, .ref a5, .ref a6]))]) (va_A [(h0, .inr (2, [.int 0, .int 0, .int 0, .int 0, .int 0, .int 0, .int 0, .int 0, .int 0, .ref gn, .ref gf, .ref gp, .ref gs, .ref gr])), (gn, .inr (3, [.int 0, .ref a0, .ref a1, .ref a2, .ref a3, .ref a4, .ref a5, .ref a6]))] sz)) 0 0 (va_A [(h0, .inr (2, [.int 0, .int 0, .int 0, .int 0, .int 0, .int 0, .int 0, .int 0, .int 0, .ref gn, .ref gf, .ref gp, .ref gs, .ref gr])), (gn, .inr (3, [.int 0, .ref a0, .ref a1, .ref a2, .ref a3, .ref a4, .ref a5, .ref a6]))] sz) := by
  refine kEnter (by decide) (Nat.le_of_ble_eq_true rfl) ?_
  intro p e s m below meth c ls hx hb hr hml hown hlocks hin hwd hsz hP hK hD hl
  subst hsz
  generalize hAe : va_A [(h0, .inr (2, [.int 0, .int 0, .int 0, .int 0, .int 0, .int 0, .int 0, .int 0, .int 0, .ref gn, .ref gf, .ref gp, .ref gs, .ref gr])), (gn, .inr (3, [.int 0, .ref a0, .ref a1, .ref a2, .ref a3, .ref a4, .ref a5, .ref a6]))] s.heap.size = A at hD ⊢
  have hA : ∀ q : Nat, s.heap.size ≤ q → A q := fun q h => by rw [← hAe]; exact Or.inr h
  have hS : va_S A s.heap s.heap [] := va_S.rf
  have hl : lv_has ls 2 [(0, .ref h0), (1, .int p0)] := hl
  refine lv_iload_n hx hb dX2_hasNose_0 rfl (lv_at hl 1 rfl) ?_
  refine lv_if_lt (tgt := 19) hx hb dX2_hasNose_1 (by decide) (fun c1 => ?_) (fun c1 => ?_)
  · refine lv_iconst (v := 0) hx hb dX2_hasNose_19 (by decide) ?_
    have hP9 := hP.sub (ws' := [(h0, .inr (2, [.int 0, .int 0, .int 0, .int 0, .int 0, .int 0, .int 0, .int 0, .int 0, .ref gn, .ref gf, .ref gp, .ref gs, .ref gr])), (gn, .inr (3, [.int 0, .ref a0, .ref a1, .ref a2, .ref a3, .ref a4, .ref a5, .ref a6]))]) [0, 1] rfl
    have hD9 := hD.sub (ws' := [(h0, .inr (2, [.int 0, .int 0, .int 0, .int 0, .int 0, .int 0, .int 0, .int 0, .int 0, .ref gn, .ref gf, .ref gp, .ref gs, .ref gr])), (gn, .inr (3, [.int 0, .ref a0, .ref a1, .ref a2, .ref a3, .ref a4, .ref a5, .ref a6]))]) [0, 1] (by decide) rfl
    exact W.zret (v := 0) hx hb hr (by decide) (fun t ht hW => ⟨⟨0, (), rfl, rfl, (by rw [ht]; exact hP9), hD9⟩, hS.F ht⟩) hS.2.2 dX2_hasNose_20
  · refine lv_iload_n hx hb dX2_hasNose_4 rfl (lv_at hl 1 rfl) ?_
    refine lv_aload_n hx hb dX2_hasNose_5 rfl (lv_at hl 0 rfl) ?_
    refine va_get (D := (dC, dI)) (ci := 2) (v := .ref gn) (C := RX2) (T := TX2) (N := 14) hx hb hwd inlX2 hown hK hP 0 rfl rfl 9 (by decide) (hwd _ kr5_0) (fun _ h9 => h9) rfl dX2_hasNose_6 ?_
    refine va_get (D := (dC, dI)) (ci := 3) (v := .int 0) (C := RX3) (T := TX3) (N := 8) hx hb hwd inlX3 hown hK hP 1 rfl rfl 0 (by decide) (hwd _ kr10_8) (fun _ h9 => h9) rfl dX2_hasNose_9 ?_
    refine lv_icmp_ge (tgt := 19) hx hb dX2_hasNose_12 (by decide) (fun c2 => ?_) (fun c2 => ?_)
    · refine lv_iconst (v := 0) hx hb dX2_hasNose_19 (by decide) ?_
      have hP9 := hP.sub (ws' := [(h0, .inr (2, [.int 0, .int 0, .int 0, .int 0, .int 0, .int 0, .int 0, .int 0, .int 0, .ref gn, .ref gf, .ref gp, .ref gs, .ref gr])), (gn, .inr (3, [.int 0, .ref a0, .ref a1, .ref a2, .ref a3, .ref a4, .ref a5, .ref a6]))]) [0, 1] rfl
      have hD9 := hD.sub (ws' := [(h0, .inr (2, [.int 0, .int 0, .int 0, .int 0, .int 0, .int 0, .int 0, .int 0, .int 0, .ref gn, .ref gf, .ref gp, .ref gs, .ref gr])), (gn, .inr (3, [.int 0, .ref a0, .ref a1, .ref a2, .ref a3, .ref a4, .ref a5, .ref a6]))]) [0, 1] (by decide) rfl
      exact W.zret (v := 0) hx hb hr (by decide) (fun t ht hW => ⟨⟨0, (), rfl, rfl, (by rw [ht]; exact hP9), hD9⟩, hS.F ht⟩) hS.2.2 dX2_hasNose_20
    · exfalso
      simp only [ki_lt, ki_le, ki_eq, kz_m8, kz_m7, kz_m6, kz_m4, kz_m3, kz_m2, kz_m1, kz_0, kz_1, kz_2, kz_3, kz_4, kz_5, kz_6, kz_7, kz_8, kz_9, kz_10, kz_11, kz_20, kz_60] at c1 c2
      omega
set_option maxHeartbeats 4000000 in
set_option maxRecDepth 100000 in
theorem c_X2_hasFollower (l : Launch) (dC : Nat → ClassId) (dI : Nat → Nat → Nat) (cI cZ cB cJ cM : ClassId) (h0 gn gf gp gs gr a0 a1 a2 a3 a4 a5 a6 a7 a8 : Nat) (p0 : Int32) (sz : Nat) : Met l yX2_hasFollower (kw yX2_hasFollower cX2_hasFollower 2 (some .boolean)) ({ frames := 0, cells := 0, slots := 0, locals := 0 }) (va_Pc [.ref h0, .int p0] (kPre dC dI [(cI, .int), (cZ, .boolean), (cB, .byte), (cJ, .long), (cM, .object RX2)] [(h0, .inr (2, [.int 0, .int 0, .int 0, .int 0, .int 0, .int 0, .int 0, .int 0, .int 0, .ref gn, .ref gf, .ref gp, .ref gs, .ref gr])), (gf, .inr (1, [.int 0, .ref a0, .ref a1, .ref a2, .ref a3, .ref a4, .ref a5, .ref a6, .ref a7, .ref a8]))] sz)) (va_Qi (fun (r : Int32) (_ : Unit) => r = 0) (fun _ t => va_P (dC, dI) vwCl [(h0, .inr (2, [.int 0, .int 0, .int 0, .int 0, .int 0, .int 0, .int 0, .int 0, .int 0, .ref gn, .ref gf, .ref gp, .ref gs, .ref gr])), (gf, .inr (1, [.int 0, .ref a0, .ref a1, .ref a2, .ref a3, .ref a4, .ref a5, .ref a6, .ref a7, .ref a8]))] t.heap ∧ va_D (va_A [(h0, .inr (2, [.int 0, .int 0, .int 0, .int 0, .int 0, .int 0, .int 0, .int 0, .int 0, .ref gn, .ref gf, .ref gp, .ref gs, .ref gr])), (gf, .inr (1, [.int 0, .ref a0, .ref a1, .ref a2, .ref a3, .ref a4, .ref a5, .ref a6, .ref a7, .ref a8]))] sz) [(h0, .inr (2, [.int 0, .int 0, .int 0, .int 0, .int 0, .int 0, .int 0, .int 0, .int 0, .ref gn, .ref gf, .ref gp, .ref gs, .ref gr])), (gf, .inr (1, [.int 0, .ref a0, .ref a1, .ref a2, .ref a3, .ref a4, .ref a5, .ref a6, .ref a7, .ref a8]))]) (va_A [(h0, .inr (2, [.int 0, .int 0, .int 0, .int 0, .int 0, .int 0, .int 0, .int 0, .int 0, .ref gn, .ref gf, .ref gp, .ref gs, .ref gr])), (gf, .inr (1, [.int 0, .ref a0, .ref a1, .ref a2, .ref a3, .ref a4, .ref a5, .ref a6, .ref a7, .ref a8]))] sz)) 0 0 (va_A [(h0, .inr (2, [.int 0, .int 0, .int 0, .int 0, .int 0, .int 0, .int 0, .int 0, .int 0, .ref gn, .ref gf, .ref gp, .ref gs, .ref gr])), (gf, .inr (1, [.int 0, .ref a0, .ref a1, .ref a2, .ref a3, .ref a4, .ref a5, .ref a6, .ref a7, .ref a8]))] sz) := by
  refine kEnter (by decide) (Nat.le_of_ble_eq_true rfl) ?_
  intro p e s m below meth c ls hx hb hr hml hown hlocks hin hwd hsz hP hK hD hl
  subst hsz
  generalize hAe : va_A [(h0, .inr (2, [.int 0, .int 0, .int 0, .int 0, .int 0, .int 0, .int 0, .int 0, .int 0, .ref gn, .ref gf, .ref gp, .ref gs, .ref gr])), (gf, .inr (1, [.int 0, .ref a0, .ref a1, .ref a2, .ref a3, .ref a4, .ref a5, .ref a6, .ref a7, .ref a8]))] s.heap.size = A at hD ⊢
  have hA : ∀ q : Nat, s.heap.size ≤ q → A q := fun q h => by rw [← hAe]; exact Or.inr h
  have hS : va_S A s.heap s.heap [] := va_S.rf
  have hl : lv_has ls 2 [(0, .ref h0), (1, .int p0)] := hl
  refine lv_iload_n hx hb dX2_hasFollower_0 rfl (lv_at hl 1 rfl) ?_
  refine lv_if_lt (tgt := 19) hx hb dX2_hasFollower_1 (by decide) (fun c1 => ?_) (fun c1 => ?_)
  · refine lv_iconst (v := 0) hx hb dX2_hasFollower_19 (by decide) ?_
    have hP9 := hP.sub (ws' := [(h0, .inr (2, [.int 0, .int 0, .int 0, .int 0, .int 0, .int 0, .int 0, .int 0, .int 0, .ref gn, .ref gf, .ref gp, .ref gs, .ref gr])), (gf, .inr (1, [.int 0, .ref a0, .ref a1, .ref a2, .ref a3, .ref a4, .ref a5, .ref a6, .ref a7, .ref a8]))]) [0, 1] rfl
    have hD9 := hD.sub (ws' := [(h0, .inr (2, [.int 0, .int 0, .int 0, .int 0, .int 0, .int 0, .int 0, .int 0, .int 0, .ref gn, .ref gf, .ref gp, .ref gs, .ref gr])), (gf, .inr (1, [.int 0, .ref a0, .ref a1, .ref a2, .ref a3, .ref a4, .ref a5, .ref a6, .ref a7, .ref a8]))]) [0, 1] (by decide) rfl
    exact W.zret (v := 0) hx hb hr (by decide) (fun t ht hW => ⟨⟨0, (), rfl, rfl, (by rw [ht]; exact hP9), hD9⟩, hS.F ht⟩) hS.2.2 dX2_hasFollower_20
  · refine lv_iload_n hx hb dX2_hasFollower_4 rfl (lv_at hl 1 rfl) ?_
    refine lv_aload_n hx hb dX2_hasFollower_5 rfl (lv_at hl 0 rfl) ?_
    refine va_get (D := (dC, dI)) (ci := 2) (v := .ref gf) (C := RX2) (T := TX2) (N := 14) hx hb hwd inlX2 hown hK hP 0 rfl rfl 10 (by decide) (hwd _ kr5_4) (fun _ h9 => h9) rfl dX2_hasFollower_6 ?_
    refine va_get (D := (dC, dI)) (ci := 1) (v := .int 0) (C := RX1) (T := TX1) (N := 10) hx hb hwd inlX1 hown hK hP 1 rfl rfl 0 (by decide) (hwd _ kr10_9) (fun _ h9 => h9) rfl dX2_hasFollower_9 ?_
    refine lv_icmp_ge (tgt := 19) hx hb dX2_hasFollower_12 (by decide) (fun c2 => ?_) (fun c2 => ?_)
    · refine lv_iconst (v := 0) hx hb dX2_hasFollower_19 (by decide) ?_
      have hP9 := hP.sub (ws' := [(h0, .inr (2, [.int 0, .int 0, .int 0, .int 0, .int 0, .int 0, .int 0, .int 0, .int 0, .ref gn, .ref gf, .ref gp, .ref gs, .ref gr])), (gf, .inr (1, [.int 0, .ref a0, .ref a1, .ref a2, .ref a3, .ref a4, .ref a5, .ref a6, .ref a7, .ref a8]))]) [0, 1] rfl
      have hD9 := hD.sub (ws' := [(h0, .inr (2, [.int 0, .int 0, .int 0, .int 0, .int 0, .int 0, .int 0, .int 0, .int 0, .ref gn, .ref gf, .ref gp, .ref gs, .ref gr])), (gf, .inr (1, [.int 0, .ref a0, .ref a1, .ref a2, .ref a3, .ref a4, .ref a5, .ref a6, .ref a7, .ref a8]))]) [0, 1] (by decide) rfl
      exact W.zret (v := 0) hx hb hr (by decide) (fun t ht hW => ⟨⟨0, (), rfl, rfl, (by rw [ht]; exact hP9), hD9⟩, hS.F ht⟩) hS.2.2 dX2_hasFollower_20
    · exfalso
      simp only [ki_lt, ki_le, ki_eq, kz_m8, kz_m7, kz_m6, kz_m4, kz_m3, kz_m2, kz_m1, kz_0, kz_1, kz_2, kz_3, kz_4, kz_5, kz_6, kz_7, kz_8, kz_9, kz_10, kz_11, kz_20, kz_60] at c1 c2
      omega
set_option maxHeartbeats 4000000 in
set_option maxRecDepth 100000 in
theorem c_X2_hasPawl (l : Launch) (dC : Nat → ClassId) (dI : Nat → Nat → Nat) (cI cZ cB cJ cM : ClassId) (h0 gn gf gp gs gr a0 a1 a2 a3 : Nat) (p0 : Int32) (sz : Nat) : Met l yX2_hasPawl (kw yX2_hasPawl cX2_hasPawl 2 (some .boolean)) ({ frames := 0, cells := 0, slots := 0, locals := 0 }) (va_Pc [.ref h0, .int p0] (kPre dC dI [(cI, .int), (cZ, .boolean), (cB, .byte), (cJ, .long), (cM, .object RX2)] [(h0, .inr (2, [.int 0, .int 0, .int 0, .int 0, .int 0, .int 0, .int 0, .int 0, .int 0, .ref gn, .ref gf, .ref gp, .ref gs, .ref gr])), (gp, .inr (4, [.int 0, .ref a0, .ref a1, .ref a2, .ref a3]))] sz)) (va_Qi (fun (r : Int32) (_ : Unit) => r = 0) (fun _ t => va_P (dC, dI) vwCl [(h0, .inr (2, [.int 0, .int 0, .int 0, .int 0, .int 0, .int 0, .int 0, .int 0, .int 0, .ref gn, .ref gf, .ref gp, .ref gs, .ref gr])), (gp, .inr (4, [.int 0, .ref a0, .ref a1, .ref a2, .ref a3]))] t.heap ∧ va_D (va_A [(h0, .inr (2, [.int 0, .int 0, .int 0, .int 0, .int 0, .int 0, .int 0, .int 0, .int 0, .ref gn, .ref gf, .ref gp, .ref gs, .ref gr])), (gp, .inr (4, [.int 0, .ref a0, .ref a1, .ref a2, .ref a3]))] sz) [(h0, .inr (2, [.int 0, .int 0, .int 0, .int 0, .int 0, .int 0, .int 0, .int 0, .int 0, .ref gn, .ref gf, .ref gp, .ref gs, .ref gr])), (gp, .inr (4, [.int 0, .ref a0, .ref a1, .ref a2, .ref a3]))]) (va_A [(h0, .inr (2, [.int 0, .int 0, .int 0, .int 0, .int 0, .int 0, .int 0, .int 0, .int 0, .ref gn, .ref gf, .ref gp, .ref gs, .ref gr])), (gp, .inr (4, [.int 0, .ref a0, .ref a1, .ref a2, .ref a3]))] sz)) 0 0 (va_A [(h0, .inr (2, [.int 0, .int 0, .int 0, .int 0, .int 0, .int 0, .int 0, .int 0, .int 0, .ref gn, .ref gf, .ref gp, .ref gs, .ref gr])), (gp, .inr (4, [.int 0, .ref a0, .ref a1, .ref a2, .ref a3]))] sz) := by
  refine kEnter (by decide) (Nat.le_of_ble_eq_true rfl) ?_
  intro p e s m below meth c ls hx hb hr hml hown hlocks hin hwd hsz hP hK hD hl
  subst hsz
  generalize hAe : va_A [(h0, .inr (2, [.int 0, .int 0, .int 0, .int 0, .int 0, .int 0, .int 0, .int 0, .int 0, .ref gn, .ref gf, .ref gp, .ref gs, .ref gr])), (gp, .inr (4, [.int 0, .ref a0, .ref a1, .ref a2, .ref a3]))] s.heap.size = A at hD ⊢
  have hA : ∀ q : Nat, s.heap.size ≤ q → A q := fun q h => by rw [← hAe]; exact Or.inr h
  have hS : va_S A s.heap s.heap [] := va_S.rf
  have hl : lv_has ls 2 [(0, .ref h0), (1, .int p0)] := hl
  refine lv_iload_n hx hb dX2_hasPawl_0 rfl (lv_at hl 1 rfl) ?_
  refine lv_if_lt (tgt := 19) hx hb dX2_hasPawl_1 (by decide) (fun c1 => ?_) (fun c1 => ?_)
  · refine lv_iconst (v := 0) hx hb dX2_hasPawl_19 (by decide) ?_
    have hP9 := hP.sub (ws' := [(h0, .inr (2, [.int 0, .int 0, .int 0, .int 0, .int 0, .int 0, .int 0, .int 0, .int 0, .ref gn, .ref gf, .ref gp, .ref gs, .ref gr])), (gp, .inr (4, [.int 0, .ref a0, .ref a1, .ref a2, .ref a3]))]) [0, 1] rfl
    have hD9 := hD.sub (ws' := [(h0, .inr (2, [.int 0, .int 0, .int 0, .int 0, .int 0, .int 0, .int 0, .int 0, .int 0, .ref gn, .ref gf, .ref gp, .ref gs, .ref gr])), (gp, .inr (4, [.int 0, .ref a0, .ref a1, .ref a2, .ref a3]))]) [0, 1] (by decide) rfl
    exact W.zret (v := 0) hx hb hr (by decide) (fun t ht hW => ⟨⟨0, (), rfl, rfl, (by rw [ht]; exact hP9), hD9⟩, hS.F ht⟩) hS.2.2 dX2_hasPawl_20
  · refine lv_iload_n hx hb dX2_hasPawl_4 rfl (lv_at hl 1 rfl) ?_
    refine lv_aload_n hx hb dX2_hasPawl_5 rfl (lv_at hl 0 rfl) ?_
    refine va_get (D := (dC, dI)) (ci := 2) (v := .ref gp) (C := RX2) (T := TX2) (N := 14) hx hb hwd inlX2 hown hK hP 0 rfl rfl 11 (by decide) (hwd _ kr5_8) (fun _ h9 => h9) rfl dX2_hasPawl_6 ?_
    refine va_get (D := (dC, dI)) (ci := 4) (v := .int 0) (C := RX4) (T := TX4) (N := 5) hx hb hwd inlX4 hown hK hP 1 rfl rfl 0 (by decide) (hwd _ kr10_10) (fun _ h9 => h9) rfl dX2_hasPawl_9 ?_
    refine lv_icmp_ge (tgt := 19) hx hb dX2_hasPawl_12 (by decide) (fun c2 => ?_) (fun c2 => ?_)
    · refine lv_iconst (v := 0) hx hb dX2_hasPawl_19 (by decide) ?_
      have hP9 := hP.sub (ws' := [(h0, .inr (2, [.int 0, .int 0, .int 0, .int 0, .int 0, .int 0, .int 0, .int 0, .int 0, .ref gn, .ref gf, .ref gp, .ref gs, .ref gr])), (gp, .inr (4, [.int 0, .ref a0, .ref a1, .ref a2, .ref a3]))]) [0, 1] rfl
      have hD9 := hD.sub (ws' := [(h0, .inr (2, [.int 0, .int 0, .int 0, .int 0, .int 0, .int 0, .int 0, .int 0, .int 0, .ref gn, .ref gf, .ref gp, .ref gs, .ref gr])), (gp, .inr (4, [.int 0, .ref a0, .ref a1, .ref a2, .ref a3]))]) [0, 1] (by decide) rfl
      exact W.zret (v := 0) hx hb hr (by decide) (fun t ht hW => ⟨⟨0, (), rfl, rfl, (by rw [ht]; exact hP9), hD9⟩, hS.F ht⟩) hS.2.2 dX2_hasPawl_20
    · exfalso
      simp only [ki_lt, ki_le, ki_eq, kz_m8, kz_m7, kz_m6, kz_m4, kz_m3, kz_m2, kz_m1, kz_0, kz_1, kz_2, kz_3, kz_4, kz_5, kz_6, kz_7, kz_8, kz_9, kz_10, kz_11, kz_20, kz_60] at c1 c2
      omega
set_option maxHeartbeats 4000000 in
set_option maxRecDepth 100000 in
theorem c_X2_secondStep (l : Launch) (dC : Nat → ClassId) (dI : Nat → Nat → Nat) (cI cZ cB cJ cM : ClassId) (h0 gn gf gp gs gr : Nat) (p0 : Int32) (sz : Nat) : Met l yX2_secondStep (kw yX2_secondStep cX2_secondStep 2 (some .int)) ({ frames := 0, cells := 0, slots := 0, locals := 0 }) (va_Pc [.ref h0, .int p0] (kPre dC dI [(cI, .int), (cZ, .boolean), (cB, .byte), (cJ, .long), (cM, .object RX2)] [(h0, .inr (2, [.int 0, .int 0, .int 0, .int 0, .int 0, .int 0, .int 0, .int 0, .int 0, .ref gn, .ref gf, .ref gp, .ref gs, .ref gr]))] sz)) (va_Qi (fun (r : Int32) (_ : Unit) => r = 0) (fun _ t => va_P (dC, dI) vwCl [(h0, .inr (2, [.int 0, .int 0, .int 0, .int 0, .int 0, .int 0, .int 0, .int 0, .int 0, .ref gn, .ref gf, .ref gp, .ref gs, .ref gr]))] t.heap ∧ va_D (va_A [(h0, .inr (2, [.int 0, .int 0, .int 0, .int 0, .int 0, .int 0, .int 0, .int 0, .int 0, .ref gn, .ref gf, .ref gp, .ref gs, .ref gr]))] sz) [(h0, .inr (2, [.int 0, .int 0, .int 0, .int 0, .int 0, .int 0, .int 0, .int 0, .int 0, .ref gn, .ref gf, .ref gp, .ref gs, .ref gr]))]) (va_A [(h0, .inr (2, [.int 0, .int 0, .int 0, .int 0, .int 0, .int 0, .int 0, .int 0, .int 0, .ref gn, .ref gf, .ref gp, .ref gs, .ref gr]))] sz)) 0 0 (va_A [(h0, .inr (2, [.int 0, .int 0, .int 0, .int 0, .int 0, .int 0, .int 0, .int 0, .int 0, .ref gn, .ref gf, .ref gp, .ref gs, .ref gr]))] sz) := by
  refine kEnter (by decide) (Nat.le_of_ble_eq_true rfl) ?_
  intro p e s m below meth c ls hx hb hr hml hown hlocks hin hwd hsz hP hK hD hl
  subst hsz
  generalize hAe : va_A [(h0, .inr (2, [.int 0, .int 0, .int 0, .int 0, .int 0, .int 0, .int 0, .int 0, .int 0, .ref gn, .ref gf, .ref gp, .ref gs, .ref gr]))] s.heap.size = A at hD ⊢
  have hA : ∀ q : Nat, s.heap.size ≤ q → A q := fun q h => by rw [← hAe]; exact Or.inr h
  have hS : va_S A s.heap s.heap [] := va_S.rf
  have hl : lv_has ls 2 [(0, .ref h0), (1, .int p0)] := hl
  refine lv_aload_n hx hb dX2_secondStep_0 rfl (lv_at hl 0 rfl) ?_
  refine va_get (D := (dC, dI)) (ci := 2) (v := .int 0) (C := RX2) (T := TX2) (N := 14) hx hb hwd inlX2 hown hK hP 0 rfl rfl 7 (by decide) (hwd _ kr10_6) (fun _ h9 => h9) rfl dX2_secondStep_1 ?_
  refine lv_iconst (v := 1) hx hb dX2_secondStep_4 (by decide) ?_
  refine lv_icmp_ge (tgt := 12) hx hb dX2_secondStep_5 (by decide) (fun c1 => absurd c1 (by decide)) (fun c1 => ?_)
  refine lv_iconst (v := 0) hx hb dX2_secondStep_8 (by decide) ?_
  refine lv_goto (tgt := 27) hx hb dX2_secondStep_9 (by decide) ?_
  have hP9 := hP.sub (ws' := [(h0, .inr (2, [.int 0, .int 0, .int 0, .int 0, .int 0, .int 0, .int 0, .int 0, .int 0, .ref gn, .ref gf, .ref gp, .ref gs, .ref gr]))]) [0] rfl
  have hD9 := hD.sub (ws' := [(h0, .inr (2, [.int 0, .int 0, .int 0, .int 0, .int 0, .int 0, .int 0, .int 0, .int 0, .ref gn, .ref gf, .ref gp, .ref gs, .ref gr]))]) [0] (by decide) rfl
  exact W.iret (v := 0) hx hb hr (fun t ht hW => ⟨⟨0, (), rfl, rfl, (by rw [ht]; exact hP9), hD9⟩, hS.F ht⟩) hS.2.2 dX2_secondStep_27
set_option maxHeartbeats 4000000 in
set_option maxRecDepth 100000 in
theorem c_X3_brokenBits (l : Launch) (dC : Nat → ClassId) (dI : Nat → Nat → Nat) (cI cZ cB cJ cM : ClassId) (h0 a0 a1 a2 a3 a4 a5 a6 : Nat) (sz : Nat) : Met l yX3_brokenBits (kw yX3_brokenBits cX3_brokenBits 3 (some .int)) ({ frames := 0, cells := 0, slots := 0, locals := 0 }) (va_Pc [.ref h0] (kPre dC dI [(cI, .int), (cZ, .boolean), (cB, .byte), (cJ, .long), (cM, .object RX2)] [(h0, .inr (3, [.int 0, .ref a0, .ref a1, .ref a2, .ref a3, .ref a4, .ref a5, .ref a6]))] sz)) (va_Qi (fun (r : Int32) (_ : Unit) => r = 0) (fun _ t => va_P (dC, dI) vwCl [(h0, .inr (3, [.int 0, .ref a0, .ref a1, .ref a2, .ref a3, .ref a4, .ref a5, .ref a6]))] t.heap ∧ va_D (va_A [(h0, .inr (3, [.int 0, .ref a0, .ref a1, .ref a2, .ref a3, .ref a4, .ref a5, .ref a6]))] sz) [(h0, .inr (3, [.int 0, .ref a0, .ref a1, .ref a2, .ref a3, .ref a4, .ref a5, .ref a6]))]) (va_A [(h0, .inr (3, [.int 0, .ref a0, .ref a1, .ref a2, .ref a3, .ref a4, .ref a5, .ref a6]))] sz)) 0 0 (va_A [(h0, .inr (3, [.int 0, .ref a0, .ref a1, .ref a2, .ref a3, .ref a4, .ref a5, .ref a6]))] sz) := by
  refine kEnter (by decide) (Nat.le_of_ble_eq_true rfl) ?_
  intro p e s m below meth c ls hx hb hr hml hown hlocks hin hwd hsz hP hK hD hl
  subst hsz
  generalize hAe : va_A [(h0, .inr (3, [.int 0, .ref a0, .ref a1, .ref a2, .ref a3, .ref a4, .ref a5, .ref a6]))] s.heap.size = A at hD ⊢
  have hA : ∀ q : Nat, s.heap.size ≤ q → A q := fun q h => by rw [← hAe]; exact Or.inr h
  have hS : va_S A s.heap s.heap [] := va_S.rf
  have hl : lv_has ls 3 [(0, .ref h0)] := hl
  refine lv_iconst (v := 0) hx hb dX3_brokenBits_0 (by decide) ?_
  refine lv_istore_n (lv' := [(1, .int 0), (0, .ref h0)]) hx hb dX3_brokenBits_1 rfl hl (by decide) rfl (fun ls hl => ?_)
  refine lv_iconst (v := 0) hx hb dX3_brokenBits_2 (by decide) ?_
  refine lv_istore_n (lv' := [(2, .int 0), (1, .int 0), (0, .ref h0)]) hx hb dX3_brokenBits_3 rfl hl (by decide) rfl (fun ls hl => ?_)
  refine lv_iload_n hx hb dX3_brokenBits_4 rfl (lv_at hl 0 rfl) ?_
  refine lv_aload_n hx hb dX3_brokenBits_5 rfl (lv_at hl 2 rfl) ?_
  refine va_get (D := (dC, dI)) (ci := 3) (v := .int 0) (C := RX3) (T := TX3) (N := 8) hx hb hwd inlX3 hown hK hP 0 rfl rfl 0 (by decide) (hwd _ kr16_6) (fun _ h9 => h9) rfl dX3_brokenBits_6 ?_
  refine lv_icmp_ge (tgt := 33) hx hb dX3_brokenBits_9 (by decide) (fun c1 => ?_) (fun c1 => absurd c1 (by decide))
  refine lv_iload_n hx hb dX3_brokenBits_33 rfl (lv_at hl 1 rfl) ?_
  have hP9 := hP.sub (ws' := [(h0, .inr (3, [.int 0, .ref a0, .ref a1, .ref a2, .ref a3, .ref a4, .ref a5, .ref a6]))]) [0] rfl
  have hD9 := hD.sub (ws' := [(h0, .inr (3, [.int 0, .ref a0, .ref a1, .ref a2, .ref a3, .ref a4, .ref a5, .ref a6]))]) [0] (by decide) rfl
  exact W.iret (v := 0) hx hb hr (fun t ht hW => ⟨⟨0, (), rfl, rfl, (by rw [ht]; exact hP9), hD9⟩, hS.F ht⟩) hS.2.2 dX3_brokenBits_34
end
section
theorem dX10_beginReading_0 : decode cX10_beginReading 0 = .ok (.aload_n 0, 1) := by decide +kernel
theorem dX10_beginReading_1 : decode cX10_beginReading 1 = .ok (.iconst 0, 1) := by decide +kernel
theorem dX10_beginReading_2 : decode cX10_beginReading 2 = .ok (.putfield 22, 3) := by decide +kernel
theorem dX10_beginReading_5 : decode cX10_beginReading 5 = .ok (.aload_n 0, 1) := by decide +kernel
theorem dX10_beginReading_6 : decode cX10_beginReading 6 = .ok (.iconst (-1), 1) := by decide +kernel
theorem dX10_beginReading_7 : decode cX10_beginReading 7 = .ok (.putfield 15, 3) := by decide +kernel
theorem dX10_beginReading_10 : decode cX10_beginReading 10 = .ok (.aload_n 0, 1) := by decide +kernel
theorem dX10_beginReading_11 : decode cX10_beginReading 11 = .ok (.iconst 0, 1) := by decide +kernel
theorem dX10_beginReading_12 : decode cX10_beginReading 12 = .ok (.putfield 25, 3) := by decide +kernel
theorem dX10_beginReading_15 : decode cX10_beginReading 15 = .ok (.aload_n 0, 1) := by decide +kernel
theorem dX10_beginReading_16 : decode cX10_beginReading 16 = .ok (.invokevirtual 28, 3) := by decide +kernel
theorem dX10_beginReading_19 : decode cX10_beginReading 19 = .ok (.return_, 1) := by decide +kernel
theorem dX10_behindBlanks_0 : decode cX10_behindBlanks 0 = .ok (.iload_n 1, 1) := by decide +kernel
theorem dX10_behindBlanks_1 : decode cX10_behindBlanks 1 = .ok (.istore_n 2, 1) := by decide +kernel
theorem dX10_behindBlanks_2 : decode cX10_behindBlanks 2 = .ok (.iload_n 2, 1) := by decide +kernel
theorem dX10_behindBlanks_3 : decode cX10_behindBlanks 3 = .ok (.aload_n 0, 1) := by decide +kernel
theorem dX10_behindBlanks_4 : decode cX10_behindBlanks 4 = .ok (.getfield 19, 3) := by decide +kernel
theorem dX10_behindBlanks_7 : decode cX10_behindBlanks 7 = .ok (.if_icmp .ge 31, 3) := by decide +kernel
theorem dX10_behindBlanks_38 : decode cX10_behindBlanks 38 = .ok (.iload_n 2, 1) := by decide +kernel
theorem dX10_behindBlanks_39 : decode cX10_behindBlanks 39 = .ok (.ireturn, 1) := by decide +kernel
theorem dX10_byteAt_0 : decode cX10_byteAt 0 = .ok (.iload_n 1, 1) := by decide +kernel
theorem dX10_byteAt_1 : decode cX10_byteAt 1 = .ok (.ifCond .lt 18, 3) := by decide +kernel
theorem dX10_byteAt_4 : decode cX10_byteAt 4 = .ok (.iload_n 1, 1) := by decide +kernel
theorem dX10_byteAt_5 : decode cX10_byteAt 5 = .ok (.aload_n 0, 1) := by decide +kernel
theorem dX10_byteAt_6 : decode cX10_byteAt 6 = .ok (.getfield 19, 3) := by decide +kernel
theorem dX10_byteAt_9 : decode cX10_byteAt 9 = .ok (.if_icmp .ge 10, 3) := by decide +kernel
theorem dX10_byteAt_19 : decode cX10_byteAt 19 = .ok (.iconst (-1), 1) := by decide +kernel
theorem dX10_byteAt_20 : decode cX10_byteAt 20 = .ok (.goto 13, 3) := by decide +kernel
theorem dX10_byteAt_33 : decode cX10_byteAt 33 = .ok (.ireturn, 1) := by decide +kernel
theorem dX10_goesOn_0 : decode cX10_goesOn 0 = .ok (.aload_n 0, 1) := by decide +kernel
theorem dX10_goesOn_1 : decode cX10_goesOn 1 = .ok (.getfield 22, 3) := by decide +kernel
theorem dX10_goesOn_4 : decode cX10_goesOn 4 = .ok (.ifCond .ne 14, 3) := by decide +kernel
theorem dX10_goesOn_7 : decode cX10_goesOn 7 = .ok (.aload_n 0, 1) := by decide +kernel
theorem dX10_goesOn_8 : decode cX10_goesOn 8 = .ok (.getfield 31, 3) := by decide +kernel
theorem dX10_goesOn_11 : decode cX10_goesOn 11 = .ok (.ifCond .eq 7, 3) := by decide +kernel
theorem dX10_goesOn_18 : decode cX10_goesOn 18 = .ok (.iconst 0, 1) := by decide +kernel
theorem dX10_goesOn_19 : decode cX10_goesOn 19 = .ok (.ireturn, 1) := by decide +kernel
theorem dX10_hasRoom_0 : decode cX10_hasRoom 0 = .ok (.aload_n 0, 1) := by decide +kernel
theorem dX10_hasRoom_1 : decode cX10_hasRoom 1 = .ok (.getfield 19, 3) := by decide +kernel
theorem dX10_hasRoom_4 : decode cX10_hasRoom 4 = .ok (.sipush 1580, 3) := by decide +kernel
theorem dX10_hasRoom_7 : decode cX10_hasRoom 7 = .ok (.if_icmp .gt 7, 3) := by decide +kernel
theorem dX10_hasRoom_10 : decode cX10_hasRoom 10 = .ok (.iconst 1, 1) := by decide +kernel
theorem dX10_hasRoom_11 : decode cX10_hasRoom 11 = .ok (.goto 4, 3) := by decide +kernel
theorem dX10_hasRoom_15 : decode cX10_hasRoom 15 = .ok (.ireturn, 1) := by decide +kernel
theorem dX10_put_0 : decode cX10_put 0 = .ok (.bipush 24, 2) := by decide +kernel
theorem dX10_put_2 : decode cX10_put 2 = .ok (.istore_n 2, 1) := by decide +kernel
theorem dX10_put_3 : decode cX10_put 3 = .ok (.iload_n 2, 1) := by decide +kernel
theorem dX10_put_4 : decode cX10_put 4 = .ok (.ifCond .lt 42, 3) := by decide +kernel
theorem dX10_put_7 : decode cX10_put 7 = .ok (.aload_n 0, 1) := by decide +kernel
theorem dX10_put_8 : decode cX10_put 8 = .ok (.getfield 19, 3) := by decide +kernel
theorem dX10_put_11 : decode cX10_put 11 = .ok (.sipush 1600, 3) := by decide +kernel
theorem dX10_put_14 : decode cX10_put 14 = .ok (.if_icmp .ge 26, 3) := by decide +kernel
theorem dX10_put_17 : decode cX10_put 17 = .ok (.aload_n 0, 1) := by decide +kernel
theorem dX10_put_18 : decode cX10_put 18 = .ok (.getfield 11, 3) := by decide +kernel
theorem dX10_put_21 : decode cX10_put 21 = .ok (.aload_n 0, 1) := by decide +kernel
theorem dX10_put_22 : decode cX10_put 22 = .ok (.getfield 19, 3) := by decide +kernel
theorem dX10_put_25 : decode cX10_put 25 = .ok (.iload_n 1, 1) := by decide +kernel
theorem dX10_put_26 : decode cX10_put 26 = .ok (.iload_n 2, 1) := by decide +kernel
theorem dX10_put_27 : decode cX10_put 27 = .ok (.iushr, 1) := by decide +kernel
theorem dX10_put_28 : decode cX10_put 28 = .ok (.i2b, 1) := by decide +kernel
theorem dX10_put_29 : decode cX10_put 29 = .ok (.bastore, 1) := by decide +kernel
theorem dX10_put_30 : decode cX10_put 30 = .ok (.aload_n 0, 1) := by decide +kernel
theorem dX10_put_31 : decode cX10_put 31 = .ok (.dup, 1) := by decide +kernel
theorem dX10_put_32 : decode cX10_put 32 = .ok (.getfield 19, 3) := by decide +kernel
theorem dX10_put_35 : decode cX10_put 35 = .ok (.iconst 1, 1) := by decide +kernel
theorem dX10_put_36 : decode cX10_put 36 = .ok (.iadd, 1) := by decide +kernel
theorem dX10_put_37 : decode cX10_put 37 = .ok (.putfield 19, 3) := by decide +kernel
theorem dX10_put_40 : decode cX10_put 40 = .ok (.iinc 2 (-8), 3) := by decide +kernel
theorem dX10_put_43 : decode cX10_put 43 = .ok (.goto (-40), 3) := by decide +kernel
theorem dX10_put_46 : decode cX10_put 46 = .ok (.return_, 1) := by decide +kernel
theorem dX10_readToken_0 : decode cX10_readToken 0 = .ok (.aload_n 0, 1) := by decide +kernel
theorem dX10_readToken_1 : decode cX10_readToken 1 = .ok (.aload_n 0, 1) := by decide +kernel
theorem dX10_readToken_2 : decode cX10_readToken 2 = .ok (.aload_n 0, 1) := by decide +kernel
theorem dX10_readToken_3 : decode cX10_readToken 3 = .ok (.getfield 25, 3) := by decide +kernel
theorem dX10_readToken_6 : decode cX10_readToken 6 = .ok (.invokevirtual 37, 3) := by decide +kernel
theorem dX10_readToken_9 : decode cX10_readToken 9 = .ok (.putfield 34, 3) := by decide +kernel
theorem dX10_readToken_12 : decode cX10_readToken 12 = .ok (.aload_n 0, 1) := by decide +kernel
theorem dX10_readToken_13 : decode cX10_readToken 13 = .ok (.aload_n 0, 1) := by decide +kernel
theorem dX10_readToken_14 : decode cX10_readToken 14 = .ok (.getfield 34, 3) := by decide +kernel
theorem dX10_readToken_17 : decode cX10_readToken 17 = .ok (.invokevirtual 41, 3) := by decide +kernel
theorem dX10_readToken_20 : decode cX10_readToken 20 = .ok (.istore_n 1, 1) := by decide +kernel
theorem dX10_readToken_21 : decode cX10_readToken 21 = .ok (.iload_n 1, 1) := by decide +kernel
theorem dX10_readToken_22 : decode cX10_readToken 22 = .ok (.iconst (-1), 1) := by decide +kernel
theorem dX10_readToken_23 : decode cX10_readToken 23 = .ok (.if_icmp .ne 19, 3) := by decide +kernel
theorem dX10_readToken_26 : decode cX10_readToken 26 = .ok (.aload_n 0, 1) := by decide +kernel
theorem dX10_readToken_27 : decode cX10_readToken 27 = .ok (.iconst 0, 1) := by decide +kernel
theorem dX10_readToken_28 : decode cX10_readToken 28 = .ok (.putfield 31, 3) := by decide +kernel
theorem dX10_readToken_31 : decode cX10_readToken 31 = .ok (.aload_n 0, 1) := by decide +kernel
theorem dX10_readToken_32 : decode cX10_readToken 32 = .ok (.aload_n 0, 1) := by decide +kernel
theorem dX10_readToken_33 : decode cX10_readToken 33 = .ok (.getfield 34, 3) := by decide +kernel
theorem dX10_readToken_36 : decode cX10_readToken 36 = .ok (.putfield 25, 3) := by decide +kernel
theorem dX10_readToken_39 : decode cX10_readToken 39 = .ok (.goto 94, 3) := by decide +kernel
theorem dX10_readToken_133 : decode cX10_readToken 133 = .ok (.return_, 1) := by decide +kernel
set_option maxHeartbeats 4000000 in
set_option maxRecDepth 100000 in
theorem c_X10_hasRoom (l : Launch) (dC : Nat → ClassId) (dI : Nat → Nat → Nat) (cI cZ cB cJ cM : ClassId) (h0 a0 : Nat) (sz : Nat) : Met l yX10_hasRoom (kw yX10_hasRoom cX10_hasRoom 1 (some .boolean)) ({ frames := 0, cells := 0, slots := 0, locals := 0 }) (va_Pc [.ref h0] (kPre dC dI [(cI, .int), (cZ, .boolean), (cB, .byte), (cJ, .long), (cM, .object RX2)] [(h0, .inr (10, [.ref a0, .int 0, .int 0, .int (-1), .int 0, .int 0, .int 0, .int 0]))] sz)) (va_Qi (fun (r : Int32) (_ : Unit) => r = 1) (fun _ t => va_P (dC, dI) vwCl [(h0, .inr (10, [.ref a0, .int 0, .int 0, .int (-1), .int 0, .int 0, .int 0, .int 0]))] t.heap ∧ va_D (va_A [(h0, .inr (10, [.ref a0, .int 0, .int 0, .int (-1), .int 0, .int 0, .int 0, .int 0]))] sz) [(h0, .inr (10, [.ref a0, .int 0, .int 0, .int (-1), .int 0, .int 0, .int 0, .int 0]))]) (va_A [(h0, .inr (10, [.ref a0, .int 0, .int 0, .int (-1), .int 0, .int 0, .int 0, .int 0]))] sz)) 0 0 (va_A [(h0, .inr (10, [.ref a0, .int 0, .int 0, .int (-1), .int 0, .int 0, .int 0, .int 0]))] sz) := by
  refine kEnter (by decide) (Nat.le_of_ble_eq_true rfl) ?_
  intro p e s m below meth c ls hx hb hr hml hown hlocks hin hwd hsz hP hK hD hl
  subst hsz
  generalize hAe : va_A [(h0, .inr (10, [.ref a0, .int 0, .int 0, .int (-1), .int 0, .int 0, .int 0, .int 0]))] s.heap.size = A at hD ⊢
  have hA : ∀ q : Nat, s.heap.size ≤ q → A q := fun q h => by rw [← hAe]; exact Or.inr h
  have hS : va_S A s.heap s.heap [] := va_S.rf
  have hl : lv_has ls 1 [(0, .ref h0)] := hl
  refine lv_aload_n hx hb dX10_hasRoom_0 rfl (lv_at hl 0 rfl) ?_
  refine va_get (D := (dC, dI)) (ci := 10) (v := .int 0) (C := RX10) (T := TX10) (N := 8) hx hb hwd inlX10 hown hK hP 0 rfl rfl 1 (by decide) (hwd _ kr8_16) (fun _ h9 => h9) rfl dX10_hasRoom_1 ?_
  refine lv_sipush (v := 1580) hx hb dX10_hasRoom_4 (by decide) ?_
  refine lv_icmp_gt (tgt := 14) hx hb dX10_hasRoom_7 (by decide) (fun c1 => absurd c1 (by decide)) (fun c1 => ?_)
  refine lv_iconst (v := 1) hx hb dX10_hasRoom_10 (by decide) ?_
  refine lv_goto (tgt := 15) hx hb dX10_hasRoom_11 (by decide) ?_
  have hP9 := hP.sub (ws' := [(h0, .inr (10, [.ref a0, .int 0, .int 0, .int (-1), .int 0, .int 0, .int 0, .int 0]))]) [0] rfl
  have hD9 := hD.sub (ws' := [(h0, .inr (10, [.ref a0, .int 0, .int 0, .int (-1), .int 0, .int 0, .int 0, .int 0]))]) [0] (by decide) rfl
  exact W.zret (v := 1) hx hb hr (by decide) (fun t ht hW => ⟨⟨1, (), rfl, rfl, (by rw [ht]; exact hP9), hD9⟩, hS.F ht⟩) hS.2.2 dX10_hasRoom_15
set_option maxHeartbeats 4000000 in
set_option maxRecDepth 100000 in
theorem c_X10_put_0 (l : Launch) (dC : Nat → ClassId) (dI : Nat → Nat → Nat) (cI cZ cB cJ cM : ClassId) (h0 a0 : Nat) (f0 : Nat → Int32) (p0 : Int32) (sz : Nat) : Met l yX10_put (kw yX10_put cX10_put 3 none) ({ frames := 0, cells := 0, slots := 0, locals := 0 }) (va_Pc [.ref h0, .int p0] (kPre dC dI [(cI, .int), (cZ, .boolean), (cB, .byte), (cJ, .long), (cM, .object RX2)] [(h0, .inr (10, [.ref a0, .int 0, .int 0, .int (-1), .int 0, .int 0, .int 0, .int 0])), (a0, .inl (cB, 1600, .inl f0))] sz)) (va_Qv (fun _ : (Nat → Int32) => True) (fun u t => va_P (dC, dI) vwCl [(h0, .inr (10, [.ref a0, .int 4, .int 0, .int (-1), .int 0, .int 0, .int 0, .int 0])), (a0, .inl (cB, 1600, .inl u))] t.heap ∧ va_D (va_A [(h0, .inr (10, [.ref a0, .int 0, .int 0, .int (-1), .int 0, .int 0, .int 0, .int 0])), (a0, .inl (cB, 1600, .inl f0))] sz) [(h0, .inr (10, [.ref a0, .int 4, .int 0, .int (-1), .int 0, .int 0, .int 0, .int 0])), (a0, .inl (cB, 1600, .inl u))]) (va_A [(h0, .inr (10, [.ref a0, .int 0, .int 0, .int (-1), .int 0, .int 0, .int 0, .int 0])), (a0, .inl (cB, 1600, .inl f0))] sz)) 0 0 (va_A [(h0, .inr (10, [.ref a0, .int 0, .int 0, .int (-1), .int 0, .int 0, .int 0, .int 0])), (a0, .inl (cB, 1600, .inl f0))] sz) := by
  refine kEnter (by decide) (Nat.le_of_ble_eq_true rfl) ?_
  intro p e s m below meth c ls hx hb hr hml hown hlocks hin hwd hsz hP hK hD hl
  subst hsz
  generalize hAe : va_A [(h0, .inr (10, [.ref a0, .int 0, .int 0, .int (-1), .int 0, .int 0, .int 0, .int 0])), (a0, .inl (cB, 1600, .inl f0))] s.heap.size = A at hD ⊢
  have hA : ∀ q : Nat, s.heap.size ≤ q → A q := fun q h => by rw [← hAe]; exact Or.inr h
  have hS : va_S A s.heap s.heap [] := va_S.rf
  have hl : lv_has ls 3 [(0, .ref h0), (1, .int p0)] := hl
  refine lv_bipush (v := 24) hx hb dX10_put_0 (by decide) ?_
  refine lv_istore_n (lv' := [(2, .int 24), (0, .ref h0), (1, .int p0)]) hx hb dX10_put_2 rfl hl (by decide) rfl (fun ls hl => ?_)
  refine lv_iload_n hx hb dX10_put_3 rfl (lv_at hl 0 rfl) ?_
  refine lv_if_lt (tgt := 46) hx hb dX10_put_4 (by decide) (fun c1 => absurd c1 (by decide)) (fun c1 => ?_)
  refine lv_aload_n hx hb dX10_put_7 rfl (lv_at hl 1 rfl) ?_
  refine va_get (D := (dC, dI)) (ci := 10) (v := .int 0) (C := RX10) (T := TX10) (N := 8) hx hb hwd inlX10 hown hK hP 0 rfl rfl 1 (by decide) (hwd _ kr8_16) (fun _ h9 => h9) rfl dX10_put_8 ?_
  refine lv_sipush (v := 1600) hx hb dX10_put_11 (by decide) ?_
  refine lv_icmp_ge (tgt := 40) hx hb dX10_put_14 (by decide) (fun c2 => absurd c2 (by decide)) (fun c2 => ?_)
  refine lv_aload_n hx hb dX10_put_17 rfl (lv_at hl 1 rfl) ?_
  refine va_get (D := (dC, dI)) (ci := 10) (v := .ref a0) (C := RX10) (T := TX10) (N := 8) hx hb hwd inlX10 hown hK hP 0 rfl rfl 0 (by decide) (hwd _ kr3_1) (fun _ h9 => h9) rfl dX10_put_18 ?_
  refine lv_aload_n hx hb dX10_put_21 rfl (lv_at hl 1 rfl) ?_
  refine va_get (D := (dC, dI)) (ci := 10) (v := .int 0) (C := RX10) (T := TX10) (N := 8) hx hb hwd inlX10 hown hK hP 0 rfl rfl 1 (by decide) (hwd _ kr8_16) (fun _ h9 => h9) rfl dX10_put_22 ?_
  refine lv_iload_n hx hb dX10_put_25 rfl (lv_at hl 2 rfl) ?_
  refine lv_iload_n hx hb dX10_put_26 rfl (lv_at hl 0 rfl) ?_
  refine lv_iushr hx hb dX10_put_27 rfl ?_
  refine lv_topi (fun x3 ex3 => ?_)
  refine lv_i2b hx hb dX10_put_28 rfl ?_
  refine lv_topi (fun x4 ex4 => ?_)
  refine va_bast hx hb hK hP hD hS 1 2 rfl rfl (vin (by decide)) dX10_put_29 (fun H locs hP hD hS => ?_)
  obtain ⟨f5, ef5⟩ : ∃ f, f = upd f0 (0 : Int32).toNatClampNeg (vp_nar .byte x4) := ⟨_, rfl⟩
  have hP : va_P (dC, dI) vwCl [(h0, .inr (10, [.ref a0, .int 0, .int 0, .int (-1), .int 0, .int 0, .int 0, .int 0])), (a0, .inl (cB, 1600, .inl f5))] H := by rw [ef5]; exact hP
  have hD : va_D A [(h0, .inr (10, [.ref a0, .int 0, .int 0, .int (-1), .int 0, .int 0, .int 0, .int 0])), (a0, .inl (cB, 1600, .inl f5))] := by rw [ef5]; exact hD
  refine lv_aload_n hx hb dX10_put_30 rfl (lv_at hl 1 rfl) ?_
  refine lv_dup hx hb dX10_put_31 rfl ?_
  refine va_get (D := (dC, dI)) (ci := 10) (v := .int 0) (C := RX10) (T := TX10) (N := 8) hx hb hwd inlX10 hown hK hP 0 rfl rfl 1 (by decide) (hwd _ kr8_16) (fun _ h9 => h9) rfl dX10_put_32 ?_
  refine lv_iconst (v := 1) hx hb dX10_put_35 (by decide) ?_
  refine lv_iadd hx hb dX10_put_36 ?_
  refine lv_topi (nm_r (e' := (1)) (by decide +kernel) ?_)
  refine va_put (D := (dC, dI)) (ci := 10) (v := .int 1) (ty := .int) (C := RX10) (T := TX10) (N := 8) hx hb hwd inlX10 tyX10 tyX10_ok nmX10 hown hK hP hD hS 0 rfl rfl 1 (by decide) (hwd _ kr8_16) (fun _ h9 => h9) rfl (by decide +kernel) rfl rfl (Nat.le_of_ble_eq_true rfl) dX10_put_37 (fun H locs hP hD hS => ?_)
  have hP : va_P (dC, dI) vwCl [(h0, .inr (10, [.ref a0, .int 1, .int 0, .int (-1), .int 0, .int 0, .int 0, .int 0])), (a0, .inl (cB, 1600, .inl f5))] H := hP
  have hD : va_D A [(h0, .inr (10, [.ref a0, .int 1, .int 0, .int (-1), .int 0, .int 0, .int 0, .int 0])), (a0, .inl (cB, 1600, .inl f5))] := hD
  refine lv_iinc (v := 16) (lv' := [(2, .int 16), (0, .ref h0), (1, .int p0)]) hx hb dX10_put_40 hl (k := 0) rfl (by decide) (by decide) rfl (fun ls hl => ?_)
  refine lv_goto (tgt := 3) hx hb dX10_put_43 (by decide) ?_
  refine lv_iload_n hx hb dX10_put_3 rfl (lv_at hl 0 rfl) ?_
  refine lv_if_lt (tgt := 46) hx hb dX10_put_4 (by decide) (fun c6 => absurd c6 (by decide)) (fun c6 => ?_)
  refine lv_aload_n hx hb dX10_put_7 rfl (lv_at hl 1 rfl) ?_
  refine va_get (D := (dC, dI)) (ci := 10) (v := .int 1) (C := RX10) (T := TX10) (N := 8) hx hb hwd inlX10 hown hK hP 0 rfl rfl 1 (by decide) (hwd _ kr8_16) (fun _ h9 => h9) rfl dX10_put_8 ?_
  refine lv_sipush (v := 1600) hx hb dX10_put_11 (by decide) ?_
  refine lv_icmp_ge (tgt := 40) hx hb dX10_put_14 (by decide) (fun c7 => absurd c7 (by decide)) (fun c7 => ?_)
  refine lv_aload_n hx hb dX10_put_17 rfl (lv_at hl 1 rfl) ?_
  refine va_get (D := (dC, dI)) (ci := 10) (v := .ref a0) (C := RX10) (T := TX10) (N := 8) hx hb hwd inlX10 hown hK hP 0 rfl rfl 0 (by decide) (hwd _ kr3_1) (fun _ h9 => h9) rfl dX10_put_18 ?_
  refine lv_aload_n hx hb dX10_put_21 rfl (lv_at hl 1 rfl) ?_
  refine va_get (D := (dC, dI)) (ci := 10) (v := .int 1) (C := RX10) (T := TX10) (N := 8) hx hb hwd inlX10 hown hK hP 0 rfl rfl 1 (by decide) (hwd _ kr8_16) (fun _ h9 => h9) rfl dX10_put_22 ?_
  refine lv_iload_n hx hb dX10_put_25 rfl (lv_at hl 2 rfl) ?_
  refine lv_iload_n hx hb dX10_put_26 rfl (lv_at hl 0 rfl) ?_
  refine lv_iushr hx hb dX10_put_27 rfl ?_
  refine lv_topi (fun x8 ex8 => ?_)
  refine lv_i2b hx hb dX10_put_28 rfl ?_
  refine lv_topi (fun x9 ex9 => ?_)
  refine va_bast hx hb hK hP hD hS 1 2 rfl rfl (vin (by decide)) dX10_put_29 (fun H locs hP hD hS => ?_)
  obtain ⟨f10, ef10⟩ : ∃ f, f = upd f5 (1 : Int32).toNatClampNeg (vp_nar .byte x9) := ⟨_, rfl⟩
  have hP : va_P (dC, dI) vwCl [(h0, .inr (10, [.ref a0, .int 1, .int 0, .int (-1), .int 0, .int 0, .int 0, .int 0])), (a0, .inl (cB, 1600, .inl f10))] H := by rw [ef10]; exact hP
  have hD : va_D A [(h0, .inr (10, [.ref a0, .int 1, .int 0, .int (-1), .int 0, .int 0, .int 0, .int 0])), (a0, .inl (cB, 1600, .inl f10))] := by rw [ef10]; exact hD
  refine lv_aload_n hx hb dX10_put_30 rfl (lv_at hl 1 rfl) ?_
  refine lv_dup hx hb dX10_put_31 rfl ?_
  refine va_get (D := (dC, dI)) (ci := 10) (v := .int 1) (C := RX10) (T := TX10) (N := 8) hx hb hwd inlX10 hown hK hP 0 rfl rfl 1 (by decide) (hwd _ kr8_16) (fun _ h9 => h9) rfl dX10_put_32 ?_
  refine lv_iconst (v := 1) hx hb dX10_put_35 (by decide) ?_
  refine lv_iadd hx hb dX10_put_36 ?_
  refine lv_topi (nm_r (e' := (2)) (by decide +kernel) ?_)
  refine va_put (D := (dC, dI)) (ci := 10) (v := .int 2) (ty := .int) (C := RX10) (T := TX10) (N := 8) hx hb hwd inlX10 tyX10 tyX10_ok nmX10 hown hK hP hD hS 0 rfl rfl 1 (by decide) (hwd _ kr8_16) (fun _ h9 => h9) rfl (by decide +kernel) rfl rfl (Nat.le_of_ble_eq_true rfl) dX10_put_37 (fun H locs hP hD hS => ?_)
  have hP : va_P (dC, dI) vwCl [(h0, .inr (10, [.ref a0, .int 2, .int 0, .int (-1), .int 0, .int 0, .int 0, .int 0])), (a0, .inl (cB, 1600, .inl f10))] H := hP
  have hD : va_D A [(h0, .inr (10, [.ref a0, .int 2, .int 0, .int (-1), .int 0, .int 0, .int 0, .int 0])), (a0, .inl (cB, 1600, .inl f10))] := hD
  refine lv_iinc (v := 8) (lv' := [(2, .int 8), (0, .ref h0), (1, .int p0)]) hx hb dX10_put_40 hl (k := 0) rfl (by decide) (by decide) rfl (fun ls hl => ?_)
  refine lv_goto (tgt := 3) hx hb dX10_put_43 (by decide) ?_
  refine lv_iload_n hx hb dX10_put_3 rfl (lv_at hl 0 rfl) ?_
  refine lv_if_lt (tgt := 46) hx hb dX10_put_4 (by decide) (fun c11 => absurd c11 (by decide)) (fun c11 => ?_)
  refine lv_aload_n hx hb dX10_put_7 rfl (lv_at hl 1 rfl) ?_
  refine va_get (D := (dC, dI)) (ci := 10) (v := .int 2) (C := RX10) (T := TX10) (N := 8) hx hb hwd inlX10 hown hK hP 0 rfl rfl 1 (by decide) (hwd _ kr8_16) (fun _ h9 => h9) rfl dX10_put_8 ?_
  refine lv_sipush (v := 1600) hx hb dX10_put_11 (by decide) ?_
  refine lv_icmp_ge (tgt := 40) hx hb dX10_put_14 (by decide) (fun c12 => absurd c12 (by decide)) (fun c12 => ?_)
  refine lv_aload_n hx hb dX10_put_17 rfl (lv_at hl 1 rfl) ?_
  refine va_get (D := (dC, dI)) (ci := 10) (v := .ref a0) (C := RX10) (T := TX10) (N := 8) hx hb hwd inlX10 hown hK hP 0 rfl rfl 0 (by decide) (hwd _ kr3_1) (fun _ h9 => h9) rfl dX10_put_18 ?_
  refine lv_aload_n hx hb dX10_put_21 rfl (lv_at hl 1 rfl) ?_
  refine va_get (D := (dC, dI)) (ci := 10) (v := .int 2) (C := RX10) (T := TX10) (N := 8) hx hb hwd inlX10 hown hK hP 0 rfl rfl 1 (by decide) (hwd _ kr8_16) (fun _ h9 => h9) rfl dX10_put_22 ?_
  refine lv_iload_n hx hb dX10_put_25 rfl (lv_at hl 2 rfl) ?_
  refine lv_iload_n hx hb dX10_put_26 rfl (lv_at hl 0 rfl) ?_
  refine lv_iushr hx hb dX10_put_27 rfl ?_
  refine lv_topi (fun x13 ex13 => ?_)
  refine lv_i2b hx hb dX10_put_28 rfl ?_
  refine lv_topi (fun x14 ex14 => ?_)
  refine va_bast hx hb hK hP hD hS 1 2 rfl rfl (vin (by decide)) dX10_put_29 (fun H locs hP hD hS => ?_)
  obtain ⟨f15, ef15⟩ : ∃ f, f = upd f10 (2 : Int32).toNatClampNeg (vp_nar .byte x14) := ⟨_, rfl⟩
  have hP : va_P (dC, dI) vwCl [(h0, .inr (10, [.ref a0, .int 2, .int 0, .int (-1), .int 0, .int 0, .int 0, .int 0])), (a0, .inl (cB, 1600, .inl f15))] H := by rw [ef15]; exact hP
  have hD : va_D A [(h0, .inr (10, [.ref a0, .int 2, .int 0, .int (-1), .int 0, .int 0, .int 0, .int 0])), (a0, .inl (cB, 1600, .inl f15))] := by rw [ef15]; exact hD
  refine lv_aload_n hx hb dX10_put_30 rfl (lv_at hl 1 rfl) ?_
  refine lv_dup hx hb dX10_put_31 rfl ?_
  refine va_get (D := (dC, dI)) (ci := 10) (v := .int 2) (C := RX10) (T := TX10) (N := 8) hx hb hwd inlX10 hown hK hP 0 rfl rfl 1 (by decide) (hwd _ kr8_16) (fun _ h9 => h9) rfl dX10_put_32 ?_
  refine lv_iconst (v := 1) hx hb dX10_put_35 (by decide) ?_
  refine lv_iadd hx hb dX10_put_36 ?_
  refine lv_topi (nm_r (e' := (3)) (by decide +kernel) ?_)
  refine va_put (D := (dC, dI)) (ci := 10) (v := .int 3) (ty := .int) (C := RX10) (T := TX10) (N := 8) hx hb hwd inlX10 tyX10 tyX10_ok nmX10 hown hK hP hD hS 0 rfl rfl 1 (by decide) (hwd _ kr8_16) (fun _ h9 => h9) rfl (by decide +kernel) rfl rfl (Nat.le_of_ble_eq_true rfl) dX10_put_37 (fun H locs hP hD hS => ?_)
  have hP : va_P (dC, dI) vwCl [(h0, .inr (10, [.ref a0, .int 3, .int 0, .int (-1), .int 0, .int 0, .int 0, .int 0])), (a0, .inl (cB, 1600, .inl f15))] H := hP
  have hD : va_D A [(h0, .inr (10, [.ref a0, .int 3, .int 0, .int (-1), .int 0, .int 0, .int 0, .int 0])), (a0, .inl (cB, 1600, .inl f15))] := hD
  refine lv_iinc (v := 0) (lv' := [(2, .int 0), (0, .ref h0), (1, .int p0)]) hx hb dX10_put_40 hl (k := 0) rfl (by decide) (by decide) rfl (fun ls hl => ?_)
  refine lv_goto (tgt := 3) hx hb dX10_put_43 (by decide) ?_
  refine lv_iload_n hx hb dX10_put_3 rfl (lv_at hl 0 rfl) ?_
  refine lv_if_lt (tgt := 46) hx hb dX10_put_4 (by decide) (fun c16 => absurd c16 (by decide)) (fun c16 => ?_)
  refine lv_aload_n hx hb dX10_put_7 rfl (lv_at hl 1 rfl) ?_
  refine va_get (D := (dC, dI)) (ci := 10) (v := .int 3) (C := RX10) (T := TX10) (N := 8) hx hb hwd inlX10 hown hK hP 0 rfl rfl 1 (by decide) (hwd _ kr8_16) (fun _ h9 => h9) rfl dX10_put_8 ?_
  refine lv_sipush (v := 1600) hx hb dX10_put_11 (by decide) ?_
  refine lv_icmp_ge (tgt := 40) hx hb dX10_put_14 (by decide) (fun c17 => absurd c17 (by decide)) (fun c17 => ?_)
  refine lv_aload_n hx hb dX10_put_17 rfl (lv_at hl 1 rfl) ?_
  refine va_get (D := (dC, dI)) (ci := 10) (v := .ref a0) (C := RX10) (T := TX10) (N := 8) hx hb hwd inlX10 hown hK hP 0 rfl rfl 0 (by decide) (hwd _ kr3_1) (fun _ h9 => h9) rfl dX10_put_18 ?_
  refine lv_aload_n hx hb dX10_put_21 rfl (lv_at hl 1 rfl) ?_
  refine va_get (D := (dC, dI)) (ci := 10) (v := .int 3) (C := RX10) (T := TX10) (N := 8) hx hb hwd inlX10 hown hK hP 0 rfl rfl 1 (by decide) (hwd _ kr8_16) (fun _ h9 => h9) rfl dX10_put_22 ?_
  refine lv_iload_n hx hb dX10_put_25 rfl (lv_at hl 2 rfl) ?_
  refine lv_iload_n hx hb dX10_put_26 rfl (lv_at hl 0 rfl) ?_
  refine lv_iushr hx hb dX10_put_27 rfl ?_
  refine lv_topi (fun x18 ex18 => ?_)
  refine lv_i2b hx hb dX10_put_28 rfl ?_
  refine lv_topi (fun x19 ex19 => ?_)
  refine va_bast hx hb hK hP hD hS 1 2 rfl rfl (vin (by decide)) dX10_put_29 (fun H locs hP hD hS => ?_)
  obtain ⟨f20, ef20⟩ : ∃ f, f = upd f15 (3 : Int32).toNatClampNeg (vp_nar .byte x19) := ⟨_, rfl⟩
  have hP : va_P (dC, dI) vwCl [(h0, .inr (10, [.ref a0, .int 3, .int 0, .int (-1), .int 0, .int 0, .int 0, .int 0])), (a0, .inl (cB, 1600, .inl f20))] H := by rw [ef20]; exact hP
  have hD : va_D A [(h0, .inr (10, [.ref a0, .int 3, .int 0, .int (-1), .int 0, .int 0, .int 0, .int 0])), (a0, .inl (cB, 1600, .inl f20))] := by rw [ef20]; exact hD
  refine lv_aload_n hx hb dX10_put_30 rfl (lv_at hl 1 rfl) ?_
  refine lv_dup hx hb dX10_put_31 rfl ?_
  refine va_get (D := (dC, dI)) (ci := 10) (v := .int 3) (C := RX10) (T := TX10) (N := 8) hx hb hwd inlX10 hown hK hP 0 rfl rfl 1 (by decide) (hwd _ kr8_16) (fun _ h9 => h9) rfl dX10_put_32 ?_
  refine lv_iconst (v := 1) hx hb dX10_put_35 (by decide) ?_
  refine lv_iadd hx hb dX10_put_36 ?_
  refine lv_topi (nm_r (e' := (4)) (by decide +kernel) ?_)
  refine va_put (D := (dC, dI)) (ci := 10) (v := .int 4) (ty := .int) (C := RX10) (T := TX10) (N := 8) hx hb hwd inlX10 tyX10 tyX10_ok nmX10 hown hK hP hD hS 0 rfl rfl 1 (by decide) (hwd _ kr8_16) (fun _ h9 => h9) rfl (by decide +kernel) rfl rfl (Nat.le_of_ble_eq_true rfl) dX10_put_37 (fun H locs hP hD hS => ?_)
  have hP : va_P (dC, dI) vwCl [(h0, .inr (10, [.ref a0, .int 4, .int 0, .int (-1), .int 0, .int 0, .int 0, .int 0])), (a0, .inl (cB, 1600, .inl f20))] H := hP
  have hD : va_D A [(h0, .inr (10, [.ref a0, .int 4, .int 0, .int (-1), .int 0, .int 0, .int 0, .int 0])), (a0, .inl (cB, 1600, .inl f20))] := hD
  refine lv_iinc (v := (-8)) (lv' := [(2, .int (-8)), (0, .ref h0), (1, .int p0)]) hx hb dX10_put_40 hl (k := 0) rfl (by decide) (by decide) rfl (fun ls hl => ?_)
  refine lv_goto (tgt := 3) hx hb dX10_put_43 (by decide) ?_
  refine lv_iload_n hx hb dX10_put_3 rfl (lv_at hl 0 rfl) ?_
  refine lv_if_lt (tgt := 46) hx hb dX10_put_4 (by decide) (fun c21 => ?_) (fun c21 => absurd c21 (by decide))
  have hP9 := hP.sub (ws' := [(h0, .inr (10, [.ref a0, .int 4, .int 0, .int (-1), .int 0, .int 0, .int 0, .int 0])), (a0, .inl (cB, 1600, .inl f20))]) [0, 1] rfl
  have hD9 := hD.sub (ws' := [(h0, .inr (10, [.ref a0, .int 4, .int 0, .int (-1), .int 0, .int 0, .int 0, .int 0])), (a0, .inl (cB, 1600, .inl f20))]) [0, 1] (by decide) rfl
  exact W.vret hx hb hr (fun t ht hW => ⟨⟨f20, rfl, trivial, (by rw [ht]; exact hP9), hD9⟩, hS.F ht⟩) hS.2.2 dX10_put_46
set_option maxHeartbeats 4000000 in
set_option maxRecDepth 100000 in
theorem c_X10_put_4 (l : Launch) (dC : Nat → ClassId) (dI : Nat → Nat → Nat) (cI cZ cB cJ cM : ClassId) (h0 a0 : Nat) (f0 : Nat → Int32) (p0 : Int32) (sz : Nat) : Met l yX10_put (kw yX10_put cX10_put 3 none) ({ frames := 0, cells := 0, slots := 0, locals := 0 }) (va_Pc [.ref h0, .int p0] (kPre dC dI [(cI, .int), (cZ, .boolean), (cB, .byte), (cJ, .long), (cM, .object RX2)] [(h0, .inr (10, [.ref a0, .int 4, .int 0, .int (-1), .int 0, .int 0, .int 0, .int 0])), (a0, .inl (cB, 1600, .inl f0))] sz)) (va_Qv (fun _ : (Nat → Int32) => True) (fun u t => va_P (dC, dI) vwCl [(h0, .inr (10, [.ref a0, .int 8, .int 0, .int (-1), .int 0, .int 0, .int 0, .int 0])), (a0, .inl (cB, 1600, .inl u))] t.heap ∧ va_D (va_A [(h0, .inr (10, [.ref a0, .int 4, .int 0, .int (-1), .int 0, .int 0, .int 0, .int 0])), (a0, .inl (cB, 1600, .inl f0))] sz) [(h0, .inr (10, [.ref a0, .int 8, .int 0, .int (-1), .int 0, .int 0, .int 0, .int 0])), (a0, .inl (cB, 1600, .inl u))]) (va_A [(h0, .inr (10, [.ref a0, .int 4, .int 0, .int (-1), .int 0, .int 0, .int 0, .int 0])), (a0, .inl (cB, 1600, .inl f0))] sz)) 0 0 (va_A [(h0, .inr (10, [.ref a0, .int 4, .int 0, .int (-1), .int 0, .int 0, .int 0, .int 0])), (a0, .inl (cB, 1600, .inl f0))] sz) := by
  refine kEnter (by decide) (Nat.le_of_ble_eq_true rfl) ?_
  intro p e s m below meth c ls hx hb hr hml hown hlocks hin hwd hsz hP hK hD hl
  subst hsz
  generalize hAe : va_A [(h0, .inr (10, [.ref a0, .int 4, .int 0, .int (-1), .int 0, .int 0, .int 0, .int 0])), (a0, .inl (cB, 1600, .inl f0))] s.heap.size = A at hD ⊢
  have hA : ∀ q : Nat, s.heap.size ≤ q → A q := fun q h => by rw [← hAe]; exact Or.inr h
  have hS : va_S A s.heap s.heap [] := va_S.rf
  have hl : lv_has ls 3 [(0, .ref h0), (1, .int p0)] := hl
  refine lv_bipush (v := 24) hx hb dX10_put_0 (by decide) ?_
  refine lv_istore_n (lv' := [(2, .int 24), (0, .ref h0), (1, .int p0)]) hx hb dX10_put_2 rfl hl (by decide) rfl (fun ls hl => ?_)
  refine lv_iload_n hx hb dX10_put_3 rfl (lv_at hl 0 rfl) ?_
  refine lv_if_lt (tgt := 46) hx hb dX10_put_4 (by decide) (fun c1 => absurd c1 (by decide)) (fun c1 => ?_)
  refine lv_aload_n hx hb dX10_put_7 rfl (lv_at hl 1 rfl) ?_
  refine va_get (D := (dC, dI)) (ci := 10) (v := .int 4) (C := RX10) (T := TX10) (N := 8) hx hb hwd inlX10 hown hK hP 0 rfl rfl 1 (by decide) (hwd _ kr8_16) (fun _ h9 => h9) rfl dX10_put_8 ?_
  refine lv_sipush (v := 1600) hx hb dX10_put_11 (by decide) ?_
  refine lv_icmp_ge (tgt := 40) hx hb dX10_put_14 (by decide) (fun c2 => absurd c2 (by decide)) (fun c2 => ?_)
  refine lv_aload_n hx hb dX10_put_17 rfl (lv_at hl 1 rfl) ?_
  refine va_get (D := (dC, dI)) (ci := 10) (v := .ref a0) (C := RX10) (T := TX10) (N := 8) hx hb hwd inlX10 hown hK hP 0 rfl rfl 0 (by decide) (hwd _ kr3_1) (fun _ h9 => h9) rfl dX10_put_18 ?_
  refine lv_aload_n hx hb dX10_put_21 rfl (lv_at hl 1 rfl) ?_
  refine va_get (D := (dC, dI)) (ci := 10) (v := .int 4) (C := RX10) (T := TX10) (N := 8) hx hb hwd inlX10 hown hK hP 0 rfl rfl 1 (by decide) (hwd _ kr8_16) (fun _ h9 => h9) rfl dX10_put_22 ?_
  refine lv_iload_n hx hb dX10_put_25 rfl (lv_at hl 2 rfl) ?_
  refine lv_iload_n hx hb dX10_put_26 rfl (lv_at hl 0 rfl) ?_
  refine lv_iushr hx hb dX10_put_27 rfl ?_
  refine lv_topi (fun x3 ex3 => ?_)
  refine lv_i2b hx hb dX10_put_28 rfl ?_
  refine lv_topi (fun x4 ex4 => ?_)
  refine va_bast hx hb hK hP hD hS 1 2 rfl rfl (vin (by decide)) dX10_put_29 (fun H locs hP hD hS => ?_)
  obtain ⟨f5, ef5⟩ : ∃ f, f = upd f0 (4 : Int32).toNatClampNeg (vp_nar .byte x4) := ⟨_, rfl⟩
  have hP : va_P (dC, dI) vwCl [(h0, .inr (10, [.ref a0, .int 4, .int 0, .int (-1), .int 0, .int 0, .int 0, .int 0])), (a0, .inl (cB, 1600, .inl f5))] H := by rw [ef5]; exact hP
  have hD : va_D A [(h0, .inr (10, [.ref a0, .int 4, .int 0, .int (-1), .int 0, .int 0, .int 0, .int 0])), (a0, .inl (cB, 1600, .inl f5))] := by rw [ef5]; exact hD
  refine lv_aload_n hx hb dX10_put_30 rfl (lv_at hl 1 rfl) ?_
  refine lv_dup hx hb dX10_put_31 rfl ?_
  refine va_get (D := (dC, dI)) (ci := 10) (v := .int 4) (C := RX10) (T := TX10) (N := 8) hx hb hwd inlX10 hown hK hP 0 rfl rfl 1 (by decide) (hwd _ kr8_16) (fun _ h9 => h9) rfl dX10_put_32 ?_
  refine lv_iconst (v := 1) hx hb dX10_put_35 (by decide) ?_
  refine lv_iadd hx hb dX10_put_36 ?_
  refine lv_topi (nm_r (e' := (5)) (by decide +kernel) ?_)
  refine va_put (D := (dC, dI)) (ci := 10) (v := .int 5) (ty := .int) (C := RX10) (T := TX10) (N := 8) hx hb hwd inlX10 tyX10 tyX10_ok nmX10 hown hK hP hD hS 0 rfl rfl 1 (by decide) (hwd _ kr8_16) (fun _ h9 => h9) rfl (by decide +kernel) rfl rfl (Nat.le_of_ble_eq_true rfl) dX10_put_37 (fun H locs hP hD hS => ?_)
  have hP : va_P (dC, dI) vwCl [(h0, .inr (10, [.ref a0, .int 5, .int 0, .int (-1), .int 0, .int 0, .int 0, .int 0])), (a0, .inl (cB, 1600, .inl f5))] H := hP
  have hD : va_D A [(h0, .inr (10, [.ref a0, .int 5, .int 0, .int (-1), .int 0, .int 0, .int 0, .int 0])), (a0, .inl (cB, 1600, .inl f5))] := hD
  refine lv_iinc (v := 16) (lv' := [(2, .int 16), (0, .ref h0), (1, .int p0)]) hx hb dX10_put_40 hl (k := 0) rfl (by decide) (by decide) rfl (fun ls hl => ?_)
  refine lv_goto (tgt := 3) hx hb dX10_put_43 (by decide) ?_
  refine lv_iload_n hx hb dX10_put_3 rfl (lv_at hl 0 rfl) ?_
  refine lv_if_lt (tgt := 46) hx hb dX10_put_4 (by decide) (fun c6 => absurd c6 (by decide)) (fun c6 => ?_)
  refine lv_aload_n hx hb dX10_put_7 rfl (lv_at hl 1 rfl) ?_
  refine va_get (D := (dC, dI)) (ci := 10) (v := .int 5) (C := RX10) (T := TX10) (N := 8) hx hb hwd inlX10 hown hK hP 0 rfl rfl 1 (by decide) (hwd _ kr8_16) (fun _ h9 => h9) rfl dX10_put_8 ?_
  refine lv_sipush (v := 1600) hx hb dX10_put_11 (by decide) ?_
  refine lv_icmp_ge (tgt := 40) hx hb dX10_put_14 (by decide) (fun c7 => absurd c7 (by decide)) (fun c7 => ?_)
  refine lv_aload_n hx hb dX10_put_17 rfl (lv_at hl 1 rfl) ?_
  refine va_get (D := (dC, dI)) (ci := 10) (v := .ref a0) (C := RX10) (T := TX10) (N := 8) hx hb hwd inlX10 hown hK hP 0 rfl rfl 0 (by decide) (hwd _ kr3_1) (fun _ h9 => h9) rfl dX10_put_18 ?_
  refine lv_aload_n hx hb dX10_put_21 rfl (lv_at hl 1 rfl) ?_
  refine va_get (D := (dC, dI)) (ci := 10) (v := .int 5) (C := RX10) (T := TX10) (N := 8) hx hb hwd inlX10 hown hK hP 0 rfl rfl 1 (by decide) (hwd _ kr8_16) (fun _ h9 => h9) rfl dX10_put_22 ?_
  refine lv_iload_n hx hb dX10_put_25 rfl (lv_at hl 2 rfl) ?_
  refine lv_iload_n hx hb dX10_put_26 rfl (lv_at hl 0 rfl) ?_
  refine lv_iushr hx hb dX10_put_27 rfl ?_
  refine lv_topi (fun x8 ex8 => ?_)
  refine lv_i2b hx hb dX10_put_28 rfl ?_
  refine lv_topi (fun x9 ex9 => ?_)
  refine va_bast hx hb hK hP hD hS 1 2 rfl rfl (vin (by decide)) dX10_put_29 (fun H locs hP hD hS => ?_)
  obtain ⟨f10, ef10⟩ : ∃ f, f = upd f5 (5 : Int32).toNatClampNeg (vp_nar .byte x9) := ⟨_, rfl⟩
  have hP : va_P (dC, dI) vwCl [(h0, .inr (10, [.ref a0, .int 5, .int 0, .int (-1), .int 0, .int 0, .int 0, .int 0])), (a0, .inl (cB, 1600, .inl f10))] H := by rw [ef10]; exact hP
  have hD : va_D A [(h0, .inr (10, [.ref a0, .int 5, .int 0, .int (-1), .int 0, .int 0, .int 0, .int 0])), (a0, .inl (cB, 1600, .inl f10))] := by rw [ef10]; exact hD
  refine lv_aload_n hx hb dX10_put_30 rfl (lv_at hl 1 rfl) ?_
  refine lv_dup hx hb dX10_put_31 rfl ?_
  refine va_get (D := (dC, dI)) (ci := 10) (v := .int 5) (C := RX10) (T := TX10) (N := 8) hx hb hwd inlX10 hown hK hP 0 rfl rfl 1 (by decide) (hwd _ kr8_16) (fun _ h9 => h9) rfl dX10_put_32 ?_
  refine lv_iconst (v := 1) hx hb dX10_put_35 (by decide) ?_
  refine lv_iadd hx hb dX10_put_36 ?_
  refine lv_topi (nm_r (e' := (6)) (by decide +kernel) ?_)
  refine va_put (D := (dC, dI)) (ci := 10) (v := .int 6) (ty := .int) (C := RX10) (T := TX10) (N := 8) hx hb hwd inlX10 tyX10 tyX10_ok nmX10 hown hK hP hD hS 0 rfl rfl 1 (by decide) (hwd _ kr8_16) (fun _ h9 => h9) rfl (by decide +kernel) rfl rfl (Nat.le_of_ble_eq_true rfl) dX10_put_37 (fun H locs hP hD hS => ?_)
  have hP : va_P (dC, dI) vwCl [(h0, .inr (10, [.ref a0, .int 6, .int 0, .int (-1), .int 0, .int 0, .int 0, .int 0])), (a0, .inl (cB, 1600, .inl f10))] H := hP
  have hD : va_D A [(h0, .inr (10, [.ref a0, .int 6, .int 0, .int (-1), .int 0, .int 0, .int 0, .int 0])), (a0, .inl (cB, 1600, .inl f10))] := hD
  refine lv_iinc (v := 8) (lv' := [(2, .int 8), (0, .ref h0), (1, .int p0)]) hx hb dX10_put_40 hl (k := 0) rfl (by decide) (by decide) rfl (fun ls hl => ?_)
  refine lv_goto (tgt := 3) hx hb dX10_put_43 (by decide) ?_
  refine lv_iload_n hx hb dX10_put_3 rfl (lv_at hl 0 rfl) ?_
  refine lv_if_lt (tgt := 46) hx hb dX10_put_4 (by decide) (fun c11 => absurd c11 (by decide)) (fun c11 => ?_)
  refine lv_aload_n hx hb dX10_put_7 rfl (lv_at hl 1 rfl) ?_
  refine va_get (D := (dC, dI)) (ci := 10) (v := .int 6) (C := RX10) (T := TX10) (N := 8) hx hb hwd inlX10 hown hK hP 0 rfl rfl 1 (by decide) (hwd _ kr8_16) (fun _ h9 => h9) rfl dX10_put_8 ?_
  refine lv_sipush (v := 1600) hx hb dX10_put_11 (by decide) ?_
  refine lv_icmp_ge (tgt := 40) hx hb dX10_put_14 (by decide) (fun c12 => absurd c12 (by decide)) (fun c12 => ?_)
  refine lv_aload_n hx hb dX10_put_17 rfl (lv_at hl 1 rfl) ?_
  refine va_get (D := (dC, dI)) (ci := 10) (v := .ref a0) (C := RX10) (T := TX10) (N := 8) hx hb hwd inlX10 hown hK hP 0 rfl rfl 0 (by decide) (hwd _ kr3_1) (fun _ h9 => h9) rfl dX10_put_18 ?_
  refine lv_aload_n hx hb dX10_put_21 rfl (lv_at hl 1 rfl) ?_
  refine va_get (D := (dC, dI)) (ci := 10) (v := .int 6) (C := RX10) (T := TX10) (N := 8) hx hb hwd inlX10 hown hK hP 0 rfl rfl 1 (by decide) (hwd _ kr8_16) (fun _ h9 => h9) rfl dX10_put_22 ?_
  refine lv_iload_n hx hb dX10_put_25 rfl (lv_at hl 2 rfl) ?_
  refine lv_iload_n hx hb dX10_put_26 rfl (lv_at hl 0 rfl) ?_
  refine lv_iushr hx hb dX10_put_27 rfl ?_
  refine lv_topi (fun x13 ex13 => ?_)
  refine lv_i2b hx hb dX10_put_28 rfl ?_
  refine lv_topi (fun x14 ex14 => ?_)
  refine va_bast hx hb hK hP hD hS 1 2 rfl rfl (vin (by decide)) dX10_put_29 (fun H locs hP hD hS => ?_)
  obtain ⟨f15, ef15⟩ : ∃ f, f = upd f10 (6 : Int32).toNatClampNeg (vp_nar .byte x14) := ⟨_, rfl⟩
  have hP : va_P (dC, dI) vwCl [(h0, .inr (10, [.ref a0, .int 6, .int 0, .int (-1), .int 0, .int 0, .int 0, .int 0])), (a0, .inl (cB, 1600, .inl f15))] H := by rw [ef15]; exact hP
  have hD : va_D A [(h0, .inr (10, [.ref a0, .int 6, .int 0, .int (-1), .int 0, .int 0, .int 0, .int 0])), (a0, .inl (cB, 1600, .inl f15))] := by rw [ef15]; exact hD
  refine lv_aload_n hx hb dX10_put_30 rfl (lv_at hl 1 rfl) ?_
  refine lv_dup hx hb dX10_put_31 rfl ?_
  refine va_get (D := (dC, dI)) (ci := 10) (v := .int 6) (C := RX10) (T := TX10) (N := 8) hx hb hwd inlX10 hown hK hP 0 rfl rfl 1 (by decide) (hwd _ kr8_16) (fun _ h9 => h9) rfl dX10_put_32 ?_
  refine lv_iconst (v := 1) hx hb dX10_put_35 (by decide) ?_
  refine lv_iadd hx hb dX10_put_36 ?_
  refine lv_topi (nm_r (e' := (7)) (by decide +kernel) ?_)
  refine va_put (D := (dC, dI)) (ci := 10) (v := .int 7) (ty := .int) (C := RX10) (T := TX10) (N := 8) hx hb hwd inlX10 tyX10 tyX10_ok nmX10 hown hK hP hD hS 0 rfl rfl 1 (by decide) (hwd _ kr8_16) (fun _ h9 => h9) rfl (by decide +kernel) rfl rfl (Nat.le_of_ble_eq_true rfl) dX10_put_37 (fun H locs hP hD hS => ?_)
  have hP : va_P (dC, dI) vwCl [(h0, .inr (10, [.ref a0, .int 7, .int 0, .int (-1), .int 0, .int 0, .int 0, .int 0])), (a0, .inl (cB, 1600, .inl f15))] H := hP
  have hD : va_D A [(h0, .inr (10, [.ref a0, .int 7, .int 0, .int (-1), .int 0, .int 0, .int 0, .int 0])), (a0, .inl (cB, 1600, .inl f15))] := hD
  refine lv_iinc (v := 0) (lv' := [(2, .int 0), (0, .ref h0), (1, .int p0)]) hx hb dX10_put_40 hl (k := 0) rfl (by decide) (by decide) rfl (fun ls hl => ?_)
  refine lv_goto (tgt := 3) hx hb dX10_put_43 (by decide) ?_
  refine lv_iload_n hx hb dX10_put_3 rfl (lv_at hl 0 rfl) ?_
  refine lv_if_lt (tgt := 46) hx hb dX10_put_4 (by decide) (fun c16 => absurd c16 (by decide)) (fun c16 => ?_)
  refine lv_aload_n hx hb dX10_put_7 rfl (lv_at hl 1 rfl) ?_
  refine va_get (D := (dC, dI)) (ci := 10) (v := .int 7) (C := RX10) (T := TX10) (N := 8) hx hb hwd inlX10 hown hK hP 0 rfl rfl 1 (by decide) (hwd _ kr8_16) (fun _ h9 => h9) rfl dX10_put_8 ?_
  refine lv_sipush (v := 1600) hx hb dX10_put_11 (by decide) ?_
  refine lv_icmp_ge (tgt := 40) hx hb dX10_put_14 (by decide) (fun c17 => absurd c17 (by decide)) (fun c17 => ?_)
  refine lv_aload_n hx hb dX10_put_17 rfl (lv_at hl 1 rfl) ?_
  refine va_get (D := (dC, dI)) (ci := 10) (v := .ref a0) (C := RX10) (T := TX10) (N := 8) hx hb hwd inlX10 hown hK hP 0 rfl rfl 0 (by decide) (hwd _ kr3_1) (fun _ h9 => h9) rfl dX10_put_18 ?_
  refine lv_aload_n hx hb dX10_put_21 rfl (lv_at hl 1 rfl) ?_
  refine va_get (D := (dC, dI)) (ci := 10) (v := .int 7) (C := RX10) (T := TX10) (N := 8) hx hb hwd inlX10 hown hK hP 0 rfl rfl 1 (by decide) (hwd _ kr8_16) (fun _ h9 => h9) rfl dX10_put_22 ?_
  refine lv_iload_n hx hb dX10_put_25 rfl (lv_at hl 2 rfl) ?_
  refine lv_iload_n hx hb dX10_put_26 rfl (lv_at hl 0 rfl) ?_
  refine lv_iushr hx hb dX10_put_27 rfl ?_
  refine lv_topi (fun x18 ex18 => ?_)
  refine lv_i2b hx hb dX10_put_28 rfl ?_
  refine lv_topi (fun x19 ex19 => ?_)
  refine va_bast hx hb hK hP hD hS 1 2 rfl rfl (vin (by decide)) dX10_put_29 (fun H locs hP hD hS => ?_)
  obtain ⟨f20, ef20⟩ : ∃ f, f = upd f15 (7 : Int32).toNatClampNeg (vp_nar .byte x19) := ⟨_, rfl⟩
  have hP : va_P (dC, dI) vwCl [(h0, .inr (10, [.ref a0, .int 7, .int 0, .int (-1), .int 0, .int 0, .int 0, .int 0])), (a0, .inl (cB, 1600, .inl f20))] H := by rw [ef20]; exact hP
  have hD : va_D A [(h0, .inr (10, [.ref a0, .int 7, .int 0, .int (-1), .int 0, .int 0, .int 0, .int 0])), (a0, .inl (cB, 1600, .inl f20))] := by rw [ef20]; exact hD
  refine lv_aload_n hx hb dX10_put_30 rfl (lv_at hl 1 rfl) ?_
  refine lv_dup hx hb dX10_put_31 rfl ?_
  refine va_get (D := (dC, dI)) (ci := 10) (v := .int 7) (C := RX10) (T := TX10) (N := 8) hx hb hwd inlX10 hown hK hP 0 rfl rfl 1 (by decide) (hwd _ kr8_16) (fun _ h9 => h9) rfl dX10_put_32 ?_
  refine lv_iconst (v := 1) hx hb dX10_put_35 (by decide) ?_
  refine lv_iadd hx hb dX10_put_36 ?_
  refine lv_topi (nm_r (e' := (8)) (by decide +kernel) ?_)
  refine va_put (D := (dC, dI)) (ci := 10) (v := .int 8) (ty := .int) (C := RX10) (T := TX10) (N := 8) hx hb hwd inlX10 tyX10 tyX10_ok nmX10 hown hK hP hD hS 0 rfl rfl 1 (by decide) (hwd _ kr8_16) (fun _ h9 => h9) rfl (by decide +kernel) rfl rfl (Nat.le_of_ble_eq_true rfl) dX10_put_37 (fun H locs hP hD hS => ?_)
  have hP : va_P (dC, dI) vwCl [(h0, .inr (10, [.ref a0, .int 8, .int 0, .int (-1), .int 0, .int 0, .int 0, .int 0])), (a0, .inl (cB, 1600, .inl f20))] H := hP
  have hD : va_D A [(h0, .inr (10, [.ref a0, .int 8, .int 0, .int (-1), .int 0, .int 0, .int 0, .int 0])), (a0, .inl (cB, 1600, .inl f20))] := hD
  refine lv_iinc (v := (-8)) (lv' := [(2, .int (-8)), (0, .ref h0), (1, .int p0)]) hx hb dX10_put_40 hl (k := 0) rfl (by decide) (by decide) rfl (fun ls hl => ?_)
  refine lv_goto (tgt := 3) hx hb dX10_put_43 (by decide) ?_
  refine lv_iload_n hx hb dX10_put_3 rfl (lv_at hl 0 rfl) ?_
  refine lv_if_lt (tgt := 46) hx hb dX10_put_4 (by decide) (fun c21 => ?_) (fun c21 => absurd c21 (by decide))
  have hP9 := hP.sub (ws' := [(h0, .inr (10, [.ref a0, .int 8, .int 0, .int (-1), .int 0, .int 0, .int 0, .int 0])), (a0, .inl (cB, 1600, .inl f20))]) [0, 1] rfl
  have hD9 := hD.sub (ws' := [(h0, .inr (10, [.ref a0, .int 8, .int 0, .int (-1), .int 0, .int 0, .int 0, .int 0])), (a0, .inl (cB, 1600, .inl f20))]) [0, 1] (by decide) rfl
  exact W.vret hx hb hr (fun t ht hW => ⟨⟨f20, rfl, trivial, (by rw [ht]; exact hP9), hD9⟩, hS.F ht⟩) hS.2.2 dX10_put_46
set_option maxHeartbeats 4000000 in
set_option maxRecDepth 100000 in
theorem c_X10_put_8 (l : Launch) (dC : Nat → ClassId) (dI : Nat → Nat → Nat) (cI cZ cB cJ cM : ClassId) (h0 a0 : Nat) (f0 : Nat → Int32) (p0 : Int32) (sz : Nat) : Met l yX10_put (kw yX10_put cX10_put 3 none) ({ frames := 0, cells := 0, slots := 0, locals := 0 }) (va_Pc [.ref h0, .int p0] (kPre dC dI [(cI, .int), (cZ, .boolean), (cB, .byte), (cJ, .long), (cM, .object RX2)] [(h0, .inr (10, [.ref a0, .int 8, .int 0, .int (-1), .int 0, .int 0, .int 0, .int 0])), (a0, .inl (cB, 1600, .inl f0))] sz)) (va_Qv (fun _ : (Nat → Int32) => True) (fun u t => va_P (dC, dI) vwCl [(h0, .inr (10, [.ref a0, .int 12, .int 0, .int (-1), .int 0, .int 0, .int 0, .int 0])), (a0, .inl (cB, 1600, .inl u))] t.heap ∧ va_D (va_A [(h0, .inr (10, [.ref a0, .int 8, .int 0, .int (-1), .int 0, .int 0, .int 0, .int 0])), (a0, .inl (cB, 1600, .inl f0))] sz) [(h0, .inr (10, [.ref a0, .int 12, .int 0, .int (-1), .int 0, .int 0, .int 0, .int 0])), (a0, .inl (cB, 1600, .inl u))]) (va_A [(h0, .inr (10, [.ref a0, .int 8, .int 0, .int (-1), .int 0, .int 0, .int 0, .int 0])), (a0, .inl (cB, 1600, .inl f0))] sz)) 0 0 (va_A [(h0, .inr (10, [.ref a0, .int 8, .int 0, .int (-1), .int 0, .int 0, .int 0, .int 0])), (a0, .inl (cB, 1600, .inl f0))] sz) := by
  refine kEnter (by decide) (Nat.le_of_ble_eq_true rfl) ?_
  intro p e s m below meth c ls hx hb hr hml hown hlocks hin hwd hsz hP hK hD hl
  subst hsz
  generalize hAe : va_A [(h0, .inr (10, [.ref a0, .int 8, .int 0, .int (-1), .int 0, .int 0, .int 0, .int 0])), (a0, .inl (cB, 1600, .inl f0))] s.heap.size = A at hD ⊢
  have hA : ∀ q : Nat, s.heap.size ≤ q → A q := fun q h => by rw [← hAe]; exact Or.inr h
  have hS : va_S A s.heap s.heap [] := va_S.rf
  have hl : lv_has ls 3 [(0, .ref h0), (1, .int p0)] := hl
  refine lv_bipush (v := 24) hx hb dX10_put_0 (by decide) ?_
  refine lv_istore_n (lv' := [(2, .int 24), (0, .ref h0), (1, .int p0)]) hx hb dX10_put_2 rfl hl (by decide) rfl (fun ls hl => ?_)
  refine lv_iload_n hx hb dX10_put_3 rfl (lv_at hl 0 rfl) ?_
  refine lv_if_lt (tgt := 46) hx hb dX10_put_4 (by decide) (fun c1 => absurd c1 (by decide)) (fun c1 => ?_)
  refine lv_aload_n hx hb dX10_put_7 rfl (lv_at hl 1 rfl) ?_
  refine va_get (D := (dC, dI)) (ci := 10) (v := .int 8) (C := RX10) (T := TX10) (N := 8) hx hb hwd inlX10 hown hK hP 0 rfl rfl 1 (by decide) (hwd _ kr8_16) (fun _ h9 => h9) rfl dX10_put_8 ?_
  refine lv_sipush (v := 1600) hx hb dX10_put_11 (by decide) ?_
  refine lv_icmp_ge (tgt := 40) hx hb dX10_put_14 (by decide) (fun c2 => absurd c2 (by decide)) (fun c2 => ?_)
  refine lv_aload_n hx hb dX10_put_17 rfl (lv_at hl 1 rfl) ?_
  refine va_get (D := (dC, dI)) (ci := 10) (v := .ref a0) (C := RX10) (T := TX10) (N := 8) hx hb hwd inlX10 hown hK hP 0 rfl rfl 0 (by decide) (hwd _ kr3_1) (fun _ h9 => h9) rfl dX10_put_18 ?_
  refine lv_aload_n hx hb dX10_put_21 rfl (lv_at hl 1 rfl) ?_
  refine va_get (D := (dC, dI)) (ci := 10) (v := .int 8) (C := RX10) (T := TX10) (N := 8) hx hb hwd inlX10 hown hK hP 0 rfl rfl 1 (by decide) (hwd _ kr8_16) (fun _ h9 => h9) rfl dX10_put_22 ?_
  refine lv_iload_n hx hb dX10_put_25 rfl (lv_at hl 2 rfl) ?_
  refine lv_iload_n hx hb dX10_put_26 rfl (lv_at hl 0 rfl) ?_
  refine lv_iushr hx hb dX10_put_27 rfl ?_
  refine lv_topi (fun x3 ex3 => ?_)
  refine lv_i2b hx hb dX10_put_28 rfl ?_
  refine lv_topi (fun x4 ex4 => ?_)
  refine va_bast hx hb hK hP hD hS 1 2 rfl rfl (vin (by decide)) dX10_put_29 (fun H locs hP hD hS => ?_)
  obtain ⟨f5, ef5⟩ : ∃ f, f = upd f0 (8 : Int32).toNatClampNeg (vp_nar .byte x4) := ⟨_, rfl⟩
  have hP : va_P (dC, dI) vwCl [(h0, .inr (10, [.ref a0, .int 8, .int 0, .int (-1), .int 0, .int 0, .int 0, .int 0])), (a0, .inl (cB, 1600, .inl f5))] H := by rw [ef5]; exact hP
  have hD : va_D A [(h0, .inr (10, [.ref a0, .int 8, .int 0, .int (-1), .int 0, .int 0, .int 0, .int 0])), (a0, .inl (cB, 1600, .inl f5))] := by rw [ef5]; exact hD
  refine lv_aload_n hx hb dX10_put_30 rfl (lv_at hl 1 rfl) ?_
  refine lv_dup hx hb dX10_put_31 rfl ?_
  refine va_get (D := (dC, dI)) (ci := 10) (v := .int 8) (C := RX10) (T := TX10) (N := 8) hx hb hwd inlX10 hown hK hP 0 rfl rfl 1 (by decide) (hwd _ kr8_16) (fun _ h9 => h9) rfl dX10_put_32 ?_
  refine lv_iconst (v := 1) hx hb dX10_put_35 (by decide) ?_
  refine lv_iadd hx hb dX10_put_36 ?_
  refine lv_topi (nm_r (e' := (9)) (by decide +kernel) ?_)
  refine va_put (D := (dC, dI)) (ci := 10) (v := .int 9) (ty := .int) (C := RX10) (T := TX10) (N := 8) hx hb hwd inlX10 tyX10 tyX10_ok nmX10 hown hK hP hD hS 0 rfl rfl 1 (by decide) (hwd _ kr8_16) (fun _ h9 => h9) rfl (by decide +kernel) rfl rfl (Nat.le_of_ble_eq_true rfl) dX10_put_37 (fun H locs hP hD hS => ?_)
  have hP : va_P (dC, dI) vwCl [(h0, .inr (10, [.ref a0, .int 9, .int 0, .int (-1), .int 0, .int 0, .int 0, .int 0])), (a0, .inl (cB, 1600, .inl f5))] H := hP
  have hD : va_D A [(h0, .inr (10, [.ref a0, .int 9, .int 0, .int (-1), .int 0, .int 0, .int 0, .int 0])), (a0, .inl (cB, 1600, .inl f5))] := hD
  refine lv_iinc (v := 16) (lv' := [(2, .int 16), (0, .ref h0), (1, .int p0)]) hx hb dX10_put_40 hl (k := 0) rfl (by decide) (by decide) rfl (fun ls hl => ?_)
  refine lv_goto (tgt := 3) hx hb dX10_put_43 (by decide) ?_
  refine lv_iload_n hx hb dX10_put_3 rfl (lv_at hl 0 rfl) ?_
  refine lv_if_lt (tgt := 46) hx hb dX10_put_4 (by decide) (fun c6 => absurd c6 (by decide)) (fun c6 => ?_)
  refine lv_aload_n hx hb dX10_put_7 rfl (lv_at hl 1 rfl) ?_
  refine va_get (D := (dC, dI)) (ci := 10) (v := .int 9) (C := RX10) (T := TX10) (N := 8) hx hb hwd inlX10 hown hK hP 0 rfl rfl 1 (by decide) (hwd _ kr8_16) (fun _ h9 => h9) rfl dX10_put_8 ?_
  refine lv_sipush (v := 1600) hx hb dX10_put_11 (by decide) ?_
  refine lv_icmp_ge (tgt := 40) hx hb dX10_put_14 (by decide) (fun c7 => absurd c7 (by decide)) (fun c7 => ?_)
  refine lv_aload_n hx hb dX10_put_17 rfl (lv_at hl 1 rfl) ?_
  refine va_get (D := (dC, dI)) (ci := 10) (v := .ref a0) (C := RX10) (T := TX10) (N := 8) hx hb hwd inlX10 hown hK hP 0 rfl rfl 0 (by decide) (hwd _ kr3_1) (fun _ h9 => h9) rfl dX10_put_18 ?_
  refine lv_aload_n hx hb dX10_put_21 rfl (lv_at hl 1 rfl) ?_
  refine va_get (D := (dC, dI)) (ci := 10) (v := .int 9) (C := RX10) (T := TX10) (N := 8) hx hb hwd inlX10 hown hK hP 0 rfl rfl 1 (by decide) (hwd _ kr8_16) (fun _ h9 => h9) rfl dX10_put_22 ?_
  refine lv_iload_n hx hb dX10_put_25 rfl (lv_at hl 2 rfl) ?_
  refine lv_iload_n hx hb dX10_put_26 rfl (lv_at hl 0 rfl) ?_
  refine lv_iushr hx hb dX10_put_27 rfl ?_
  refine lv_topi (fun x8 ex8 => ?_)
  refine lv_i2b hx hb dX10_put_28 rfl ?_
  refine lv_topi (fun x9 ex9 => ?_)
  refine va_bast hx hb hK hP hD hS 1 2 rfl rfl (vin (by decide)) dX10_put_29 (fun H locs hP hD hS => ?_)
  obtain ⟨f10, ef10⟩ : ∃ f, f = upd f5 (9 : Int32).toNatClampNeg (vp_nar .byte x9) := ⟨_, rfl⟩
  have hP : va_P (dC, dI) vwCl [(h0, .inr (10, [.ref a0, .int 9, .int 0, .int (-1), .int 0, .int 0, .int 0, .int 0])), (a0, .inl (cB, 1600, .inl f10))] H := by rw [ef10]; exact hP
  have hD : va_D A [(h0, .inr (10, [.ref a0, .int 9, .int 0, .int (-1), .int 0, .int 0, .int 0, .int 0])), (a0, .inl (cB, 1600, .inl f10))] := by rw [ef10]; exact hD
  refine lv_aload_n hx hb dX10_put_30 rfl (lv_at hl 1 rfl) ?_
  refine lv_dup hx hb dX10_put_31 rfl ?_
  refine va_get (D := (dC, dI)) (ci := 10) (v := .int 9) (C := RX10) (T := TX10) (N := 8) hx hb hwd inlX10 hown hK hP 0 rfl rfl 1 (by decide) (hwd _ kr8_16) (fun _ h9 => h9) rfl dX10_put_32 ?_
  refine lv_iconst (v := 1) hx hb dX10_put_35 (by decide) ?_
  refine lv_iadd hx hb dX10_put_36 ?_
  refine lv_topi (nm_r (e' := (10)) (by decide +kernel) ?_)
  refine va_put (D := (dC, dI)) (ci := 10) (v := .int 10) (ty := .int) (C := RX10) (T := TX10) (N := 8) hx hb hwd inlX10 tyX10 tyX10_ok nmX10 hown hK hP hD hS 0 rfl rfl 1 (by decide) (hwd _ kr8_16) (fun _ h9 => h9) rfl (by decide +kernel) rfl rfl (Nat.le_of_ble_eq_true rfl) dX10_put_37 (fun H locs hP hD hS => ?_)
  have hP : va_P (dC, dI) vwCl [(h0, .inr (10, [.ref a0, .int 10, .int 0, .int (-1), .int 0, .int 0, .int 0, .int 0])), (a0, .inl (cB, 1600, .inl f10))] H := hP
  have hD : va_D A [(h0, .inr (10, [.ref a0, .int 10, .int 0, .int (-1), .int 0, .int 0, .int 0, .int 0])), (a0, .inl (cB, 1600, .inl f10))] := hD
  refine lv_iinc (v := 8) (lv' := [(2, .int 8), (0, .ref h0), (1, .int p0)]) hx hb dX10_put_40 hl (k := 0) rfl (by decide) (by decide) rfl (fun ls hl => ?_)
  refine lv_goto (tgt := 3) hx hb dX10_put_43 (by decide) ?_
  refine lv_iload_n hx hb dX10_put_3 rfl (lv_at hl 0 rfl) ?_
  refine lv_if_lt (tgt := 46) hx hb dX10_put_4 (by decide) (fun c11 => absurd c11 (by decide)) (fun c11 => ?_)
  refine lv_aload_n hx hb dX10_put_7 rfl (lv_at hl 1 rfl) ?_
  refine va_get (D := (dC, dI)) (ci := 10) (v := .int 10) (C := RX10) (T := TX10) (N := 8) hx hb hwd inlX10 hown hK hP 0 rfl rfl 1 (by decide) (hwd _ kr8_16) (fun _ h9 => h9) rfl dX10_put_8 ?_
  refine lv_sipush (v := 1600) hx hb dX10_put_11 (by decide) ?_
  refine lv_icmp_ge (tgt := 40) hx hb dX10_put_14 (by decide) (fun c12 => absurd c12 (by decide)) (fun c12 => ?_)
  refine lv_aload_n hx hb dX10_put_17 rfl (lv_at hl 1 rfl) ?_
  refine va_get (D := (dC, dI)) (ci := 10) (v := .ref a0) (C := RX10) (T := TX10) (N := 8) hx hb hwd inlX10 hown hK hP 0 rfl rfl 0 (by decide) (hwd _ kr3_1) (fun _ h9 => h9) rfl dX10_put_18 ?_
  refine lv_aload_n hx hb dX10_put_21 rfl (lv_at hl 1 rfl) ?_
  refine va_get (D := (dC, dI)) (ci := 10) (v := .int 10) (C := RX10) (T := TX10) (N := 8) hx hb hwd inlX10 hown hK hP 0 rfl rfl 1 (by decide) (hwd _ kr8_16) (fun _ h9 => h9) rfl dX10_put_22 ?_
  refine lv_iload_n hx hb dX10_put_25 rfl (lv_at hl 2 rfl) ?_
  refine lv_iload_n hx hb dX10_put_26 rfl (lv_at hl 0 rfl) ?_
  refine lv_iushr hx hb dX10_put_27 rfl ?_
  refine lv_topi (fun x13 ex13 => ?_)
  refine lv_i2b hx hb dX10_put_28 rfl ?_
  refine lv_topi (fun x14 ex14 => ?_)
  refine va_bast hx hb hK hP hD hS 1 2 rfl rfl (vin (by decide)) dX10_put_29 (fun H locs hP hD hS => ?_)
  obtain ⟨f15, ef15⟩ : ∃ f, f = upd f10 (10 : Int32).toNatClampNeg (vp_nar .byte x14) := ⟨_, rfl⟩
  have hP : va_P (dC, dI) vwCl [(h0, .inr (10, [.ref a0, .int 10, .int 0, .int (-1), .int 0, .int 0, .int 0, .int 0])), (a0, .inl (cB, 1600, .inl f15))] H := by rw [ef15]; exact hP
  have hD : va_D A [(h0, .inr (10, [.ref a0, .int 10, .int 0, .int (-1), .int 0, .int 0, .int 0, .int 0])), (a0, .inl (cB, 1600, .inl f15))] := by rw [ef15]; exact hD
  refine lv_aload_n hx hb dX10_put_30 rfl (lv_at hl 1 rfl) ?_
  refine lv_dup hx hb dX10_put_31 rfl ?_
  refine va_get (D := (dC, dI)) (ci := 10) (v := .int 10) (C := RX10) (T := TX10) (N := 8) hx hb hwd inlX10 hown hK hP 0 rfl rfl 1 (by decide) (hwd _ kr8_16) (fun _ h9 => h9) rfl dX10_put_32 ?_
  refine lv_iconst (v := 1) hx hb dX10_put_35 (by decide) ?_
  refine lv_iadd hx hb dX10_put_36 ?_
  refine lv_topi (nm_r (e' := (11)) (by decide +kernel) ?_)
  refine va_put (D := (dC, dI)) (ci := 10) (v := .int 11) (ty := .int) (C := RX10) (T := TX10) (N := 8) hx hb hwd inlX10 tyX10 tyX10_ok nmX10 hown hK hP hD hS 0 rfl rfl 1 (by decide) (hwd _ kr8_16) (fun _ h9 => h9) rfl (by decide +kernel) rfl rfl (Nat.le_of_ble_eq_true rfl) dX10_put_37 (fun H locs hP hD hS => ?_)
  have hP : va_P (dC, dI) vwCl [(h0, .inr (10, [.ref a0, .int 11, .int 0, .int (-1), .int 0, .int 0, .int 0, .int 0])), (a0, .inl (cB, 1600, .inl f15))] H := hP
  have hD : va_D A [(h0, .inr (10, [.ref a0, .int 11, .int 0, .int (-1), .int 0, .int 0, .int 0, .int 0])), (a0, .inl (cB, 1600, .inl f15))] := hD
  refine lv_iinc (v := 0) (lv' := [(2, .int 0), (0, .ref h0), (1, .int p0)]) hx hb dX10_put_40 hl (k := 0) rfl (by decide) (by decide) rfl (fun ls hl => ?_)
  refine lv_goto (tgt := 3) hx hb dX10_put_43 (by decide) ?_
  refine lv_iload_n hx hb dX10_put_3 rfl (lv_at hl 0 rfl) ?_
  refine lv_if_lt (tgt := 46) hx hb dX10_put_4 (by decide) (fun c16 => absurd c16 (by decide)) (fun c16 => ?_)
  refine lv_aload_n hx hb dX10_put_7 rfl (lv_at hl 1 rfl) ?_
  refine va_get (D := (dC, dI)) (ci := 10) (v := .int 11) (C := RX10) (T := TX10) (N := 8) hx hb hwd inlX10 hown hK hP 0 rfl rfl 1 (by decide) (hwd _ kr8_16) (fun _ h9 => h9) rfl dX10_put_8 ?_
  refine lv_sipush (v := 1600) hx hb dX10_put_11 (by decide) ?_
  refine lv_icmp_ge (tgt := 40) hx hb dX10_put_14 (by decide) (fun c17 => absurd c17 (by decide)) (fun c17 => ?_)
  refine lv_aload_n hx hb dX10_put_17 rfl (lv_at hl 1 rfl) ?_
  refine va_get (D := (dC, dI)) (ci := 10) (v := .ref a0) (C := RX10) (T := TX10) (N := 8) hx hb hwd inlX10 hown hK hP 0 rfl rfl 0 (by decide) (hwd _ kr3_1) (fun _ h9 => h9) rfl dX10_put_18 ?_
  refine lv_aload_n hx hb dX10_put_21 rfl (lv_at hl 1 rfl) ?_
  refine va_get (D := (dC, dI)) (ci := 10) (v := .int 11) (C := RX10) (T := TX10) (N := 8) hx hb hwd inlX10 hown hK hP 0 rfl rfl 1 (by decide) (hwd _ kr8_16) (fun _ h9 => h9) rfl dX10_put_22 ?_
  refine lv_iload_n hx hb dX10_put_25 rfl (lv_at hl 2 rfl) ?_
  refine lv_iload_n hx hb dX10_put_26 rfl (lv_at hl 0 rfl) ?_
  refine lv_iushr hx hb dX10_put_27 rfl ?_
  refine lv_topi (fun x18 ex18 => ?_)
  refine lv_i2b hx hb dX10_put_28 rfl ?_
  refine lv_topi (fun x19 ex19 => ?_)
  refine va_bast hx hb hK hP hD hS 1 2 rfl rfl (vin (by decide)) dX10_put_29 (fun H locs hP hD hS => ?_)
  obtain ⟨f20, ef20⟩ : ∃ f, f = upd f15 (11 : Int32).toNatClampNeg (vp_nar .byte x19) := ⟨_, rfl⟩
  have hP : va_P (dC, dI) vwCl [(h0, .inr (10, [.ref a0, .int 11, .int 0, .int (-1), .int 0, .int 0, .int 0, .int 0])), (a0, .inl (cB, 1600, .inl f20))] H := by rw [ef20]; exact hP
  have hD : va_D A [(h0, .inr (10, [.ref a0, .int 11, .int 0, .int (-1), .int 0, .int 0, .int 0, .int 0])), (a0, .inl (cB, 1600, .inl f20))] := by rw [ef20]; exact hD
  refine lv_aload_n hx hb dX10_put_30 rfl (lv_at hl 1 rfl) ?_
  refine lv_dup hx hb dX10_put_31 rfl ?_
  refine va_get (D := (dC, dI)) (ci := 10) (v := .int 11) (C := RX10) (T := TX10) (N := 8) hx hb hwd inlX10 hown hK hP 0 rfl rfl 1 (by decide) (hwd _ kr8_16) (fun _ h9 => h9) rfl dX10_put_32 ?_
  refine lv_iconst (v := 1) hx hb dX10_put_35 (by decide) ?_
  refine lv_iadd hx hb dX10_put_36 ?_
  refine lv_topi (nm_r (e' := (12)) (by decide +kernel) ?_)
  refine va_put (D := (dC, dI)) (ci := 10) (v := .int 12) (ty := .int) (C := RX10) (T := TX10) (N := 8) hx hb hwd inlX10 tyX10 tyX10_ok nmX10 hown hK hP hD hS 0 rfl rfl 1 (by decide) (hwd _ kr8_16) (fun _ h9 => h9) rfl (by decide +kernel) rfl rfl (Nat.le_of_ble_eq_true rfl) dX10_put_37 (fun H locs hP hD hS => ?_)
  have hP : va_P (dC, dI) vwCl [(h0, .inr (10, [.ref a0, .int 12, .int 0, .int (-1), .int 0, .int 0, .int 0, .int 0])), (a0, .inl (cB, 1600, .inl f20))] H := hP
  have hD : va_D A [(h0, .inr (10, [.ref a0, .int 12, .int 0, .int (-1), .int 0, .int 0, .int 0, .int 0])), (a0, .inl (cB, 1600, .inl f20))] := hD
  refine lv_iinc (v := (-8)) (lv' := [(2, .int (-8)), (0, .ref h0), (1, .int p0)]) hx hb dX10_put_40 hl (k := 0) rfl (by decide) (by decide) rfl (fun ls hl => ?_)
  refine lv_goto (tgt := 3) hx hb dX10_put_43 (by decide) ?_
  refine lv_iload_n hx hb dX10_put_3 rfl (lv_at hl 0 rfl) ?_
  refine lv_if_lt (tgt := 46) hx hb dX10_put_4 (by decide) (fun c21 => ?_) (fun c21 => absurd c21 (by decide))
  have hP9 := hP.sub (ws' := [(h0, .inr (10, [.ref a0, .int 12, .int 0, .int (-1), .int 0, .int 0, .int 0, .int 0])), (a0, .inl (cB, 1600, .inl f20))]) [0, 1] rfl
  have hD9 := hD.sub (ws' := [(h0, .inr (10, [.ref a0, .int 12, .int 0, .int (-1), .int 0, .int 0, .int 0, .int 0])), (a0, .inl (cB, 1600, .inl f20))]) [0, 1] (by decide) rfl
  exact W.vret hx hb hr (fun t ht hW => ⟨⟨f20, rfl, trivial, (by rw [ht]; exact hP9), hD9⟩, hS.F ht⟩) hS.2.2 dX10_put_46
set_option maxHeartbeats 4000000 in
set_option maxRecDepth 100000 in
theorem c_X10_put_12 (l : Launch) (dC : Nat → ClassId) (dI : Nat → Nat → Nat) (cI cZ cB cJ cM : ClassId) (h0 a0 : Nat) (f0 : Nat → Int32) (p0 : Int32) (sz : Nat) : Met l yX10_put (kw yX10_put cX10_put 3 none) ({ frames := 0, cells := 0, slots := 0, locals := 0 }) (va_Pc [.ref h0, .int p0] (kPre dC dI [(cI, .int), (cZ, .boolean), (cB, .byte), (cJ, .long), (cM, .object RX2)] [(h0, .inr (10, [.ref a0, .int 12, .int 0, .int (-1), .int 0, .int 0, .int 0, .int 0])), (a0, .inl (cB, 1600, .inl f0))] sz)) (va_Qv (fun _ : (Nat → Int32) => True) (fun u t => va_P (dC, dI) vwCl [(h0, .inr (10, [.ref a0, .int 16, .int 0, .int (-1), .int 0, .int 0, .int 0, .int 0])), (a0, .inl (cB, 1600, .inl u))] t.heap ∧ va_D (va_A [(h0, .inr (10, [.ref a0, .int 12, .int 0, .int (-1), .int 0, .int 0, .int 0, .int 0])), (a0, .inl (cB, 1600, .inl f0))] sz) [(h0, .inr (10, [.ref a0, .int 16, .int 0, .int (-1), .int 0, .int 0, .int 0, .int 0])), (a0, .inl (cB, 1600, .inl u))]) (va_A [(h0, .inr (10, [.ref a0, .int 12, .int 0, .int (-1), .int 0, .int 0, .int 0, .int 0])), (a0, .inl (cB, 1600, .inl f0))] sz)) 0 0 (va_A [(h0, .inr (10, [.ref a0, .int 12, .int 0, .int (-1), .int 0, .int 0, .int 0, .int 0])), (a0, .inl (cB, 1600, .inl f0))] sz) := by
  refine kEnter (by decide) (Nat.le_of_ble_eq_true rfl) ?_
  intro p e s m below meth c ls hx hb hr hml hown hlocks hin hwd hsz hP hK hD hl
  subst hsz
  generalize hAe : va_A [(h0, .inr (10, [.ref a0, .int 12, .int 0, .int (-1), .int 0, .int 0, .int 0, .int 0])), (a0, .inl (cB, 1600, .inl f0))] s.heap.size = A at hD ⊢
  have hA : ∀ q : Nat, s.heap.size ≤ q → A q := fun q h => by rw [← hAe]; exact Or.inr h
  have hS : va_S A s.heap s.heap [] := va_S.rf
  have hl : lv_has ls 3 [(0, .ref h0), (1, .int p0)] := hl
  refine lv_bipush (v := 24) hx hb dX10_put_0 (by decide) ?_
  refine lv_istore_n (lv' := [(2, .int 24), (0, .ref h0), (1, .int p0)]) hx hb dX10_put_2 rfl hl (by decide) rfl (fun ls hl => ?_)
  refine lv_iload_n hx hb dX10_put_3 rfl (lv_at hl 0 rfl) ?_
  refine lv_if_lt (tgt := 46) hx hb dX10_put_4 (by decide) (fun c1 => absurd c1 (by decide)) (fun c1 => ?_)
  refine lv_aload_n hx hb dX10_put_7 rfl (lv_at hl 1 rfl) ?_
  refine va_get (D := (dC, dI)) (ci := 10) (v := .int 12) (C := RX10) (T := TX10) (N := 8) hx hb hwd inlX10 hown hK hP 0 rfl rfl 1 (by decide) (hwd _ kr8_16) (fun _ h9 => h9) rfl dX10_put_8 ?_
  refine lv_sipush (v := 1600) hx hb dX10_put_11 (by decide) ?_
  refine lv_icmp_ge (tgt := 40) hx hb dX10_put_14 (by decide) (fun c2 => absurd c2 (by decide)) (fun c2 => ?_)
  refine lv_aload_n hx hb dX10_put_17 rfl (lv_at hl 1 rfl) ?_
  refine va_get (D := (dC, dI)) (ci := 10) (v := .ref a0) (C := RX10) (T := TX10) (N := 8) hx hb hwd inlX10 hown hK hP 0 rfl rfl 0 (by decide) (hwd _ kr3_1) (fun _ h9 => h9) rfl dX10_put_18 ?_
  refine lv_aload_n hx hb dX10_put_21 rfl (lv_at hl 1 rfl) ?_
  refine va_get (D := (dC, dI)) (ci := 10) (v := .int 12) (C := RX10) (T := TX10) (N := 8) hx hb hwd inlX10 hown hK hP 0 rfl rfl 1 (by decide) (hwd _ kr8_16) (fun _ h9 => h9) rfl dX10_put_22 ?_
  refine lv_iload_n hx hb dX10_put_25 rfl (lv_at hl 2 rfl) ?_
  refine lv_iload_n hx hb dX10_put_26 rfl (lv_at hl 0 rfl) ?_
  refine lv_iushr hx hb dX10_put_27 rfl ?_
  refine lv_topi (fun x3 ex3 => ?_)
  refine lv_i2b hx hb dX10_put_28 rfl ?_
  refine lv_topi (fun x4 ex4 => ?_)
  refine va_bast hx hb hK hP hD hS 1 2 rfl rfl (vin (by decide)) dX10_put_29 (fun H locs hP hD hS => ?_)
  obtain ⟨f5, ef5⟩ : ∃ f, f = upd f0 (12 : Int32).toNatClampNeg (vp_nar .byte x4) := ⟨_, rfl⟩
  have hP : va_P (dC, dI) vwCl [(h0, .inr (10, [.ref a0, .int 12, .int 0, .int (-1), .int 0, .int 0, .int 0, .int 0])), (a0, .inl (cB, 1600, .inl f5))] H := by rw [ef5]; exact hP
  have hD : va_D A [(h0, .inr (10, [.ref a0, .int 12, .int 0, .int (-1), .int 0, .int 0, .int 0, .int 0])), (a0, .inl (cB, 1600, .inl f5))] := by rw [ef5]; exact hD
  refine lv_aload_n hx hb dX10_put_30 rfl (lv_at hl 1 rfl) ?_
  refine lv_dup hx hb dX10_put_31 rfl ?_
  refine va_get (D := (dC, dI)) (ci := 10) (v := .int 12) (C := RX10) (T := TX10) (N := 8) hx hb hwd inlX10 hown hK hP 0 rfl rfl 1 (by decide) (hwd _ kr8_16) (fun _ h9 => h9) rfl dX10_put_32 ?_
  refine lv_iconst (v := 1) hx hb dX10_put_35 (by decide) ?_
  refine lv_iadd hx hb dX10_put_36 ?_
  refine lv_topi (nm_r (e' := (13)) (by decide +kernel) ?_)
  refine va_put (D := (dC, dI)) (ci := 10) (v := .int 13) (ty := .int) (C := RX10) (T := TX10) (N := 8) hx hb hwd inlX10 tyX10 tyX10_ok nmX10 hown hK hP hD hS 0 rfl rfl 1 (by decide) (hwd _ kr8_16) (fun _ h9 => h9) rfl (by decide +kernel) rfl rfl (Nat.le_of_ble_eq_true rfl) dX10_put_37 (fun H locs hP hD hS => ?_)
  have hP : va_P (dC, dI) vwCl [(h0, .inr (10, [.ref a0, .int 13, .int 0, .int (-1), .int 0, .int 0, .int 0, .int 0])), (a0, .inl (cB, 1600, .inl f5))] H := hP
  have hD : va_D A [(h0, .inr (10, [.ref a0, .int 13, .int 0, .int (-1), .int 0, .int 0, .int 0, .int 0])), (a0, .inl (cB, 1600, .inl f5))] := hD
  refine lv_iinc (v := 16) (lv' := [(2, .int 16), (0, .ref h0), (1, .int p0)]) hx hb dX10_put_40 hl (k := 0) rfl (by decide) (by decide) rfl (fun ls hl => ?_)
  refine lv_goto (tgt := 3) hx hb dX10_put_43 (by decide) ?_
  refine lv_iload_n hx hb dX10_put_3 rfl (lv_at hl 0 rfl) ?_
  refine lv_if_lt (tgt := 46) hx hb dX10_put_4 (by decide) (fun c6 => absurd c6 (by decide)) (fun c6 => ?_)
  refine lv_aload_n hx hb dX10_put_7 rfl (lv_at hl 1 rfl) ?_
  refine va_get (D := (dC, dI)) (ci := 10) (v := .int 13) (C := RX10) (T := TX10) (N := 8) hx hb hwd inlX10 hown hK hP 0 rfl rfl 1 (by decide) (hwd _ kr8_16) (fun _ h9 => h9) rfl dX10_put_8 ?_
  refine lv_sipush (v := 1600) hx hb dX10_put_11 (by decide) ?_
  refine lv_icmp_ge (tgt := 40) hx hb dX10_put_14 (by decide) (fun c7 => absurd c7 (by decide)) (fun c7 => ?_)
  refine lv_aload_n hx hb dX10_put_17 rfl (lv_at hl 1 rfl) ?_
  refine va_get (D := (dC, dI)) (ci := 10) (v := .ref a0) (C := RX10) (T := TX10) (N := 8) hx hb hwd inlX10 hown hK hP 0 rfl rfl 0 (by decide) (hwd _ kr3_1) (fun _ h9 => h9) rfl dX10_put_18 ?_
  refine lv_aload_n hx hb dX10_put_21 rfl (lv_at hl 1 rfl) ?_
  refine va_get (D := (dC, dI)) (ci := 10) (v := .int 13) (C := RX10) (T := TX10) (N := 8) hx hb hwd inlX10 hown hK hP 0 rfl rfl 1 (by decide) (hwd _ kr8_16) (fun _ h9 => h9) rfl dX10_put_22 ?_
  refine lv_iload_n hx hb dX10_put_25 rfl (lv_at hl 2 rfl) ?_
  refine lv_iload_n hx hb dX10_put_26 rfl (lv_at hl 0 rfl) ?_
  refine lv_iushr hx hb dX10_put_27 rfl ?_
  refine lv_topi (fun x8 ex8 => ?_)
  refine lv_i2b hx hb dX10_put_28 rfl ?_
  refine lv_topi (fun x9 ex9 => ?_)
  refine va_bast hx hb hK hP hD hS 1 2 rfl rfl (vin (by decide)) dX10_put_29 (fun H locs hP hD hS => ?_)
  obtain ⟨f10, ef10⟩ : ∃ f, f = upd f5 (13 : Int32).toNatClampNeg (vp_nar .byte x9) := ⟨_, rfl⟩
  have hP : va_P (dC, dI) vwCl [(h0, .inr (10, [.ref a0, .int 13, .int 0, .int (-1), .int 0, .int 0, .int 0, .int 0])), (a0, .inl (cB, 1600, .inl f10))] H := by rw [ef10]; exact hP
  have hD : va_D A [(h0, .inr (10, [.ref a0, .int 13, .int 0, .int (-1), .int 0, .int 0, .int 0, .int 0])), (a0, .inl (cB, 1600, .inl f10))] := by rw [ef10]; exact hD
  refine lv_aload_n hx hb dX10_put_30 rfl (lv_at hl 1 rfl) ?_
  refine lv_dup hx hb dX10_put_31 rfl ?_
  refine va_get (D := (dC, dI)) (ci := 10) (v := .int 13) (C := RX10) (T := TX10) (N := 8) hx hb hwd inlX10 hown hK hP 0 rfl rfl 1 (by decide) (hwd _ kr8_16) (fun _ h9 => h9) rfl dX10_put_32 ?_
  refine lv_iconst (v := 1) hx hb dX10_put_35 (by decide) ?_
  refine lv_iadd hx hb dX10_put_36 ?_
  refine lv_topi (nm_r (e' := (14)) (by decide +kernel) ?_)
  refine va_put (D := (dC, dI)) (ci := 10) (v := .int 14) (ty := .int) (C := RX10) (T := TX10) (N := 8) hx hb hwd inlX10 tyX10 tyX10_ok nmX10 hown hK hP hD hS 0 rfl rfl 1 (by decide) (hwd _ kr8_16) (fun _ h9 => h9) rfl (by decide +kernel) rfl rfl (Nat.le_of_ble_eq_true rfl) dX10_put_37 (fun H locs hP hD hS => ?_)
  have hP : va_P (dC, dI) vwCl [(h0, .inr (10, [.ref a0, .int 14, .int 0, .int (-1), .int 0, .int 0, .int 0, .int 0])), (a0, .inl (cB, 1600, .inl f10))] H := hP
  have hD : va_D A [(h0, .inr (10, [.ref a0, .int 14, .int 0, .int (-1), .int 0, .int 0, .int 0, .int 0])), (a0, .inl (cB, 1600, .inl f10))] := hD
  refine lv_iinc (v := 8) (lv' := [(2, .int 8), (0, .ref h0), (1, .int p0)]) hx hb dX10_put_40 hl (k := 0) rfl (by decide) (by decide) rfl (fun ls hl => ?_)
  refine lv_goto (tgt := 3) hx hb dX10_put_43 (by decide) ?_
  refine lv_iload_n hx hb dX10_put_3 rfl (lv_at hl 0 rfl) ?_
  refine lv_if_lt (tgt := 46) hx hb dX10_put_4 (by decide) (fun c11 => absurd c11 (by decide)) (fun c11 => ?_)
  refine lv_aload_n hx hb dX10_put_7 rfl (lv_at hl 1 rfl) ?_
  refine va_get (D := (dC, dI)) (ci := 10) (v := .int 14) (C := RX10) (T := TX10) (N := 8) hx hb hwd inlX10 hown hK hP 0 rfl rfl 1 (by decide) (hwd _ kr8_16) (fun _ h9 => h9) rfl dX10_put_8 ?_
  refine lv_sipush (v := 1600) hx hb dX10_put_11 (by decide) ?_
  refine lv_icmp_ge (tgt := 40) hx hb dX10_put_14 (by decide) (fun c12 => absurd c12 (by decide)) (fun c12 => ?_)
  refine lv_aload_n hx hb dX10_put_17 rfl (lv_at hl 1 rfl) ?_
  refine va_get (D := (dC, dI)) (ci := 10) (v := .ref a0) (C := RX10) (T := TX10) (N := 8) hx hb hwd inlX10 hown hK hP 0 rfl rfl 0 (by decide) (hwd _ kr3_1) (fun _ h9 => h9) rfl dX10_put_18 ?_
  refine lv_aload_n hx hb dX10_put_21 rfl (lv_at hl 1 rfl) ?_
  refine va_get (D := (dC, dI)) (ci := 10) (v := .int 14) (C := RX10) (T := TX10) (N := 8) hx hb hwd inlX10 hown hK hP 0 rfl rfl 1 (by decide) (hwd _ kr8_16) (fun _ h9 => h9) rfl dX10_put_22 ?_
  refine lv_iload_n hx hb dX10_put_25 rfl (lv_at hl 2 rfl) ?_
  refine lv_iload_n hx hb dX10_put_26 rfl (lv_at hl 0 rfl) ?_
  refine lv_iushr hx hb dX10_put_27 rfl ?_
  refine lv_topi (fun x13 ex13 => ?_)
  refine lv_i2b hx hb dX10_put_28 rfl ?_
  refine lv_topi (fun x14 ex14 => ?_)
  refine va_bast hx hb hK hP hD hS 1 2 rfl rfl (vin (by decide)) dX10_put_29 (fun H locs hP hD hS => ?_)
  obtain ⟨f15, ef15⟩ : ∃ f, f = upd f10 (14 : Int32).toNatClampNeg (vp_nar .byte x14) := ⟨_, rfl⟩
  have hP : va_P (dC, dI) vwCl [(h0, .inr (10, [.ref a0, .int 14, .int 0, .int (-1), .int 0, .int 0, .int 0, .int 0])), (a0, .inl (cB, 1600, .inl f15))] H := by rw [ef15]; exact hP
  have hD : va_D A [(h0, .inr (10, [.ref a0, .int 14, .int 0, .int (-1), .int 0, .int 0, .int 0, .int 0])), (a0, .inl (cB, 1600, .inl f15))] := by rw [ef15]; exact hD
  refine lv_aload_n hx hb dX10_put_30 rfl (lv_at hl 1 rfl) ?_
  refine lv_dup hx hb dX10_put_31 rfl ?_
  refine va_get (D := (dC, dI)) (ci := 10) (v := .int 14) (C := RX10) (T := TX10) (N := 8) hx hb hwd inlX10 hown hK hP 0 rfl rfl 1 (by decide) (hwd _ kr8_16) (fun _ h9 => h9) rfl dX10_put_32 ?_
  refine lv_iconst (v := 1) hx hb dX10_put_35 (by decide) ?_
  refine lv_iadd hx hb dX10_put_36 ?_
  refine lv_topi (nm_r (e' := (15)) (by decide +kernel) ?_)
  refine va_put (D := (dC, dI)) (ci := 10) (v := .int 15) (ty := .int) (C := RX10) (T := TX10) (N := 8) hx hb hwd inlX10 tyX10 tyX10_ok nmX10 hown hK hP hD hS 0 rfl rfl 1 (by decide) (hwd _ kr8_16) (fun _ h9 => h9) rfl (by decide +kernel) rfl rfl (Nat.le_of_ble_eq_true rfl) dX10_put_37 (fun H locs hP hD hS => ?_)
  have hP : va_P (dC, dI) vwCl [(h0, .inr (10, [.ref a0, .int 15, .int 0, .int (-1), .int 0, .int 0, .int 0, .int 0])), (a0, .inl (cB, 1600, .inl f15))] H := hP
  have hD : va_D A [(h0, .inr (10, [.ref a0, .int 15, .int 0, .int (-1), .int 0, .int 0, .int 0, .int 0])), (a0, .inl (cB, 1600, .inl f15))] := hD
  refine lv_iinc (v := 0) (lv' := [(2, .int 0), (0, .ref h0), (1, .int p0)]) hx hb dX10_put_40 hl (k := 0) rfl (by decide) (by decide) rfl (fun ls hl => ?_)
  refine lv_goto (tgt := 3) hx hb dX10_put_43 (by decide) ?_
  refine lv_iload_n hx hb dX10_put_3 rfl (lv_at hl 0 rfl) ?_
  refine lv_if_lt (tgt := 46) hx hb dX10_put_4 (by decide) (fun c16 => absurd c16 (by decide)) (fun c16 => ?_)
  refine lv_aload_n hx hb dX10_put_7 rfl (lv_at hl 1 rfl) ?_
  refine va_get (D := (dC, dI)) (ci := 10) (v := .int 15) (C := RX10) (T := TX10) (N := 8) hx hb hwd inlX10 hown hK hP 0 rfl rfl 1 (by decide) (hwd _ kr8_16) (fun _ h9 => h9) rfl dX10_put_8 ?_
  refine lv_sipush (v := 1600) hx hb dX10_put_11 (by decide) ?_
  refine lv_icmp_ge (tgt := 40) hx hb dX10_put_14 (by decide) (fun c17 => absurd c17 (by decide)) (fun c17 => ?_)
  refine lv_aload_n hx hb dX10_put_17 rfl (lv_at hl 1 rfl) ?_
  refine va_get (D := (dC, dI)) (ci := 10) (v := .ref a0) (C := RX10) (T := TX10) (N := 8) hx hb hwd inlX10 hown hK hP 0 rfl rfl 0 (by decide) (hwd _ kr3_1) (fun _ h9 => h9) rfl dX10_put_18 ?_
  refine lv_aload_n hx hb dX10_put_21 rfl (lv_at hl 1 rfl) ?_
  refine va_get (D := (dC, dI)) (ci := 10) (v := .int 15) (C := RX10) (T := TX10) (N := 8) hx hb hwd inlX10 hown hK hP 0 rfl rfl 1 (by decide) (hwd _ kr8_16) (fun _ h9 => h9) rfl dX10_put_22 ?_
  refine lv_iload_n hx hb dX10_put_25 rfl (lv_at hl 2 rfl) ?_
  refine lv_iload_n hx hb dX10_put_26 rfl (lv_at hl 0 rfl) ?_
  refine lv_iushr hx hb dX10_put_27 rfl ?_
  refine lv_topi (fun x18 ex18 => ?_)
  refine lv_i2b hx hb dX10_put_28 rfl ?_
  refine lv_topi (fun x19 ex19 => ?_)
  refine va_bast hx hb hK hP hD hS 1 2 rfl rfl (vin (by decide)) dX10_put_29 (fun H locs hP hD hS => ?_)
  obtain ⟨f20, ef20⟩ : ∃ f, f = upd f15 (15 : Int32).toNatClampNeg (vp_nar .byte x19) := ⟨_, rfl⟩
  have hP : va_P (dC, dI) vwCl [(h0, .inr (10, [.ref a0, .int 15, .int 0, .int (-1), .int 0, .int 0, .int 0, .int 0])), (a0, .inl (cB, 1600, .inl f20))] H := by rw [ef20]; exact hP
  have hD : va_D A [(h0, .inr (10, [.ref a0, .int 15, .int 0, .int (-1), .int 0, .int 0, .int 0, .int 0])), (a0, .inl (cB, 1600, .inl f20))] := by rw [ef20]; exact hD
  refine lv_aload_n hx hb dX10_put_30 rfl (lv_at hl 1 rfl) ?_
  refine lv_dup hx hb dX10_put_31 rfl ?_
  refine va_get (D := (dC, dI)) (ci := 10) (v := .int 15) (C := RX10) (T := TX10) (N := 8) hx hb hwd inlX10 hown hK hP 0 rfl rfl 1 (by decide) (hwd _ kr8_16) (fun _ h9 => h9) rfl dX10_put_32 ?_
  refine lv_iconst (v := 1) hx hb dX10_put_35 (by decide) ?_
  refine lv_iadd hx hb dX10_put_36 ?_
  refine lv_topi (nm_r (e' := (16)) (by decide +kernel) ?_)
  refine va_put (D := (dC, dI)) (ci := 10) (v := .int 16) (ty := .int) (C := RX10) (T := TX10) (N := 8) hx hb hwd inlX10 tyX10 tyX10_ok nmX10 hown hK hP hD hS 0 rfl rfl 1 (by decide) (hwd _ kr8_16) (fun _ h9 => h9) rfl (by decide +kernel) rfl rfl (Nat.le_of_ble_eq_true rfl) dX10_put_37 (fun H locs hP hD hS => ?_)
  have hP : va_P (dC, dI) vwCl [(h0, .inr (10, [.ref a0, .int 16, .int 0, .int (-1), .int 0, .int 0, .int 0, .int 0])), (a0, .inl (cB, 1600, .inl f20))] H := hP
  have hD : va_D A [(h0, .inr (10, [.ref a0, .int 16, .int 0, .int (-1), .int 0, .int 0, .int 0, .int 0])), (a0, .inl (cB, 1600, .inl f20))] := hD
  refine lv_iinc (v := (-8)) (lv' := [(2, .int (-8)), (0, .ref h0), (1, .int p0)]) hx hb dX10_put_40 hl (k := 0) rfl (by decide) (by decide) rfl (fun ls hl => ?_)
  refine lv_goto (tgt := 3) hx hb dX10_put_43 (by decide) ?_
  refine lv_iload_n hx hb dX10_put_3 rfl (lv_at hl 0 rfl) ?_
  refine lv_if_lt (tgt := 46) hx hb dX10_put_4 (by decide) (fun c21 => ?_) (fun c21 => absurd c21 (by decide))
  have hP9 := hP.sub (ws' := [(h0, .inr (10, [.ref a0, .int 16, .int 0, .int (-1), .int 0, .int 0, .int 0, .int 0])), (a0, .inl (cB, 1600, .inl f20))]) [0, 1] rfl
  have hD9 := hD.sub (ws' := [(h0, .inr (10, [.ref a0, .int 16, .int 0, .int (-1), .int 0, .int 0, .int 0, .int 0])), (a0, .inl (cB, 1600, .inl f20))]) [0, 1] (by decide) rfl
  exact W.vret hx hb hr (fun t ht hW => ⟨⟨f20, rfl, trivial, (by rw [ht]; exact hP9), hD9⟩, hS.F ht⟩) hS.2.2 dX10_put_46
set_option maxHeartbeats 4000000 in
set_option maxRecDepth 100000 in
theorem c_X10_put_16 (l : Launch) (dC : Nat → ClassId) (dI : Nat → Nat → Nat) (cI cZ cB cJ cM : ClassId) (h0 a0 : Nat) (f0 : Nat → Int32) (p0 : Int32) (sz : Nat) : Met l yX10_put (kw yX10_put cX10_put 3 none) ({ frames := 0, cells := 0, slots := 0, locals := 0 }) (va_Pc [.ref h0, .int p0] (kPre dC dI [(cI, .int), (cZ, .boolean), (cB, .byte), (cJ, .long), (cM, .object RX2)] [(h0, .inr (10, [.ref a0, .int 16, .int 0, .int (-1), .int 0, .int 0, .int 0, .int 0])), (a0, .inl (cB, 1600, .inl f0))] sz)) (va_Qv (fun _ : (Nat → Int32) => True) (fun u t => va_P (dC, dI) vwCl [(h0, .inr (10, [.ref a0, .int 20, .int 0, .int (-1), .int 0, .int 0, .int 0, .int 0])), (a0, .inl (cB, 1600, .inl u))] t.heap ∧ va_D (va_A [(h0, .inr (10, [.ref a0, .int 16, .int 0, .int (-1), .int 0, .int 0, .int 0, .int 0])), (a0, .inl (cB, 1600, .inl f0))] sz) [(h0, .inr (10, [.ref a0, .int 20, .int 0, .int (-1), .int 0, .int 0, .int 0, .int 0])), (a0, .inl (cB, 1600, .inl u))]) (va_A [(h0, .inr (10, [.ref a0, .int 16, .int 0, .int (-1), .int 0, .int 0, .int 0, .int 0])), (a0, .inl (cB, 1600, .inl f0))] sz)) 0 0 (va_A [(h0, .inr (10, [.ref a0, .int 16, .int 0, .int (-1), .int 0, .int 0, .int 0, .int 0])), (a0, .inl (cB, 1600, .inl f0))] sz) := by
  refine kEnter (by decide) (Nat.le_of_ble_eq_true rfl) ?_
  intro p e s m below meth c ls hx hb hr hml hown hlocks hin hwd hsz hP hK hD hl
  subst hsz
  generalize hAe : va_A [(h0, .inr (10, [.ref a0, .int 16, .int 0, .int (-1), .int 0, .int 0, .int 0, .int 0])), (a0, .inl (cB, 1600, .inl f0))] s.heap.size = A at hD ⊢
  have hA : ∀ q : Nat, s.heap.size ≤ q → A q := fun q h => by rw [← hAe]; exact Or.inr h
  have hS : va_S A s.heap s.heap [] := va_S.rf
  have hl : lv_has ls 3 [(0, .ref h0), (1, .int p0)] := hl
  refine lv_bipush (v := 24) hx hb dX10_put_0 (by decide) ?_
  refine lv_istore_n (lv' := [(2, .int 24), (0, .ref h0), (1, .int p0)]) hx hb dX10_put_2 rfl hl (by decide) rfl (fun ls hl => ?_)
  refine lv_iload_n hx hb dX10_put_3 rfl (lv_at hl 0 rfl) ?_
  refine lv_if_lt (tgt := 46) hx hb dX10_put_4 (by decide) (fun c1 => absurd c1 (by decide)) (fun c1 => ?_)
  refine lv_aload_n hx hb dX10_put_7 rfl (lv_at hl 1 rfl) ?_
  refine va_get (D := (dC, dI)) (ci := 10) (v := .int 16) (C := RX10) (T := TX10) (N := 8) hx hb hwd inlX10 hown hK hP 0 rfl rfl 1 (by decide) (hwd _ kr8_16) (fun _ h9 => h9) rfl dX10_put_8 ?_
  refine lv_sipush (v := 1600) hx hb dX10_put_11 (by decide) ?_
  refine lv_icmp_ge (tgt := 40) hx hb dX10_put_14 (by decide) (fun c2 => absurd c2 (by decide)) (fun c2 => ?_)
  refine lv_aload_n hx hb dX10_put_17 rfl (lv_at hl 1 rfl) ?_
  refine va_get (D := (dC, dI)) (ci := 10) (v := .ref a0) (C := RX10) (T := TX10) (N := 8) hx hb hwd inlX10 hown hK hP 0 rfl rfl 0 (by decide) (hwd _ kr3_1) (fun _ h9 => h9) rfl dX10_put_18 ?_
  refine lv_aload_n hx hb dX10_put_21 rfl (lv_at hl 1 rfl) ?_
  refine va_get (D := (dC, dI)) (ci := 10) (v := .int 16) (C := RX10) (T := TX10) (N := 8) hx hb hwd inlX10 hown hK hP 0 rfl rfl 1 (by decide) (hwd _ kr8_16) (fun _ h9 => h9) rfl dX10_put_22 ?_
  refine lv_iload_n hx hb dX10_put_25 rfl (lv_at hl 2 rfl) ?_
  refine lv_iload_n hx hb dX10_put_26 rfl (lv_at hl 0 rfl) ?_
  refine lv_iushr hx hb dX10_put_27 rfl ?_
  refine lv_topi (fun x3 ex3 => ?_)
  refine lv_i2b hx hb dX10_put_28 rfl ?_
  refine lv_topi (fun x4 ex4 => ?_)
  refine va_bast hx hb hK hP hD hS 1 2 rfl rfl (vin (by decide)) dX10_put_29 (fun H locs hP hD hS => ?_)
  obtain ⟨f5, ef5⟩ : ∃ f, f = upd f0 (16 : Int32).toNatClampNeg (vp_nar .byte x4) := ⟨_, rfl⟩
  have hP : va_P (dC, dI) vwCl [(h0, .inr (10, [.ref a0, .int 16, .int 0, .int (-1), .int 0, .int 0, .int 0, .int 0])), (a0, .inl (cB, 1600, .inl f5))] H := by rw [ef5]; exact hP
  have hD : va_D A [(h0, .inr (10, [.ref a0, .int 16, .int 0, .int (-1), .int 0, .int 0, .int 0, .int 0])), (a0, .inl (cB, 1600, .inl f5))] := by rw [ef5]; exact hD
  refine lv_aload_n hx hb dX10_put_30 rfl (lv_at hl 1 rfl) ?_
  refine lv_dup hx hb dX10_put_31 rfl ?_
  refine va_get (D := (dC, dI)) (ci := 10) (v := .int 16) (C := RX10) (T := TX10) (N := 8) hx hb hwd inlX10 hown hK hP 0 rfl rfl 1 (by decide) (hwd _ kr8_16) (fun _ h9 => h9) rfl dX10_put_32 ?_
  refine lv_iconst (v := 1) hx hb dX10_put_35 (by decide) ?_
  refine lv_iadd hx hb dX10_put_36 ?_
  refine lv_topi (nm_r (e' := (17)) (by decide +kernel) ?_)
  refine va_put (D := (dC, dI)) (ci := 10) (v := .int 17) (ty := .int) (C := RX10) (T := TX10) (N := 8) hx hb hwd inlX10 tyX10 tyX10_ok nmX10 hown hK hP hD hS 0 rfl rfl 1 (by decide) (hwd _ kr8_16) (fun _ h9 => h9) rfl (by decide +kernel) rfl rfl (Nat.le_of_ble_eq_true rfl) dX10_put_37 (fun H locs hP hD hS => ?_)
  have hP : va_P (dC, dI) vwCl [(h0, .inr (10, [.ref a0, .int 17, .int 0, .int (-1), .int 0, .int 0, .int 0, .int 0])), (a0, .inl (cB, 1600, .inl f5))] H := hP
  have hD : va_D A [(h0, .inr (10, [.ref a0, .int 17, .int 0, .int (-1), .int 0, .int 0, .int 0, .int 0])), (a0, .inl (cB, 1600, .inl f5))] := hD
  refine lv_iinc (v := 16) (lv' := [(2, .int 16), (0, .ref h0), (1, .int p0)]) hx hb dX10_put_40 hl (k := 0) rfl (by decide) (by decide) rfl (fun ls hl => ?_)
  refine lv_goto (tgt := 3) hx hb dX10_put_43 (by decide) ?_
  refine lv_iload_n hx hb dX10_put_3 rfl (lv_at hl 0 rfl) ?_
  refine lv_if_lt (tgt := 46) hx hb dX10_put_4 (by decide) (fun c6 => absurd c6 (by decide)) (fun c6 => ?_)
  refine lv_aload_n hx hb dX10_put_7 rfl (lv_at hl 1 rfl) ?_
  refine va_get (D := (dC, dI)) (ci := 10) (v := .int 17) (C := RX10) (T := TX10) (N := 8) hx hb hwd inlX10 hown hK hP 0 rfl rfl 1 (by decide) (hwd _ kr8_16) (fun _ h9 => h9) rfl dX10_put_8 ?_
  refine lv_sipush (v := 1600) hx hb dX10_put_11 (by decide) ?_
  refine lv_icmp_ge (tgt := 40) hx hb dX10_put_14 (by decide) (fun c7 => absurd c7 (by decide)) (fun c7 => ?_)
  refine lv_aload_n hx hb dX10_put_17 rfl (lv_at hl 1 rfl) ?_
  refine va_get (D := (dC, dI)) (ci := 10) (v := .ref a0) (C := RX10) (T := TX10) (N := 8) hx hb hwd inlX10 hown hK hP 0 rfl rfl 0 (by decide) (hwd _ kr3_1) (fun _ h9 => h9) rfl dX10_put_18 ?_
  refine lv_aload_n hx hb dX10_put_21 rfl (lv_at hl 1 rfl) ?_
  refine va_get (D := (dC, dI)) (ci := 10) (v := .int 17) (C := RX10) (T := TX10) (N := 8) hx hb hwd inlX10 hown hK hP 0 rfl rfl 1 (by decide) (hwd _ kr8_16) (fun _ h9 => h9) rfl dX10_put_22 ?_
  refine lv_iload_n hx hb dX10_put_25 rfl (lv_at hl 2 rfl) ?_
  refine lv_iload_n hx hb dX10_put_26 rfl (lv_at hl 0 rfl) ?_
  refine lv_iushr hx hb dX10_put_27 rfl ?_
  refine lv_topi (fun x8 ex8 => ?_)
  refine lv_i2b hx hb dX10_put_28 rfl ?_
  refine lv_topi (fun x9 ex9 => ?_)
  refine va_bast hx hb hK hP hD hS 1 2 rfl rfl (vin (by decide)) dX10_put_29 (fun H locs hP hD hS => ?_)
  obtain ⟨f10, ef10⟩ : ∃ f, f = upd f5 (17 : Int32).toNatClampNeg (vp_nar .byte x9) := ⟨_, rfl⟩
  have hP : va_P (dC, dI) vwCl [(h0, .inr (10, [.ref a0, .int 17, .int 0, .int (-1), .int 0, .int 0, .int 0, .int 0])), (a0, .inl (cB, 1600, .inl f10))] H := by rw [ef10]; exact hP
  have hD : va_D A [(h0, .inr (10, [.ref a0, .int 17, .int 0, .int (-1), .int 0, .int 0, .int 0, .int 0])), (a0, .inl (cB, 1600, .inl f10))] := by rw [ef10]; exact hD
  refine lv_aload_n hx hb dX10_put_30 rfl (lv_at hl 1 rfl) ?_
  refine lv_dup hx hb dX10_put_31 rfl ?_
  refine va_get (D := (dC, dI)) (ci := 10) (v := .int 17) (C := RX10) (T := TX10) (N := 8) hx hb hwd inlX10 hown hK hP 0 rfl rfl 1 (by decide) (hwd _ kr8_16) (fun _ h9 => h9) rfl dX10_put_32 ?_
  refine lv_iconst (v := 1) hx hb dX10_put_35 (by decide) ?_
  refine lv_iadd hx hb dX10_put_36 ?_
  refine lv_topi (nm_r (e' := (18)) (by decide +kernel) ?_)
  refine va_put (D := (dC, dI)) (ci := 10) (v := .int 18) (ty := .int) (C := RX10) (T := TX10) (N := 8) hx hb hwd inlX10 tyX10 tyX10_ok nmX10 hown hK hP hD hS 0 rfl rfl 1 (by decide) (hwd _ kr8_16) (fun _ h9 => h9) rfl (by decide +kernel) rfl rfl (Nat.le_of_ble_eq_true rfl) dX10_put_37 (fun H locs hP hD hS => ?_)
  have hP : va_P (dC, dI) vwCl [(h0, .inr (10, [.ref a0, .int 18, .int 0, .int (-1), .int 0, .int 0, .int 0, .int 0])), (a0, .inl (cB, 1600, .inl f10))] H := hP
  have hD : va_D A [(h0, .inr (10, [.ref a0, .int 18, .int 0, .int (-1), .int 0, .int 0, .int 0, .int 0])), (a0, .inl (cB, 1600, .inl f10))] := hD
  refine lv_iinc (v := 8) (lv' := [(2, .int 8), (0, .ref h0), (1, .int p0)]) hx hb dX10_put_40 hl (k := 0) rfl (by decide) (by decide) rfl (fun ls hl => ?_)
  refine lv_goto (tgt := 3) hx hb dX10_put_43 (by decide) ?_
  refine lv_iload_n hx hb dX10_put_3 rfl (lv_at hl 0 rfl) ?_
  refine lv_if_lt (tgt := 46) hx hb dX10_put_4 (by decide) (fun c11 => absurd c11 (by decide)) (fun c11 => ?_)
  refine lv_aload_n hx hb dX10_put_7 rfl (lv_at hl 1 rfl) ?_
  refine va_get (D := (dC, dI)) (ci := 10) (v := .int 18) (C := RX10) (T := TX10) (N := 8) hx hb hwd inlX10 hown hK hP 0 rfl rfl 1 (by decide) (hwd _ kr8_16) (fun _ h9 => h9) rfl dX10_put_8 ?_
  refine lv_sipush (v := 1600) hx hb dX10_put_11 (by decide) ?_
  refine lv_icmp_ge (tgt := 40) hx hb dX10_put_14 (by decide) (fun c12 => absurd c12 (by decide)) (fun c12 => ?_)
  refine lv_aload_n hx hb dX10_put_17 rfl (lv_at hl 1 rfl) ?_
  refine va_get (D := (dC, dI)) (ci := 10) (v := .ref a0) (C := RX10) (T := TX10) (N := 8) hx hb hwd inlX10 hown hK hP 0 rfl rfl 0 (by decide) (hwd _ kr3_1) (fun _ h9 => h9) rfl dX10_put_18 ?_
  refine lv_aload_n hx hb dX10_put_21 rfl (lv_at hl 1 rfl) ?_
  refine va_get (D := (dC, dI)) (ci := 10) (v := .int 18) (C := RX10) (T := TX10) (N := 8) hx hb hwd inlX10 hown hK hP 0 rfl rfl 1 (by decide) (hwd _ kr8_16) (fun _ h9 => h9) rfl dX10_put_22 ?_
  refine lv_iload_n hx hb dX10_put_25 rfl (lv_at hl 2 rfl) ?_
  refine lv_iload_n hx hb dX10_put_26 rfl (lv_at hl 0 rfl) ?_
  refine lv_iushr hx hb dX10_put_27 rfl ?_
  refine lv_topi (fun x13 ex13 => ?_)
  refine lv_i2b hx hb dX10_put_28 rfl ?_
  refine lv_topi (fun x14 ex14 => ?_)
  refine va_bast hx hb hK hP hD hS 1 2 rfl rfl (vin (by decide)) dX10_put_29 (fun H locs hP hD hS => ?_)
  obtain ⟨f15, ef15⟩ : ∃ f, f = upd f10 (18 : Int32).toNatClampNeg (vp_nar .byte x14) := ⟨_, rfl⟩
  have hP : va_P (dC, dI) vwCl [(h0, .inr (10, [.ref a0, .int 18, .int 0, .int (-1), .int 0, .int 0, .int 0, .int 0])), (a0, .inl (cB, 1600, .inl f15))] H := by rw [ef15]; exact hP
  have hD : va_D A [(h0, .inr (10, [.ref a0, .int 18, .int 0, .int (-1), .int 0, .int 0, .int 0, .int 0])), (a0, .inl (cB, 1600, .inl f15))] := by rw [ef15]; exact hD
  refine lv_aload_n hx hb dX10_put_30 rfl (lv_at hl 1 rfl) ?_
  refine lv_dup hx hb dX10_put_31 rfl ?_
  refine va_get (D := (dC, dI)) (ci := 10) (v := .int 18) (C := RX10) (T := TX10) (N := 8) hx hb hwd inlX10 hown hK hP 0 rfl rfl 1 (by decide) (hwd _ kr8_16) (fun _ h9 => h9) rfl dX10_put_32 ?_
  refine lv_iconst (v := 1) hx hb dX10_put_35 (by decide) ?_
  refine lv_iadd hx hb dX10_put_36 ?_
  refine lv_topi (nm_r (e' := (19)) (by decide +kernel) ?_)
  refine va_put (D := (dC, dI)) (ci := 10) (v := .int 19) (ty := .int) (C := RX10) (T := TX10) (N := 8) hx hb hwd inlX10 tyX10 tyX10_ok nmX10 hown hK hP hD hS 0 rfl rfl 1 (by decide) (hwd _ kr8_16) (fun _ h9 => h9) rfl (by decide +kernel) rfl rfl (Nat.le_of_ble_eq_true rfl) dX10_put_37 (fun H locs hP hD hS => ?_)
  have hP : va_P (dC, dI) vwCl [(h0, .inr (10, [.ref a0, .int 19, .int 0, .int (-1), .int 0, .int 0, .int 0, .int 0])), (a0, .inl (cB, 1600, .inl f15))] H := hP
  have hD : va_D A [(h0, .inr (10, [.ref a0, .int 19, .int 0, .int (-1), .int 0, .int 0, .int 0, .int 0])), (a0, .inl (cB, 1600, .inl f15))] := hD
  refine lv_iinc (v := 0) (lv' := [(2, .int 0), (0, .ref h0), (1, .int p0)]) hx hb dX10_put_40 hl (k := 0) rfl (by decide) (by decide) rfl (fun ls hl => ?_)
  refine lv_goto (tgt := 3) hx hb dX10_put_43 (by decide) ?_
  refine lv_iload_n hx hb dX10_put_3 rfl (lv_at hl 0 rfl) ?_
  refine lv_if_lt (tgt := 46) hx hb dX10_put_4 (by decide) (fun c16 => absurd c16 (by decide)) (fun c16 => ?_)
  refine lv_aload_n hx hb dX10_put_7 rfl (lv_at hl 1 rfl) ?_
  refine va_get (D := (dC, dI)) (ci := 10) (v := .int 19) (C := RX10) (T := TX10) (N := 8) hx hb hwd inlX10 hown hK hP 0 rfl rfl 1 (by decide) (hwd _ kr8_16) (fun _ h9 => h9) rfl dX10_put_8 ?_
  refine lv_sipush (v := 1600) hx hb dX10_put_11 (by decide) ?_
  refine lv_icmp_ge (tgt := 40) hx hb dX10_put_14 (by decide) (fun c17 => absurd c17 (by decide)) (fun c17 => ?_)
  refine lv_aload_n hx hb dX10_put_17 rfl (lv_at hl 1 rfl) ?_
  refine va_get (D := (dC, dI)) (ci := 10) (v := .ref a0) (C := RX10) (T := TX10) (N := 8) hx hb hwd inlX10 hown hK hP 0 rfl rfl 0 (by decide) (hwd _ kr3_1) (fun _ h9 => h9) rfl dX10_put_18 ?_
  refine lv_aload_n hx hb dX10_put_21 rfl (lv_at hl 1 rfl) ?_
  refine va_get (D := (dC, dI)) (ci := 10) (v := .int 19) (C := RX10) (T := TX10) (N := 8) hx hb hwd inlX10 hown hK hP 0 rfl rfl 1 (by decide) (hwd _ kr8_16) (fun _ h9 => h9) rfl dX10_put_22 ?_
  refine lv_iload_n hx hb dX10_put_25 rfl (lv_at hl 2 rfl) ?_
  refine lv_iload_n hx hb dX10_put_26 rfl (lv_at hl 0 rfl) ?_
  refine lv_iushr hx hb dX10_put_27 rfl ?_
  refine lv_topi (fun x18 ex18 => ?_)
  refine lv_i2b hx hb dX10_put_28 rfl ?_
  refine lv_topi (fun x19 ex19 => ?_)
  refine va_bast hx hb hK hP hD hS 1 2 rfl rfl (vin (by decide)) dX10_put_29 (fun H locs hP hD hS => ?_)
  obtain ⟨f20, ef20⟩ : ∃ f, f = upd f15 (19 : Int32).toNatClampNeg (vp_nar .byte x19) := ⟨_, rfl⟩
  have hP : va_P (dC, dI) vwCl [(h0, .inr (10, [.ref a0, .int 19, .int 0, .int (-1), .int 0, .int 0, .int 0, .int 0])), (a0, .inl (cB, 1600, .inl f20))] H := by rw [ef20]; exact hP
  have hD : va_D A [(h0, .inr (10, [.ref a0, .int 19, .int 0, .int (-1), .int 0, .int 0, .int 0, .int 0])), (a0, .inl (cB, 1600, .inl f20))] := by rw [ef20]; exact hD
  refine lv_aload_n hx hb dX10_put_30 rfl (lv_at hl 1 rfl) ?_
  refine lv_dup hx hb dX10_put_31 rfl ?_
  refine va_get (D := (dC, dI)) (ci := 10) (v := .int 19) (C := RX10) (T := TX10) (N := 8) hx hb hwd inlX10 hown hK hP 0 rfl rfl 1 (by decide) (hwd _ kr8_16) (fun _ h9 => h9) rfl dX10_put_32 ?_
  refine lv_iconst (v := 1) hx hb dX10_put_35 (by decide) ?_
  refine lv_iadd hx hb dX10_put_36 ?_
  refine lv_topi (nm_r (e' := (20)) (by decide +kernel) ?_)
  refine va_put (D := (dC, dI)) (ci := 10) (v := .int 20) (ty := .int) (C := RX10) (T := TX10) (N := 8) hx hb hwd inlX10 tyX10 tyX10_ok nmX10 hown hK hP hD hS 0 rfl rfl 1 (by decide) (hwd _ kr8_16) (fun _ h9 => h9) rfl (by decide +kernel) rfl rfl (Nat.le_of_ble_eq_true rfl) dX10_put_37 (fun H locs hP hD hS => ?_)
  have hP : va_P (dC, dI) vwCl [(h0, .inr (10, [.ref a0, .int 20, .int 0, .int (-1), .int 0, .int 0, .int 0, .int 0])), (a0, .inl (cB, 1600, .inl f20))] H := hP
  have hD : va_D A [(h0, .inr (10, [.ref a0, .int 20, .int 0, .int (-1), .int 0, .int 0, .int 0, .int 0])), (a0, .inl (cB, 1600, .inl f20))] := hD
  refine lv_iinc (v := (-8)) (lv' := [(2, .int (-8)), (0, .ref h0), (1, .int p0)]) hx hb dX10_put_40 hl (k := 0) rfl (by decide) (by decide) rfl (fun ls hl => ?_)
  refine lv_goto (tgt := 3) hx hb dX10_put_43 (by decide) ?_
  refine lv_iload_n hx hb dX10_put_3 rfl (lv_at hl 0 rfl) ?_
  refine lv_if_lt (tgt := 46) hx hb dX10_put_4 (by decide) (fun c21 => ?_) (fun c21 => absurd c21 (by decide))
  have hP9 := hP.sub (ws' := [(h0, .inr (10, [.ref a0, .int 20, .int 0, .int (-1), .int 0, .int 0, .int 0, .int 0])), (a0, .inl (cB, 1600, .inl f20))]) [0, 1] rfl
  have hD9 := hD.sub (ws' := [(h0, .inr (10, [.ref a0, .int 20, .int 0, .int (-1), .int 0, .int 0, .int 0, .int 0])), (a0, .inl (cB, 1600, .inl f20))]) [0, 1] (by decide) rfl
  exact W.vret hx hb hr (fun t ht hW => ⟨⟨f20, rfl, trivial, (by rw [ht]; exact hP9), hD9⟩, hS.F ht⟩) hS.2.2 dX10_put_46
set_option maxHeartbeats 4000000 in
set_option maxRecDepth 100000 in
theorem c_X10_goesOn (l : Launch) (dC : Nat → ClassId) (dI : Nat → Nat → Nat) (cI cZ cB cJ cM : ClassId) (h0 a0 : Nat) (sz : Nat) : Met l yX10_goesOn (kw yX10_goesOn cX10_goesOn 1 (some .boolean)) ({ frames := 0, cells := 0, slots := 0, locals := 0 }) (va_Pc [.ref h0] (kPre dC dI [(cI, .int), (cZ, .boolean), (cB, .byte), (cJ, .long), (cM, .object RX2)] [(h0, .inr (10, [.ref a0, .int 0, .int 0, .int (-1), .int 0, .int 0, .int 0, .int 0]))] sz)) (va_Qi (fun (r : Int32) (_ : Unit) => r = 0) (fun _ t => va_P (dC, dI) vwCl [(h0, .inr (10, [.ref a0, .int 0, .int 0, .int (-1), .int 0, .int 0, .int 0, .int 0]))] t.heap ∧ va_D (va_A [(h0, .inr (10, [.ref a0, .int 0, .int 0, .int (-1), .int 0, .int 0, .int 0, .int 0]))] sz) [(h0, .inr (10, [.ref a0, .int 0, .int 0, .int (-1), .int 0, .int 0, .int 0, .int 0]))]) (va_A [(h0, .inr (10, [.ref a0, .int 0, .int 0, .int (-1), .int 0, .int 0, .int 0, .int 0]))] sz)) 0 0 (va_A [(h0, .inr (10, [.ref a0, .int 0, .int 0, .int (-1), .int 0, .int 0, .int 0, .int 0]))] sz) := by
  refine kEnter (by decide) (Nat.le_of_ble_eq_true rfl) ?_
  intro p e s m below meth c ls hx hb hr hml hown hlocks hin hwd hsz hP hK hD hl
  subst hsz
  generalize hAe : va_A [(h0, .inr (10, [.ref a0, .int 0, .int 0, .int (-1), .int 0, .int 0, .int 0, .int 0]))] s.heap.size = A at hD ⊢
  have hA : ∀ q : Nat, s.heap.size ≤ q → A q := fun q h => by rw [← hAe]; exact Or.inr h
  have hS : va_S A s.heap s.heap [] := va_S.rf
  have hl : lv_has ls 1 [(0, .ref h0)] := hl
  refine lv_aload_n hx hb dX10_goesOn_0 rfl (lv_at hl 0 rfl) ?_
  refine va_get (D := (dC, dI)) (ci := 10) (v := .int 0) (C := RX10) (T := TX10) (N := 8) hx hb hwd inlX10 hown hK hP 0 rfl rfl 2 (by decide) (hwd _ kr11_2) (fun _ h9 => h9) rfl dX10_goesOn_1 ?_
  refine lv_if_ne (tgt := 18) hx hb dX10_goesOn_4 (by decide) (fun c1 => absurd c1 (by decide)) (fun c1 => ?_)
  refine lv_aload_n hx hb dX10_goesOn_7 rfl (lv_at hl 0 rfl) ?_
  refine va_get (D := (dC, dI)) (ci := 10) (v := .int 0) (C := RX10) (T := TX10) (N := 8) hx hb hwd inlX10 hown hK hP 0 rfl rfl 4 (by decide) (hwd _ kr11_9) (fun _ h9 => h9) rfl dX10_goesOn_8 ?_
  refine lv_if_eq (tgt := 18) hx hb dX10_goesOn_11 (by decide) (fun c2 => ?_) (fun c2 => absurd c2 (by decide))
  refine lv_iconst (v := 0) hx hb dX10_goesOn_18 (by decide) ?_
  have hP9 := hP.sub (ws' := [(h0, .inr (10, [.ref a0, .int 0, .int 0, .int (-1), .int 0, .int 0, .int 0, .int 0]))]) [0] rfl
  have hD9 := hD.sub (ws' := [(h0, .inr (10, [.ref a0, .int 0, .int 0, .int (-1), .int 0, .int 0, .int 0, .int 0]))]) [0] (by decide) rfl
  exact W.zret (v := 0) hx hb hr (by decide) (fun t ht hW => ⟨⟨0, (), rfl, rfl, (by rw [ht]; exact hP9), hD9⟩, hS.F ht⟩) hS.2.2 dX10_goesOn_19
set_option maxHeartbeats 4000000 in
set_option maxRecDepth 100000 in
theorem c_X10_behindBlanks (l : Launch) (dC : Nat → ClassId) (dI : Nat → Nat → Nat) (cI cZ cB cJ cM : ClassId) (h0 a0 : Nat) (sz : Nat) : Met l yX10_behindBlanks (kw yX10_behindBlanks cX10_behindBlanks 3 (some .int)) ({ frames := 0, cells := 0, slots := 0, locals := 0 }) (va_Pc [.ref h0, .int 0] (kPre dC dI [(cI, .int), (cZ, .boolean), (cB, .byte), (cJ, .long), (cM, .object RX2)] [(h0, .inr (10, [.ref a0, .int 0, .int 0, .int (-1), .int 0, .int 0, .int 0, .int 0]))] sz)) (va_Qi (fun (r : Int32) (_ : Unit) => r = 0) (fun _ t => va_P (dC, dI) vwCl [(h0, .inr (10, [.ref a0, .int 0, .int 0, .int (-1), .int 0, .int 0, .int 0, .int 0]))] t.heap ∧ va_D (va_A [(h0, .inr (10, [.ref a0, .int 0, .int 0, .int (-1), .int 0, .int 0, .int 0, .int 0]))] sz) [(h0, .inr (10, [.ref a0, .int 0, .int 0, .int (-1), .int 0, .int 0, .int 0, .int 0]))]) (va_A [(h0, .inr (10, [.ref a0, .int 0, .int 0, .int (-1), .int 0, .int 0, .int 0, .int 0]))] sz)) 0 0 (va_A [(h0, .inr (10, [.ref a0, .int 0, .int 0, .int (-1), .int 0, .int 0, .int 0, .int 0]))] sz) := by
  refine kEnter (by decide) (Nat.le_of_ble_eq_true rfl) ?_
  intro p e s m below meth c ls hx hb hr hml hown hlocks hin hwd hsz hP hK hD hl
  subst hsz
  generalize hAe : va_A [(h0, .inr (10, [.ref a0, .int 0, .int 0, .int (-1), .int 0, .int 0, .int 0, .int 0]))] s.heap.size = A at hD ⊢
  have hA : ∀ q : Nat, s.heap.size ≤ q → A q := fun q h => by rw [← hAe]; exact Or.inr h
  have hS : va_S A s.heap s.heap [] := va_S.rf
  have hl : lv_has ls 3 [(0, .ref h0), (1, .int 0)] := hl
  refine lv_iload_n hx hb dX10_behindBlanks_0 rfl (lv_at hl 1 rfl) ?_
  refine lv_istore_n (lv' := [(2, .int 0), (0, .ref h0), (1, .int 0)]) hx hb dX10_behindBlanks_1 rfl hl (by decide) rfl (fun ls hl => ?_)
  refine lv_iload_n hx hb dX10_behindBlanks_2 rfl (lv_at hl 0 rfl) ?_
  refine lv_aload_n hx hb dX10_behindBlanks_3 rfl (lv_at hl 1 rfl) ?_
  refine va_get (D := (dC, dI)) (ci := 10) (v := .int 0) (C := RX10) (T := TX10) (N := 8) hx hb hwd inlX10 hown hK hP 0 rfl rfl 1 (by decide) (hwd _ kr8_16) (fun _ h9 => h9) rfl dX10_behindBlanks_4 ?_
  refine lv_icmp_ge (tgt := 38) hx hb dX10_behindBlanks_7 (by decide) (fun c1 => ?_) (fun c1 => absurd c1 (by decide))
  refine lv_iload_n hx hb dX10_behindBlanks_38 rfl (lv_at hl 0 rfl) ?_
  have hP9 := hP.sub (ws' := [(h0, .inr (10, [.ref a0, .int 0, .int 0, .int (-1), .int 0, .int 0, .int 0, .int 0]))]) [0] rfl
  have hD9 := hD.sub (ws' := [(h0, .inr (10, [.ref a0, .int 0, .int 0, .int (-1), .int 0, .int 0, .int 0, .int 0]))]) [0] (by decide) rfl
  exact W.iret (v := 0) hx hb hr (fun t ht hW => ⟨⟨0, (), rfl, rfl, (by rw [ht]; exact hP9), hD9⟩, hS.F ht⟩) hS.2.2 dX10_behindBlanks_39
set_option maxHeartbeats 4000000 in
set_option maxRecDepth 100000 in
theorem c_X10_byteAt (l : Launch) (dC : Nat → ClassId) (dI : Nat → Nat → Nat) (cI cZ cB cJ cM : ClassId) (h0 a0 : Nat) (sz : Nat) : Met l yX10_byteAt (kw yX10_byteAt cX10_byteAt 2 (some .int)) ({ frames := 0, cells := 0, slots := 0, locals := 0 }) (va_Pc [.ref h0, .int 0] (kPre dC dI [(cI, .int), (cZ, .boolean), (cB, .byte), (cJ, .long), (cM, .object RX2)] [(h0, .inr (10, [.ref a0, .int 0, .int 0, .int (-1), .int 0, .int 0, .int 0, .int 0]))] sz)) (va_Qi (fun (r : Int32) (_ : Unit) => r = (-1)) (fun _ t => va_P (dC, dI) vwCl [(h0, .inr (10, [.ref a0, .int 0, .int 0, .int (-1), .int 0, .int 0, .int 0, .int 0]))] t.heap ∧ va_D (va_A [(h0, .inr (10, [.ref a0, .int 0, .int 0, .int (-1), .int 0, .int 0, .int 0, .int 0]))] sz) [(h0, .inr (10, [.ref a0, .int 0, .int 0, .int (-1), .int 0, .int 0, .int 0, .int 0]))]) (va_A [(h0, .inr (10, [.ref a0, .int 0, .int 0, .int (-1), .int 0, .int 0, .int 0, .int 0]))] sz)) 0 0 (va_A [(h0, .inr (10, [.ref a0, .int 0, .int 0, .int (-1), .int 0, .int 0, .int 0, .int 0]))] sz) := by
  refine kEnter (by decide) (Nat.le_of_ble_eq_true rfl) ?_
  intro p e s m below meth c ls hx hb hr hml hown hlocks hin hwd hsz hP hK hD hl
  subst hsz
  generalize hAe : va_A [(h0, .inr (10, [.ref a0, .int 0, .int 0, .int (-1), .int 0, .int 0, .int 0, .int 0]))] s.heap.size = A at hD ⊢
  have hA : ∀ q : Nat, s.heap.size ≤ q → A q := fun q h => by rw [← hAe]; exact Or.inr h
  have hS : va_S A s.heap s.heap [] := va_S.rf
  have hl : lv_has ls 2 [(0, .ref h0), (1, .int 0)] := hl
  refine lv_iload_n hx hb dX10_byteAt_0 rfl (lv_at hl 1 rfl) ?_
  refine lv_if_lt (tgt := 19) hx hb dX10_byteAt_1 (by decide) (fun c1 => absurd c1 (by decide)) (fun c1 => ?_)
  refine lv_iload_n hx hb dX10_byteAt_4 rfl (lv_at hl 1 rfl) ?_
  refine lv_aload_n hx hb dX10_byteAt_5 rfl (lv_at hl 0 rfl) ?_
  refine va_get (D := (dC, dI)) (ci := 10) (v := .int 0) (C := RX10) (T := TX10) (N := 8) hx hb hwd inlX10 hown hK hP 0 rfl rfl 1 (by decide) (hwd _ kr8_16) (fun _ h9 => h9) rfl dX10_byteAt_6 ?_
  refine lv_icmp_ge (tgt := 19) hx hb dX10_byteAt_9 (by decide) (fun c2 => ?_) (fun c2 => absurd c2 (by decide))
  refine lv_iconst (v := (-1)) hx hb dX10_byteAt_19 (by decide) ?_
  refine lv_goto (tgt := 33) hx hb dX10_byteAt_20 (by decide) ?_
  have hP9 := hP.sub (ws' := [(h0, .inr (10, [.ref a0, .int 0, .int 0, .int (-1), .int 0, .int 0, .int 0, .int 0]))]) [0] rfl
  have hD9 := hD.sub (ws' := [(h0, .inr (10, [.ref a0, .int 0, .int 0, .int (-1), .int 0, .int 0, .int 0, .int 0]))]) [0] (by decide) rfl
  exact W.iret (v := (-1)) hx hb hr (fun t ht hW => ⟨⟨(-1), (), rfl, rfl, (by rw [ht]; exact hP9), hD9⟩, hS.F ht⟩) hS.2.2 dX10_byteAt_33
set_option maxHeartbeats 4000000 in
set_option maxRecDepth 100000 in
theorem c_X10_readToken (l : Launch) (dC : Nat → ClassId) (dI : Nat → Nat → Nat) (cI cZ cB cJ cM : ClassId) (h0 a0 : Nat) (sz : Nat) : Met l yX10_readToken (kw yX10_readToken cX10_readToken 2 none) ({ frames := 1, cells := 0, slots := 0, locals := 22 }) (va_Pc [.ref h0] (kPre dC dI [(cI, .int), (cZ, .boolean), (cB, .byte), (cJ, .long), (cM, .object RX2)] [(h0, .inr (10, [.ref a0, .int 0, .int 0, .int (-1), .int 0, .int 0, .int 0, .int 0]))] sz)) (va_Qv (fun _ : Unit => True) (fun _ t => va_P (dC, dI) vwCl [(h0, .inr (10, [.ref a0, .int 0, .int 0, .int (-1), .int 0, .int 0, .int 0, .int 0]))] t.heap ∧ va_D (va_A [(h0, .inr (10, [.ref a0, .int 0, .int 0, .int (-1), .int 0, .int 0, .int 0, .int 0]))] sz) [(h0, .inr (10, [.ref a0, .int 0, .int 0, .int (-1), .int 0, .int 0, .int 0, .int 0]))]) (va_A [(h0, .inr (10, [.ref a0, .int 0, .int 0, .int (-1), .int 0, .int 0, .int 0, .int 0]))] sz)) 0 0 (va_A [(h0, .inr (10, [.ref a0, .int 0, .int 0, .int (-1), .int 0, .int 0, .int 0, .int 0]))] sz) := by
  refine kEnter (by decide) (Nat.le_of_ble_eq_true rfl) ?_
  intro p e s m below meth c ls hx hb hr hml hown hlocks hin hwd hsz hP hK hD hl
  subst hsz
  generalize hAe : va_A [(h0, .inr (10, [.ref a0, .int 0, .int 0, .int (-1), .int 0, .int 0, .int 0, .int 0]))] s.heap.size = A at hD ⊢
  have hA : ∀ q : Nat, s.heap.size ≤ q → A q := fun q h => by rw [← hAe]; exact Or.inr h
  have hS : va_S A s.heap s.heap [] := va_S.rf
  have hl : lv_has ls 2 [(0, .ref h0)] := hl
  refine lv_aload_n hx hb dX10_readToken_0 rfl (lv_at hl 0 rfl) ?_
  refine lv_aload_n hx hb dX10_readToken_1 rfl (lv_at hl 0 rfl) ?_
  refine lv_aload_n hx hb dX10_readToken_2 rfl (lv_at hl 0 rfl) ?_
  refine va_get (D := (dC, dI)) (ci := 10) (v := .int 0) (C := RX10) (T := TX10) (N := 8) hx hb hwd inlX10 hown hK hP 0 rfl rfl 6 (by decide) (hwd _ kr11_3) (fun _ h9 => h9) rfl dX10_readToken_3 ?_
  have hPc := hP.sub (ws' := [(h0, .inr (10, [.ref a0, .int 0, .int 0, .int (-1), .int 0, .int 0, .int 0, .int 0]))]) [0] rfl
  have hDc := hD.sub (ws' := [(h0, .inr (10, [.ref a0, .int 0, .int 0, .int (-1), .int 0, .int 0, .int 0, .int 0]))]) [0] (by decide) rfl
  have hFc := va_free (wc := [(h0, .inr (10, [.ref a0, .int 0, .int 0, .int (-1), .int 0, .int 0, .int 0, .int 0]))]) hD hS hA [0] rfl
  refine va_calli (va_runV (As := [.int 0]) (rest := [.ref h0]) ⟨hx, hb, hml, hown, hwd⟩ (c_X10_behindBlanks l dC dI cI cZ cB cJ cM h0 a0 s.heap.size) (cwV 1 hwd (gV kr11_10 kr11_11 kr11_12 kr1_15 kr11_13) rfl rfl rfl (by decide +kernel) ⟨Nat.le_of_ble_eq_true rfl, Nat.le_of_ble_eq_true rfl⟩) (kPreV hPc hK hDc (ci := 10) (q0 := 0) rfl rfl) rfl rfl hl.1 rfl (lv_room (Nat.le_of_ble_eq_true rfl)) dX10_readToken_6 ⟨Nat.le_of_ble_eq_true rfl, Nat.le_of_ble_eq_true rfl⟩) hS (fun q _ h => hFc q h) hFc (fun r1 u2 t H1 locs ht9 hvm hw hB hz1 hk1 hS => ?_)
  obtain ⟨hP1, hD1⟩ := hB
  rw [ht9] at hP1
  obtain ⟨hP, hD⟩ := va_join (wr := []) (w1 := [(h0, .inr (10, [.ref a0, .int 0, .int 0, .int (-1), .int 0, .int 0, .int 0, .int 0]))]) hP hD [0] [] rfl rfl (by decide) (by decide) hk1 hFc hP1 hD1
  generalize H1 = H at hP hS ⊢
  have hP : va_P (dC, dI) vwCl [(h0, .inr (10, [.ref a0, .int 0, .int 0, .int (-1), .int 0, .int 0, .int 0, .int 0]))] H := hP
  have hD : va_D A [(h0, .inr (10, [.ref a0, .int 0, .int 0, .int (-1), .int 0, .int 0, .int 0, .int 0]))] := hD
  subst hw
  refine va_put (D := (dC, dI)) (ci := 10) (v := .int 0) (ty := .int) (C := RX10) (T := TX10) (N := 8) hx hb hwd inlX10 tyX10 tyX10_ok nmX10 hown hK hP hD hS 0 rfl rfl 5 (by decide) (hwd _ kr11_8) (fun _ h9 => h9) rfl (by decide +kernel) rfl rfl (Nat.le_of_ble_eq_true rfl) dX10_readToken_9 (fun H locs hP hD hS => ?_)
  have hP : va_P (dC, dI) vwCl [(h0, .inr (10, [.ref a0, .int 0, .int 0, .int (-1), .int 0, .int 0, .int 0, .int 0]))] H := hP
  have hD : va_D A [(h0, .inr (10, [.ref a0, .int 0, .int 0, .int (-1), .int 0, .int 0, .int 0, .int 0]))] := hD
  refine lv_aload_n hx hb dX10_readToken_12 rfl (lv_at hl 0 rfl) ?_
  refine lv_aload_n hx hb dX10_readToken_13 rfl (lv_at hl 0 rfl) ?_
  refine va_get (D := (dC, dI)) (ci := 10) (v := .int 0) (C := RX10) (T := TX10) (N := 8) hx hb hwd inlX10 hown hK hP 0 rfl rfl 5 (by decide) (hwd _ kr11_8) (fun _ h9 => h9) rfl dX10_readToken_14 ?_
  have hPc := hP.sub (ws' := [(h0, .inr (10, [.ref a0, .int 0, .int 0, .int (-1), .int 0, .int 0, .int 0, .int 0]))]) [0] rfl
  have hDc := hD.sub (ws' := [(h0, .inr (10, [.ref a0, .int 0, .int 0, .int (-1), .int 0, .int 0, .int 0, .int 0]))]) [0] (by decide) rfl
  have hFc := va_free (wc := [(h0, .inr (10, [.ref a0, .int 0, .int 0, .int (-1), .int 0, .int 0, .int 0, .int 0]))]) hD hS hA [0] rfl
  refine va_calli (va_runV (As := [.int 0]) (rest := []) ⟨hx, hb, hml, hown, hwd⟩ (c_X10_byteAt l dC dI cI cZ cB cJ cM h0 a0 H.size) (cwV 1 hwd (gV kr11_14 kr11_15 kr11_16 kr1_15 kr11_17) rfl rfl rfl (by decide +kernel) ⟨Nat.le_of_ble_eq_true rfl, Nat.le_of_ble_eq_true rfl⟩) (kPreV hPc hK hDc (ci := 10) (q0 := 0) rfl rfl) rfl rfl hl.1 rfl (lv_room (Nat.le_of_ble_eq_true rfl)) dX10_readToken_17 ⟨Nat.le_of_ble_eq_true rfl, Nat.le_of_ble_eq_true rfl⟩) hS (fun q _ h => hFc q h) hFc (fun r3 u4 t H1 locs ht9 hvm hw hB hz1 hk1 hS => ?_)
  obtain ⟨hP1, hD1⟩ := hB
  rw [ht9] at hP1
  obtain ⟨hP, hD⟩ := va_join (wr := []) (w1 := [(h0, .inr (10, [.ref a0, .int 0, .int 0, .int (-1), .int 0, .int 0, .int 0, .int 0]))]) hP hD [0] [] rfl rfl (by decide) (by decide) hk1 hFc hP1 hD1
  generalize H1 = H at hP hS ⊢
  have hP : va_P (dC, dI) vwCl [(h0, .inr (10, [.ref a0, .int 0, .int 0, .int (-1), .int 0, .int 0, .int 0, .int 0]))] H := hP
  have hD : va_D A [(h0, .inr (10, [.ref a0, .int 0, .int 0, .int (-1), .int 0, .int 0, .int 0, .int 0]))] := hD
  subst hw
  refine lv_istore_n (lv' := [(1, .int (-1)), (0, .ref h0)]) hx hb dX10_readToken_20 rfl hl (by decide) rfl (fun ls hl => ?_)
  refine lv_iload_n hx hb dX10_readToken_21 rfl (lv_at hl 0 rfl) ?_
  refine lv_iconst (v := (-1)) hx hb dX10_readToken_22 (by decide) ?_
  refine lv_icmp_ne (tgt := 42) hx hb dX10_readToken_23 (by decide) (fun c5 => absurd c5 (by decide)) (fun c5 => ?_)
  refine lv_aload_n hx hb dX10_readToken_26 rfl (lv_at hl 1 rfl) ?_
  refine lv_iconst (v := 0) hx hb dX10_readToken_27 (by decide) ?_
  refine va_put (D := (dC, dI)) (ci := 10) (v := .int 0) (ty := .int) (C := RX10) (T := TX10) (N := 8) hx hb hwd inlX10 tyX10 tyX10_ok nmX10 hown hK hP hD hS 0 rfl rfl 4 (by decide) (hwd _ kr11_9) (fun _ h9 => h9) rfl (by decide +kernel) rfl rfl (Nat.le_of_ble_eq_true rfl) dX10_readToken_28 (fun H locs hP hD hS => ?_)
  have hP : va_P (dC, dI) vwCl [(h0, .inr (10, [.ref a0, .int 0, .int 0, .int (-1), .int 0, .int 0, .int 0, .int 0]))] H := hP
  have hD : va_D A [(h0, .inr (10, [.ref a0, .int 0, .int 0, .int (-1), .int 0, .int 0, .int 0, .int 0]))] := hD
  refine lv_aload_n hx hb dX10_readToken_31 rfl (lv_at hl 1 rfl) ?_
  refine lv_aload_n hx hb dX10_readToken_32 rfl (lv_at hl 1 rfl) ?_
  refine va_get (D := (dC, dI)) (ci := 10) (v := .int 0) (C := RX10) (T := TX10) (N := 8) hx hb hwd inlX10 hown hK hP 0 rfl rfl 5 (by decide) (hwd _ kr11_8) (fun _ h9 => h9) rfl dX10_readToken_33 ?_
  refine va_put (D := (dC, dI)) (ci := 10) (v := .int 0) (ty := .int) (C := RX10) (T := TX10) (N := 8) hx hb hwd inlX10 tyX10 tyX10_ok nmX10 hown hK hP hD hS 0 rfl rfl 6 (by decide) (hwd _ kr11_3) (fun _ h9 => h9) rfl (by decide +kernel) rfl rfl (Nat.le_of_ble_eq_true rfl) dX10_readToken_36 (fun H locs hP hD hS => ?_)
  have hP : va_P (dC, dI) vwCl [(h0, .inr (10, [.ref a0, .int 0, .int 0, .int (-1), .int 0, .int 0, .int 0, .int 0]))] H := hP
  have hD : va_D A [(h0, .inr (10, [.ref a0, .int 0, .int 0, .int (-1), .int 0, .int 0, .int 0, .int 0]))] := hD
  refine lv_goto (tgt := 133) hx hb dX10_readToken_39 (by decide) ?_
  have hP9 := hP.sub (ws' := [(h0, .inr (10, [.ref a0, .int 0, .int 0, .int (-1), .int 0, .int 0, .int 0, .int 0]))]) [0] rfl
  have hD9 := hD.sub (ws' := [(h0, .inr (10, [.ref a0, .int 0, .int 0, .int (-1), .int 0, .int 0, .int 0, .int 0]))]) [0] (by decide) rfl
  exact W.vret hx hb hr (fun t ht hW => ⟨⟨(), rfl, trivial, (by rw [ht]; exact hP9), hD9⟩, hS.F ht⟩) hS.2.2 dX10_readToken_133
set_option maxHeartbeats 4000000 in
set_option maxRecDepth 100000 in
theorem c_X10_beginReading (l : Launch) (dC : Nat → ClassId) (dI : Nat → Nat → Nat) (cI cZ cB cJ cM : ClassId) (h0 a0 : Nat) (sz : Nat) : Met l yX10_beginReading (kw yX10_beginReading cX10_beginReading 1 none) ({ frames := 2, cells := 0, slots := 0, locals := 43 }) (va_Pc [.ref h0] (kPre dC dI [(cI, .int), (cZ, .boolean), (cB, .byte), (cJ, .long), (cM, .object RX2)] [(h0, .inr (10, [.ref a0, .int 0, .int 0, .int (-1), .int 0, .int 0, .int 0, .int 0]))] sz)) (va_Qv (fun _ : Unit => True) (fun _ t => va_P (dC, dI) vwCl [(h0, .inr (10, [.ref a0, .int 0, .int 0, .int (-1), .int 0, .int 0, .int 0, .int 0]))] t.heap ∧ va_D (va_A [(h0, .inr (10, [.ref a0, .int 0, .int 0, .int (-1), .int 0, .int 0, .int 0, .int 0]))] sz) [(h0, .inr (10, [.ref a0, .int 0, .int 0, .int (-1), .int 0, .int 0, .int 0, .int 0]))]) (va_A [(h0, .inr (10, [.ref a0, .int 0, .int 0, .int (-1), .int 0, .int 0, .int 0, .int 0]))] sz)) 0 0 (va_A [(h0, .inr (10, [.ref a0, .int 0, .int 0, .int (-1), .int 0, .int 0, .int 0, .int 0]))] sz) := by
  refine kEnter (by decide) (Nat.le_of_ble_eq_true rfl) ?_
  intro p e s m below meth c ls hx hb hr hml hown hlocks hin hwd hsz hP hK hD hl
  subst hsz
  generalize hAe : va_A [(h0, .inr (10, [.ref a0, .int 0, .int 0, .int (-1), .int 0, .int 0, .int 0, .int 0]))] s.heap.size = A at hD ⊢
  have hA : ∀ q : Nat, s.heap.size ≤ q → A q := fun q h => by rw [← hAe]; exact Or.inr h
  have hS : va_S A s.heap s.heap [] := va_S.rf
  have hl : lv_has ls 1 [(0, .ref h0)] := hl
  refine lv_aload_n hx hb dX10_beginReading_0 rfl (lv_at hl 0 rfl) ?_
  refine lv_iconst (v := 0) hx hb dX10_beginReading_1 (by decide) ?_
  refine va_put (D := (dC, dI)) (ci := 10) (v := .int 0) (ty := .int) (C := RX10) (T := TX10) (N := 8) hx hb hwd inlX10 tyX10 tyX10_ok nmX10 hown hK hP hD hS 0 rfl rfl 2 (by decide) (hwd _ kr11_2) (fun _ h9 => h9) rfl (by decide +kernel) rfl rfl (Nat.le_of_ble_eq_true rfl) dX10_beginReading_2 (fun H locs hP hD hS => ?_)
  have hP : va_P (dC, dI) vwCl [(h0, .inr (10, [.ref a0, .int 0, .int 0, .int (-1), .int 0, .int 0, .int 0, .int 0]))] H := hP
  have hD : va_D A [(h0, .inr (10, [.ref a0, .int 0, .int 0, .int (-1), .int 0, .int 0, .int 0, .int 0]))] := hD
  refine lv_aload_n hx hb dX10_beginReading_5 rfl (lv_at hl 0 rfl) ?_
  refine lv_iconst (v := (-1)) hx hb dX10_beginReading_6 (by decide) ?_
  refine va_put (D := (dC, dI)) (ci := 10) (v := .int (-1)) (ty := .int) (C := RX10) (T := TX10) (N := 8) hx hb hwd inlX10 tyX10 tyX10_ok nmX10 hown hK hP hD hS 0 rfl rfl 3 (by decide) (hwd _ kr3_2) (fun _ h9 => h9) rfl (by decide +kernel) rfl rfl (Nat.le_of_ble_eq_true rfl) dX10_beginReading_7 (fun H locs hP hD hS => ?_)
  have hP : va_P (dC, dI) vwCl [(h0, .inr (10, [.ref a0, .int 0, .int 0, .int (-1), .int 0, .int 0, .int 0, .int 0]))] H := hP
  have hD : va_D A [(h0, .inr (10, [.ref a0, .int 0, .int 0, .int (-1), .int 0, .int 0, .int 0, .int 0]))] := hD
  refine lv_aload_n hx hb dX10_beginReading_10 rfl (lv_at hl 0 rfl) ?_
  refine lv_iconst (v := 0) hx hb dX10_beginReading_11 (by decide) ?_
  refine va_put (D := (dC, dI)) (ci := 10) (v := .int 0) (ty := .int) (C := RX10) (T := TX10) (N := 8) hx hb hwd inlX10 tyX10 tyX10_ok nmX10 hown hK hP hD hS 0 rfl rfl 6 (by decide) (hwd _ kr11_3) (fun _ h9 => h9) rfl (by decide +kernel) rfl rfl (Nat.le_of_ble_eq_true rfl) dX10_beginReading_12 (fun H locs hP hD hS => ?_)
  have hP : va_P (dC, dI) vwCl [(h0, .inr (10, [.ref a0, .int 0, .int 0, .int (-1), .int 0, .int 0, .int 0, .int 0]))] H := hP
  have hD : va_D A [(h0, .inr (10, [.ref a0, .int 0, .int 0, .int (-1), .int 0, .int 0, .int 0, .int 0]))] := hD
  refine lv_aload_n hx hb dX10_beginReading_15 rfl (lv_at hl 0 rfl) ?_
  have hPc := hP.sub (ws' := [(h0, .inr (10, [.ref a0, .int 0, .int 0, .int (-1), .int 0, .int 0, .int 0, .int 0]))]) [0] rfl
  have hDc := hD.sub (ws' := [(h0, .inr (10, [.ref a0, .int 0, .int 0, .int (-1), .int 0, .int 0, .int 0, .int 0]))]) [0] (by decide) rfl
  have hFc := va_free (wc := [(h0, .inr (10, [.ref a0, .int 0, .int 0, .int (-1), .int 0, .int 0, .int 0, .int 0]))]) hD hS hA [0] rfl
  refine va_callv (va_runV (As := []) (rest := []) ⟨hx, hb, hml, hown, hwd⟩ (c_X10_readToken l dC dI cI cZ cB cJ cM h0 a0 H.size) (cwV 0 hwd (gV kr11_4 kr11_5 kr11_6 kr1_15 kr11_7) rfl rfl rfl (by decide +kernel) ⟨Nat.le_of_ble_eq_true rfl, Nat.le_of_ble_eq_true rfl⟩) (kPreV hPc hK hDc (ci := 10) (q0 := 0) rfl rfl) rfl rfl hl.1 rfl (lv_room (Nat.le_of_ble_eq_true rfl)) dX10_beginReading_16 ⟨Nat.le_of_ble_eq_true rfl, Nat.le_of_ble_eq_true rfl⟩) hS (fun q _ h => hFc q h) hFc (fun u2 t H1 locs ht9 hvm hw hB hz1 hk1 hS => ?_)
  obtain ⟨hP1, hD1⟩ := hB
  rw [ht9] at hP1
  obtain ⟨hP, hD⟩ := va_join (wr := []) (w1 := [(h0, .inr (10, [.ref a0, .int 0, .int 0, .int (-1), .int 0, .int 0, .int 0, .int 0]))]) hP hD [0] [] rfl rfl (by decide) (by decide) hk1 hFc hP1 hD1
  generalize H1 = H at hP hS ⊢
  have hP : va_P (dC, dI) vwCl [(h0, .inr (10, [.ref a0, .int 0, .int 0, .int (-1), .int 0, .int 0, .int 0, .int 0]))] H := hP
  have hD : va_D A [(h0, .inr (10, [.ref a0, .int 0, .int 0, .int (-1), .int 0, .int 0, .int 0, .int 0]))] := hD
  have hP9 := hP.sub (ws' := [(h0, .inr (10, [.ref a0, .int 0, .int 0, .int (-1), .int 0, .int 0, .int 0, .int 0]))]) [0] rfl
  have hD9 := hD.sub (ws' := [(h0, .inr (10, [.ref a0, .int 0, .int 0, .int (-1), .int 0, .int 0, .int 0, .int 0]))]) [0] (by decide) rfl
  exact W.vret hx hb hr (fun t ht hW => ⟨⟨(), rfl, trivial, (by rw [ht]; exact hP9), hD9⟩, hS.F ht⟩) hS.2.2 dX10_beginReading_19
end
section
theorem dX0_fillTable_0 : decode cX0_fillTable 0 = .ok (.aload_n 0, 1) := by decide +kernel
theorem dX0_fillTable_1 : decode cX0_fillTable 1 = .ok (.aload_n 1, 1) := by decide +kernel
theorem dX0_fillTable_2 : decode cX0_fillTable 2 = .ok (.getfield 48, 3) := by decide +kernel
theorem dX0_fillTable_5 : decode cX0_fillTable 5 = .ok (.aload_n 1, 1) := by decide +kernel
theorem dX0_fillTable_6 : decode cX0_fillTable 6 = .ok (.getfield 48, 3) := by decide +kernel
theorem dX0_fillTable_9 : decode cX0_fillTable 9 = .ok (.getfield 54, 3) := by decide +kernel
theorem dX0_fillTable_12 : decode cX0_fillTable 12 = .ok (.invokevirtual 55, 3) := by decide +kernel
theorem dX0_fillTable_15 : decode cX0_fillTable 15 = .ok (.iconst 0, 1) := by decide +kernel
theorem dX0_fillTable_16 : decode cX0_fillTable 16 = .ok (.istore_n 2, 1) := by decide +kernel
theorem dX0_fillTable_17 : decode cX0_fillTable 17 = .ok (.iload_n 2, 1) := by decide +kernel
theorem dX0_fillTable_18 : decode cX0_fillTable 18 = .ok (.aload_n 1, 1) := by decide +kernel
theorem dX0_fillTable_19 : decode cX0_fillTable 19 = .ok (.getfield 108, 3) := by decide +kernel
theorem dX0_fillTable_22 : decode cX0_fillTable 22 = .ok (.getfield 150, 3) := by decide +kernel
theorem dX0_fillTable_25 : decode cX0_fillTable 25 = .ok (.if_icmp .ge 32, 3) := by decide +kernel
theorem dX0_fillTable_57 : decode cX0_fillTable 57 = .ok (.return_, 1) := by decide +kernel
theorem dX0_takeHeights_0 : decode cX0_takeHeights 0 = .ok (.iconst 0, 1) := by decide +kernel
theorem dX0_takeHeights_1 : decode cX0_takeHeights 1 = .ok (.istore_n 3, 1) := by decide +kernel
theorem dX0_takeHeights_2 : decode cX0_takeHeights 2 = .ok (.iload_n 3, 1) := by decide +kernel
theorem dX0_takeHeights_3 : decode cX0_takeHeights 3 = .ok (.aload_n 1, 1) := by decide +kernel
theorem dX0_takeHeights_4 : decode cX0_takeHeights 4 = .ok (.getfield 35, 3) := by decide +kernel
theorem dX0_takeHeights_7 : decode cX0_takeHeights 7 = .ok (.if_icmp .ge 23, 3) := by decide +kernel
theorem dX0_takeHeights_30 : decode cX0_takeHeights 30 = .ok (.return_, 1) := by decide +kernel
theorem dX1_begin_0 : decode cX1_begin 0 = .ok (.iconst 0, 1) := by decide +kernel
theorem dX1_begin_1 : decode cX1_begin 1 = .ok (.istore_n 2, 1) := by decide +kernel
theorem dX1_begin_2 : decode cX1_begin 2 = .ok (.iload_n 2, 1) := by decide +kernel
theorem dX1_begin_3 : decode cX1_begin 3 = .ok (.aload_n 0, 1) := by decide +kernel
theorem dX1_begin_4 : decode cX1_begin 4 = .ok (.getfield 49, 3) := by decide +kernel
theorem dX1_begin_7 : decode cX1_begin 7 = .ok (.if_icmp .ge 64, 3) := by decide +kernel
theorem dX1_begin_71 : decode cX1_begin 71 = .ok (.return_, 1) := by decide +kernel
theorem dX2_begin_0 : decode cX2_begin 0 = .ok (.aload_n 0, 1) := by decide +kernel
theorem dX2_begin_1 : decode cX2_begin 1 = .ok (.getfield 21, 3) := by decide +kernel
theorem dX2_begin_4 : decode cX2_begin 4 = .ok (.aload_n 1, 1) := by decide +kernel
theorem dX2_begin_5 : decode cX2_begin 5 = .ok (.invokevirtual 172, 3) := by decide +kernel
theorem dX2_begin_8 : decode cX2_begin 8 = .ok (.return_, 1) := by decide +kernel
theorem dX2_clear_0 : decode cX2_clear 0 = .ok (.aload_n 0, 1) := by decide +kernel
theorem dX2_clear_1 : decode cX2_clear 1 = .ok (.iconst 0, 1) := by decide +kernel
theorem dX2_clear_2 : decode cX2_clear 2 = .ok (.putfield 43, 3) := by decide +kernel
theorem dX2_clear_5 : decode cX2_clear 5 = .ok (.aload_n 0, 1) := by decide +kernel
theorem dX2_clear_6 : decode cX2_clear 6 = .ok (.iconst 0, 1) := by decide +kernel
theorem dX2_clear_7 : decode cX2_clear 7 = .ok (.putfield 71, 3) := by decide +kernel
theorem dX2_clear_10 : decode cX2_clear 10 = .ok (.aload_n 0, 1) := by decide +kernel
theorem dX2_clear_11 : decode cX2_clear 11 = .ok (.iconst 0, 1) := by decide +kernel
theorem dX2_clear_12 : decode cX2_clear 12 = .ok (.putfield 74, 3) := by decide +kernel
theorem dX2_clear_15 : decode cX2_clear 15 = .ok (.aload_n 0, 1) := by decide +kernel
theorem dX2_clear_16 : decode cX2_clear 16 = .ok (.iconst 0, 1) := by decide +kernel
theorem dX2_clear_17 : decode cX2_clear 17 = .ok (.putfield 47, 3) := by decide +kernel
theorem dX2_clear_20 : decode cX2_clear 20 = .ok (.aload_n 0, 1) := by decide +kernel
theorem dX2_clear_21 : decode cX2_clear 21 = .ok (.iconst 0, 1) := by decide +kernel
theorem dX2_clear_22 : decode cX2_clear 22 = .ok (.putfield 77, 3) := by decide +kernel
theorem dX2_clear_25 : decode cX2_clear 25 = .ok (.aload_n 0, 1) := by decide +kernel
theorem dX2_clear_26 : decode cX2_clear 26 = .ok (.iconst 0, 1) := by decide +kernel
theorem dX2_clear_27 : decode cX2_clear 27 = .ok (.putfield 80, 3) := by decide +kernel
theorem dX2_clear_30 : decode cX2_clear 30 = .ok (.aload_n 0, 1) := by decide +kernel
theorem dX2_clear_31 : decode cX2_clear 31 = .ok (.iconst 1, 1) := by decide +kernel
theorem dX2_clear_32 : decode cX2_clear 32 = .ok (.putfield 64, 3) := by decide +kernel
theorem dX2_clear_35 : decode cX2_clear 35 = .ok (.aload_n 0, 1) := by decide +kernel
theorem dX2_clear_36 : decode cX2_clear 36 = .ok (.iconst 1, 1) := by decide +kernel
theorem dX2_clear_37 : decode cX2_clear 37 = .ok (.putfield 61, 3) := by decide +kernel
theorem dX2_clear_40 : decode cX2_clear 40 = .ok (.aload_n 0, 1) := by decide +kernel
theorem dX2_clear_41 : decode cX2_clear 41 = .ok (.iconst 0, 1) := by decide +kernel
theorem dX2_clear_42 : decode cX2_clear 42 = .ok (.putfield 84, 3) := by decide +kernel
theorem dX2_clear_45 : decode cX2_clear 45 = .ok (.aload_n 0, 1) := by decide +kernel
theorem dX2_clear_46 : decode cX2_clear 46 = .ok (.getfield 12, 3) := by decide +kernel
theorem dX2_clear_49 : decode cX2_clear 49 = .ok (.iconst 0, 1) := by decide +kernel
theorem dX2_clear_50 : decode cX2_clear 50 = .ok (.putfield 50, 3) := by decide +kernel
theorem dX2_clear_53 : decode cX2_clear 53 = .ok (.aload_n 0, 1) := by decide +kernel
theorem dX2_clear_54 : decode cX2_clear 54 = .ok (.getfield 21, 3) := by decide +kernel
theorem dX2_clear_57 : decode cX2_clear 57 = .ok (.iconst 0, 1) := by decide +kernel
theorem dX2_clear_58 : decode cX2_clear 58 = .ok (.putfield 53, 3) := by decide +kernel
theorem dX2_clear_61 : decode cX2_clear 61 = .ok (.aload_n 0, 1) := by decide +kernel
theorem dX2_clear_62 : decode cX2_clear 62 = .ok (.getfield 28, 3) := by decide +kernel
theorem dX2_clear_65 : decode cX2_clear 65 = .ok (.iconst 0, 1) := by decide +kernel
theorem dX2_clear_66 : decode cX2_clear 66 = .ok (.putfield 54, 3) := by decide +kernel
theorem dX2_clear_69 : decode cX2_clear 69 = .ok (.aload_n 0, 1) := by decide +kernel
theorem dX2_clear_70 : decode cX2_clear 70 = .ok (.getfield 35, 3) := by decide +kernel
theorem dX2_clear_73 : decode cX2_clear 73 = .ok (.invokevirtual 87, 3) := by decide +kernel
theorem dX2_clear_76 : decode cX2_clear 76 = .ok (.return_, 1) := by decide +kernel
theorem dX2_readFrom_0 : decode cX2_readFrom 0 = .ok (.iconst 0, 1) := by decide +kernel
theorem dX2_readFrom_1 : decode cX2_readFrom 1 = .ok (.istore_n 2, 1) := by decide +kernel
theorem dX2_readFrom_2 : decode cX2_readFrom 2 = .ok (.iload_n 2, 1) := by decide +kernel
theorem dX2_readFrom_3 : decode cX2_readFrom 3 = .ok (.sipush 1600, 3) := by decide +kernel
theorem dX2_readFrom_6 : decode cX2_readFrom 6 = .ok (.if_icmp .ge 37, 3) := by decide +kernel
theorem dX2_readFrom_9 : decode cX2_readFrom 9 = .ok (.aload_n 1, 1) := by decide +kernel
theorem dX2_readFrom_10 : decode cX2_readFrom 10 = .ok (.invokevirtual 111, 3) := by decide +kernel
theorem dX2_readFrom_13 : decode cX2_readFrom 13 = .ok (.ifCond .eq 30, 3) := by decide +kernel
theorem dX2_readFrom_43 : decode cX2_readFrom 43 = .ok (.return_, 1) := by decide +kernel
theorem dX7_clear_0 : decode cX7_clear 0 = .ok (.aload_n 0, 1) := by decide +kernel
theorem dX7_clear_1 : decode cX7_clear 1 = .ok (.iconst 0, 1) := by decide +kernel
theorem dX7_clear_2 : decode cX7_clear 2 = .ok (.putfield 15, 3) := by decide +kernel
theorem dX7_clear_5 : decode cX7_clear 5 = .ok (.aload_n 0, 1) := by decide +kernel
theorem dX7_clear_6 : decode cX7_clear 6 = .ok (.iconst 0, 1) := by decide +kernel
theorem dX7_clear_7 : decode cX7_clear 7 = .ok (.putfield 18, 3) := by decide +kernel
theorem dX7_clear_10 : decode cX7_clear 10 = .ok (.aload_n 0, 1) := by decide +kernel
theorem dX7_clear_11 : decode cX7_clear 11 = .ok (.iconst 0, 1) := by decide +kernel
theorem dX7_clear_12 : decode cX7_clear 12 = .ok (.putfield 21, 3) := by decide +kernel
theorem dX7_clear_15 : decode cX7_clear 15 = .ok (.aload_n 0, 1) := by decide +kernel
theorem dX7_clear_16 : decode cX7_clear 16 = .ok (.iconst 0, 1) := by decide +kernel
theorem dX7_clear_17 : decode cX7_clear 17 = .ok (.putfield 24, 3) := by decide +kernel
theorem dX7_clear_20 : decode cX7_clear 20 = .ok (.aload_n 0, 1) := by decide +kernel
theorem dX7_clear_21 : decode cX7_clear 21 = .ok (.iconst 0, 1) := by decide +kernel
theorem dX7_clear_22 : decode cX7_clear 22 = .ok (.putfield 27, 3) := by decide +kernel
theorem dX7_clear_25 : decode cX7_clear 25 = .ok (.aload_n 0, 1) := by decide +kernel
theorem dX7_clear_26 : decode cX7_clear 26 = .ok (.iconst 0, 1) := by decide +kernel
theorem dX7_clear_27 : decode cX7_clear 27 = .ok (.putfield 30, 3) := by decide +kernel
theorem dX7_clear_30 : decode cX7_clear 30 = .ok (.aload_n 0, 1) := by decide +kernel
theorem dX7_clear_31 : decode cX7_clear 31 = .ok (.iconst (-1), 1) := by decide +kernel
theorem dX7_clear_32 : decode cX7_clear 32 = .ok (.putfield 9, 3) := by decide +kernel
theorem dX7_clear_35 : decode cX7_clear 35 = .ok (.aload_n 0, 1) := by decide +kernel
theorem dX7_clear_36 : decode cX7_clear 36 = .ok (.iconst 0, 1) := by decide +kernel
theorem dX7_clear_37 : decode cX7_clear 37 = .ok (.putfield 33, 3) := by decide +kernel
theorem dX7_clear_40 : decode cX7_clear 40 = .ok (.return_, 1) := by decide +kernel
set_option maxHeartbeats 4000000 in
set_option maxRecDepth 100000 in
theorem c_X7_clear (l : Launch) (dC : Nat → ClassId) (dI : Nat → Nat → Nat) (cI cZ cB cJ cM : ClassId) (h0 : Nat) (sz : Nat) : Met l yX7_clear (kw yX7_clear cX7_clear 1 none) ({ frames := 0, cells := 0, slots := 0, locals := 0 }) (va_Pc [.ref h0] (kPre dC dI [(cI, .int), (cZ, .boolean), (cB, .byte), (cJ, .long), (cM, .object RX2)] [(h0, .inr (7, [.int 0, .int 0, .int 0, .int 0, .int 0, .int 0, .int (-1), .int 0]))] sz)) (va_Qv (fun _ : Unit => True) (fun _ t => va_P (dC, dI) vwCl [(h0, .inr (7, [.int 0, .int 0, .int 0, .int 0, .int 0, .int 0, .int (-1), .int 0]))] t.heap ∧ va_D (va_A [(h0, .inr (7, [.int 0, .int 0, .int 0, .int 0, .int 0, .int 0, .int (-1), .int 0]))] sz) [(h0, .inr (7, [.int 0, .int 0, .int 0, .int 0, .int 0, .int 0, .int (-1), .int 0]))]) (va_A [(h0, .inr (7, [.int 0, .int 0, .int 0, .int 0, .int 0, .int 0, .int (-1), .int 0]))] sz)) 0 0 (va_A [(h0, .inr (7, [.int 0, .int 0, .int 0, .int 0, .int 0, .int 0, .int (-1), .int 0]))] sz) := by
  refine kEnter (by decide) (Nat.le_of_ble_eq_true rfl) ?_
  intro p e s m below meth c ls hx hb hr hml hown hlocks hin hwd hsz hP hK hD hl
  subst hsz
  generalize hAe : va_A [(h0, .inr (7, [.int 0, .int 0, .int 0, .int 0, .int 0, .int 0, .int (-1), .int 0]))] s.heap.size = A at hD ⊢
  have hA : ∀ q : Nat, s.heap.size ≤ q → A q := fun q h => by rw [← hAe]; exact Or.inr h
  have hS : va_S A s.heap s.heap [] := va_S.rf
  have hl : lv_has ls 1 [(0, .ref h0)] := hl
  refine lv_aload_n hx hb dX7_clear_0 rfl (lv_at hl 0 rfl) ?_
  refine lv_iconst (v := 0) hx hb dX7_clear_1 (by decide) ?_
  refine va_put (D := (dC, dI)) (ci := 7) (v := .int 0) (ty := .int) (C := RX7) (T := TX7) (N := 8) hx hb hwd inlX7 tyX7 tyX7_ok nmX7 hown hK hP hD hS 0 rfl rfl 0 (by decide) (hwd _ kr10_15) (fun _ h9 => h9) rfl (by decide +kernel) rfl rfl (Nat.le_of_ble_eq_true rfl) dX7_clear_2 (fun H locs hP hD hS => ?_)
  have hP : va_P (dC, dI) vwCl [(h0, .inr (7, [.int 0, .int 0, .int 0, .int 0, .int 0, .int 0, .int (-1), .int 0]))] H := hP
  have hD : va_D A [(h0, .inr (7, [.int 0, .int 0, .int 0, .int 0, .int 0, .int 0, .int (-1), .int 0]))] := hD
  refine lv_aload_n hx hb dX7_clear_5 rfl (lv_at hl 0 rfl) ?_
  refine lv_iconst (v := 0) hx hb dX7_clear_6 (by decide) ?_
  refine va_put (D := (dC, dI)) (ci := 7) (v := .int 0) (ty := .int) (C := RX7) (T := TX7) (N := 8) hx hb hwd inlX7 tyX7 tyX7_ok nmX7 hown hK hP hD hS 0 rfl rfl 1 (by decide) (hwd _ kr10_16) (fun _ h9 => h9) rfl (by decide +kernel) rfl rfl (Nat.le_of_ble_eq_true rfl) dX7_clear_7 (fun H locs hP hD hS => ?_)
  have hP : va_P (dC, dI) vwCl [(h0, .inr (7, [.int 0, .int 0, .int 0, .int 0, .int 0, .int 0, .int (-1), .int 0]))] H := hP
  have hD : va_D A [(h0, .inr (7, [.int 0, .int 0, .int 0, .int 0, .int 0, .int 0, .int (-1), .int 0]))] := hD
  refine lv_aload_n hx hb dX7_clear_10 rfl (lv_at hl 0 rfl) ?_
  refine lv_iconst (v := 0) hx hb dX7_clear_11 (by decide) ?_
  refine va_put (D := (dC, dI)) (ci := 7) (v := .int 0) (ty := .int) (C := RX7) (T := TX7) (N := 8) hx hb hwd inlX7 tyX7 tyX7_ok nmX7 hown hK hP hD hS 0 rfl rfl 2 (by decide) (hwd _ kr10_17) (fun _ h9 => h9) rfl (by decide +kernel) rfl rfl (Nat.le_of_ble_eq_true rfl) dX7_clear_12 (fun H locs hP hD hS => ?_)
  have hP : va_P (dC, dI) vwCl [(h0, .inr (7, [.int 0, .int 0, .int 0, .int 0, .int 0, .int 0, .int (-1), .int 0]))] H := hP
  have hD : va_D A [(h0, .inr (7, [.int 0, .int 0, .int 0, .int 0, .int 0, .int 0, .int (-1), .int 0]))] := hD
  refine lv_aload_n hx hb dX7_clear_15 rfl (lv_at hl 0 rfl) ?_
  refine lv_iconst (v := 0) hx hb dX7_clear_16 (by decide) ?_
  refine va_put (D := (dC, dI)) (ci := 7) (v := .int 0) (ty := .int) (C := RX7) (T := TX7) (N := 8) hx hb hwd inlX7 tyX7 tyX7_ok nmX7 hown hK hP hD hS 0 rfl rfl 3 (by decide) (hwd _ kr10_18) (fun _ h9 => h9) rfl (by decide +kernel) rfl rfl (Nat.le_of_ble_eq_true rfl) dX7_clear_17 (fun H locs hP hD hS => ?_)
  have hP : va_P (dC, dI) vwCl [(h0, .inr (7, [.int 0, .int 0, .int 0, .int 0, .int 0, .int 0, .int (-1), .int 0]))] H := hP
  have hD : va_D A [(h0, .inr (7, [.int 0, .int 0, .int 0, .int 0, .int 0, .int 0, .int (-1), .int 0]))] := hD
  refine lv_aload_n hx hb dX7_clear_20 rfl (lv_at hl 0 rfl) ?_
  refine lv_iconst (v := 0) hx hb dX7_clear_21 (by decide) ?_
  refine va_put (D := (dC, dI)) (ci := 7) (v := .int 0) (ty := .int) (C := RX7) (T := TX7) (N := 8) hx hb hwd inlX7 tyX7 tyX7_ok nmX7 hown hK hP hD hS 0 rfl rfl 4 (by decide) (hwd _ kr10_19) (fun _ h9 => h9) rfl (by decide +kernel) rfl rfl (Nat.le_of_ble_eq_true rfl) dX7_clear_22 (fun H locs hP hD hS => ?_)
  have hP : va_P (dC, dI) vwCl [(h0, .inr (7, [.int 0, .int 0, .int 0, .int 0, .int 0, .int 0, .int (-1), .int 0]))] H := hP
  have hD : va_D A [(h0, .inr (7, [.int 0, .int 0, .int 0, .int 0, .int 0, .int 0, .int (-1), .int 0]))] := hD
  refine lv_aload_n hx hb dX7_clear_25 rfl (lv_at hl 0 rfl) ?_
  refine lv_iconst (v := 0) hx hb dX7_clear_26 (by decide) ?_
  refine va_put (D := (dC, dI)) (ci := 7) (v := .int 0) (ty := .int) (C := RX7) (T := TX7) (N := 8) hx hb hwd inlX7 tyX7 tyX7_ok nmX7 hown hK hP hD hS 0 rfl rfl 5 (by decide) (hwd _ kr10_20) (fun _ h9 => h9) rfl (by decide +kernel) rfl rfl (Nat.le_of_ble_eq_true rfl) dX7_clear_27 (fun H locs hP hD hS => ?_)
  have hP : va_P (dC, dI) vwCl [(h0, .inr (7, [.int 0, .int 0, .int 0, .int 0, .int 0, .int 0, .int (-1), .int 0]))] H := hP
  have hD : va_D A [(h0, .inr (7, [.int 0, .int 0, .int 0, .int 0, .int 0, .int 0, .int (-1), .int 0]))] := hD
  refine lv_aload_n hx hb dX7_clear_30 rfl (lv_at hl 0 rfl) ?_
  refine lv_iconst (v := (-1)) hx hb dX7_clear_31 (by decide) ?_
  refine va_put (D := (dC, dI)) (ci := 7) (v := .int (-1)) (ty := .int) (C := RX7) (T := TX7) (N := 8) hx hb hwd inlX7 tyX7 tyX7_ok nmX7 hown hK hP hD hS 0 rfl rfl 6 (by decide) (hwd _ kr6_22) (fun _ h9 => h9) rfl (by decide +kernel) rfl rfl (Nat.le_of_ble_eq_true rfl) dX7_clear_32 (fun H locs hP hD hS => ?_)
  have hP : va_P (dC, dI) vwCl [(h0, .inr (7, [.int 0, .int 0, .int 0, .int 0, .int 0, .int 0, .int (-1), .int 0]))] H := hP
  have hD : va_D A [(h0, .inr (7, [.int 0, .int 0, .int 0, .int 0, .int 0, .int 0, .int (-1), .int 0]))] := hD
  refine lv_aload_n hx hb dX7_clear_35 rfl (lv_at hl 0 rfl) ?_
  refine lv_iconst (v := 0) hx hb dX7_clear_36 (by decide) ?_
  refine va_put (D := (dC, dI)) (ci := 7) (v := .int 0) (ty := .int) (C := RX7) (T := TX7) (N := 8) hx hb hwd inlX7 tyX7 tyX7_ok nmX7 hown hK hP hD hS 0 rfl rfl 7 (by decide) (hwd _ kr10_21) (fun _ h9 => h9) rfl (by decide +kernel) rfl rfl (Nat.le_of_ble_eq_true rfl) dX7_clear_37 (fun H locs hP hD hS => ?_)
  have hP : va_P (dC, dI) vwCl [(h0, .inr (7, [.int 0, .int 0, .int 0, .int 0, .int 0, .int 0, .int (-1), .int 0]))] H := hP
  have hD : va_D A [(h0, .inr (7, [.int 0, .int 0, .int 0, .int 0, .int 0, .int 0, .int (-1), .int 0]))] := hD
  have hP9 := hP.sub (ws' := [(h0, .inr (7, [.int 0, .int 0, .int 0, .int 0, .int 0, .int 0, .int (-1), .int 0]))]) [0] rfl
  have hD9 := hD.sub (ws' := [(h0, .inr (7, [.int 0, .int 0, .int 0, .int 0, .int 0, .int 0, .int (-1), .int 0]))]) [0] (by decide) rfl
  exact W.vret hx hb hr (fun t ht hW => ⟨⟨(), rfl, trivial, (by rw [ht]; exact hP9), hD9⟩, hS.F ht⟩) hS.2.2 dX7_clear_40
set_option maxHeartbeats 4000000 in
set_option maxRecDepth 100000 in
theorem c_X2_clear (l : Launch) (dC : Nat → ClassId) (dI : Nat → Nat → Nat) (cI cZ cB cJ cM : ClassId) (h0 gn gf gp gs gr a0 a1 a2 a3 a4 a5 a6 b0 b1 b2 b3 b4 b5 b6 b7 b8 e0 e1 e2 e3 : Nat) (sz : Nat) : Met l yX2_clear (kw yX2_clear cX2_clear 1 none) ({ frames := 1, cells := 0, slots := 0, locals := 20 }) (va_Pc [.ref h0] (kPre dC dI [(cI, .int), (cZ, .boolean), (cB, .byte), (cJ, .long), (cM, .object RX2)] [(h0, .inr (2, [.int 0, .int 0, .int 0, .int 0, .int 0, .int 0, .int 0, .int 0, .int 0, .ref gn, .ref gf, .ref gp, .ref gs, .ref gr])), (gn, .inr (3, [.int 0, .ref a0, .ref a1, .ref a2, .ref a3, .ref a4, .ref a5, .ref a6])), (gf, .inr (1, [.int 0, .ref b0, .ref b1, .ref b2, .ref b3, .ref b4, .ref b5, .ref b6, .ref b7, .ref b8])), (gp, .inr (4, [.int 0, .ref e0, .ref e1, .ref e2, .ref e3])), (gs, .inr (7, [.int 0, .int 0, .int 0, .int 0, .int 0, .int 0, .int (-1), .int 0]))] sz)) (va_Qv (fun _ : Unit => True) (fun u t => va_P (dC, dI) vwCl [(h0, .inr (2, [.int 0, .int 0, .int 0, .int 0, .int 0, .int 0, .int 1, .int 1, .int 0, .ref gn, .ref gf, .ref gp, .ref gs, .ref gr])), (gn, .inr (3, [.int 0, .ref a0, .ref a1, .ref a2, .ref a3, .ref a4, .ref a5, .ref a6])), (gf, .inr (1, [.int 0, .ref b0, .ref b1, .ref b2, .ref b3, .ref b4, .ref b5, .ref b6, .ref b7, .ref b8])), (gp, .inr (4, [.int 0, .ref e0, .ref e1, .ref e2, .ref e3])), (gs, .inr (7, [.int 0, .int 0, .int 0, .int 0, .int 0, .int 0, .int (-1), .int 0]))] t.heap ∧ va_D (va_A [(h0, .inr (2, [.int 0, .int 0, .int 0, .int 0, .int 0, .int 0, .int 0, .int 0, .int 0, .ref gn, .ref gf, .ref gp, .ref gs, .ref gr])), (gn, .inr (3, [.int 0, .ref a0, .ref a1, .ref a2, .ref a3, .ref a4, .ref a5, .ref a6])), (gf, .inr (1, [.int 0, .ref b0, .ref b1, .ref b2, .ref b3, .ref b4, .ref b5, .ref b6, .ref b7, .ref b8])), (gp, .inr (4, [.int 0, .ref e0, .ref e1, .ref e2, .ref e3])), (gs, .inr (7, [.int 0, .int 0, .int 0, .int 0, .int 0, .int 0, .int (-1), .int 0]))] sz) [(h0, .inr (2, [.int 0, .int 0, .int 0, .int 0, .int 0, .int 0, .int 1, .int 1, .int 0, .ref gn, .ref gf, .ref gp, .ref gs, .ref gr])), (gn, .inr (3, [.int 0, .ref a0, .ref a1, .ref a2, .ref a3, .ref a4, .ref a5, .ref a6])), (gf, .inr (1, [.int 0, .ref b0, .ref b1, .ref b2, .ref b3, .ref b4, .ref b5, .ref b6, .ref b7, .ref b8])), (gp, .inr (4, [.int 0, .ref e0, .ref e1, .ref e2, .ref e3])), (gs, .inr (7, [.int 0, .int 0, .int 0, .int 0, .int 0, .int 0, .int (-1), .int 0]))]) (va_A [(h0, .inr (2, [.int 0, .int 0, .int 0, .int 0, .int 0, .int 0, .int 0, .int 0, .int 0, .ref gn, .ref gf, .ref gp, .ref gs, .ref gr])), (gn, .inr (3, [.int 0, .ref a0, .ref a1, .ref a2, .ref a3, .ref a4, .ref a5, .ref a6])), (gf, .inr (1, [.int 0, .ref b0, .ref b1, .ref b2, .ref b3, .ref b4, .ref b5, .ref b6, .ref b7, .ref b8])), (gp, .inr (4, [.int 0, .ref e0, .ref e1, .ref e2, .ref e3])), (gs, .inr (7, [.int 0, .int 0, .int 0, .int 0, .int 0, .int 0, .int (-1), .int 0]))] sz)) 0 0 (va_A [(h0, .inr (2, [.int 0, .int 0, .int 0, .int 0, .int 0, .int 0, .int 0, .int 0, .int 0, .ref gn, .ref gf, .ref gp, .ref gs, .ref gr])), (gn, .inr (3, [.int 0, .ref a0, .ref a1, .ref a2, .ref a3, .ref a4, .ref a5, .ref a6])), (gf, .inr (1, [.int 0, .ref b0, .ref b1, .ref b2, .ref b3, .ref b4, .ref b5, .ref b6, .ref b7, .ref b8])), (gp, .inr (4, [.int 0, .ref e0, .ref e1, .ref e2, .ref e3])), (gs, .inr (7, [.int 0, .int 0, .int 0, .int 0, .int 0, .int 0, .int (-1), .int 0]))] sz) := by
  refine kEnter (by decide) (Nat.le_of_ble_eq_true rfl) ?_
  intro p e s m below meth c ls hx hb hr hml hown hlocks hin hwd hsz hP hK hD hl
  subst hsz
  generalize hAe : va_A [(h0, .inr (2, [.int 0, .int 0, .int 0, .int 0, .int 0, .int 0, .int 0, .int 0, .int 0, .ref gn, .ref gf, .ref gp, .ref gs, .ref gr])), (gn, .inr (3, [.int 0, .ref a0, .ref a1, .ref a2, .ref a3, .ref a4, .ref a5, .ref a6])), (gf, .inr (1, [.int 0, .ref b0, .ref b1, .ref b2, .ref b3, .ref b4, .ref b5, .ref b6, .ref b7, .ref b8])), (gp, .inr (4, [.int 0, .ref e0, .ref e1, .ref e2, .ref e3])), (gs, .inr (7, [.int 0, .int 0, .int 0, .int 0, .int 0, .int 0, .int (-1), .int 0]))] s.heap.size = A at hD ⊢
  have hA : ∀ q : Nat, s.heap.size ≤ q → A q := fun q h => by rw [← hAe]; exact Or.inr h
  have hS : va_S A s.heap s.heap [] := va_S.rf
  have hl : lv_has ls 1 [(0, .ref h0)] := hl
  refine lv_aload_n hx hb dX2_clear_0 rfl (lv_at hl 0 rfl) ?_
  refine lv_iconst (v := 0) hx hb dX2_clear_1 (by decide) ?_
  refine va_put (D := (dC, dI)) (ci := 2) (v := .int 0) (ty := .int) (C := RX2) (T := TX2) (N := 14) hx hb hwd inlX2 tyX2 tyX2_ok nmX2 hown hK hP hD hS 0 rfl rfl 0 (by decide) (hwd _ kr9_23) (fun _ h9 => h9) rfl (by decide +kernel) rfl rfl (Nat.le_of_ble_eq_true rfl) dX2_clear_2 (fun H locs hP hD hS => ?_)
  have hP : va_P (dC, dI) vwCl [(h0, .inr (2, [.int 0, .int 0, .int 0, .int 0, .int 0, .int 0, .int 0, .int 0, .int 0, .ref gn, .ref gf, .ref gp, .ref gs, .ref gr])), (gn, .inr (3, [.int 0, .ref a0, .ref a1, .ref a2, .ref a3, .ref a4, .ref a5, .ref a6])), (gf, .inr (1, [.int 0, .ref b0, .ref b1, .ref b2, .ref b3, .ref b4, .ref b5, .ref b6, .ref b7, .ref b8])), (gp, .inr (4, [.int 0, .ref e0, .ref e1, .ref e2, .ref e3])), (gs, .inr (7, [.int 0, .int 0, .int 0, .int 0, .int 0, .int 0, .int (-1), .int 0]))] H := hP
  have hD : va_D A [(h0, .inr (2, [.int 0, .int 0, .int 0, .int 0, .int 0, .int 0, .int 0, .int 0, .int 0, .ref gn, .ref gf, .ref gp, .ref gs, .ref gr])), (gn, .inr (3, [.int 0, .ref a0, .ref a1, .ref a2, .ref a3, .ref a4, .ref a5, .ref a6])), (gf, .inr (1, [.int 0, .ref b0, .ref b1, .ref b2, .ref b3, .ref b4, .ref b5, .ref b6, .ref b7, .ref b8])), (gp, .inr (4, [.int 0, .ref e0, .ref e1, .ref e2, .ref e3])), (gs, .inr (7, [.int 0, .int 0, .int 0, .int 0, .int 0, .int 0, .int (-1), .int 0]))] := hD
  refine lv_aload_n hx hb dX2_clear_5 rfl (lv_at hl 0 rfl) ?_
  refine lv_iconst (v := 0) hx hb dX2_clear_6 (by decide) ?_
  refine va_put (D := (dC, dI)) (ci := 2) (v := .int 0) (ty := .int) (C := RX2) (T := TX2) (N := 14) hx hb hwd inlX2 tyX2 tyX2_ok nmX2 hown hK hP hD hS 0 rfl rfl 1 (by decide) (hwd _ kr10_0) (fun _ h9 => h9) rfl (by decide +kernel) rfl rfl (Nat.le_of_ble_eq_true rfl) dX2_clear_7 (fun H locs hP hD hS => ?_)
  have hP : va_P (dC, dI) vwCl [(h0, .inr (2, [.int 0, .int 0, .int 0, .int 0, .int 0, .int 0, .int 0, .int 0, .int 0, .ref gn, .ref gf, .ref gp, .ref gs, .ref gr])), (gn, .inr (3, [.int 0, .ref a0, .ref a1, .ref a2, .ref a3, .ref a4, .ref a5, .ref a6])), (gf, .inr (1, [.int 0, .ref b0, .ref b1, .ref b2, .ref b3, .ref b4, .ref b5, .ref b6, .ref b7, .ref b8])), (gp, .inr (4, [.int 0, .ref e0, .ref e1, .ref e2, .ref e3])), (gs, .inr (7, [.int 0, .int 0, .int 0, .int 0, .int 0, .int 0, .int (-1), .int 0]))] H := hP
  have hD : va_D A [(h0, .inr (2, [.int 0, .int 0, .int 0, .int 0, .int 0, .int 0, .int 0, .int 0, .int 0, .ref gn, .ref gf, .ref gp, .ref gs, .ref gr])), (gn, .inr (3, [.int 0, .ref a0, .ref a1, .ref a2, .ref a3, .ref a4, .ref a5, .ref a6])), (gf, .inr (1, [.int 0, .ref b0, .ref b1, .ref b2, .ref b3, .ref b4, .ref b5, .ref b6, .ref b7, .ref b8])), (gp, .inr (4, [.int 0, .ref e0, .ref e1, .ref e2, .ref e3])), (gs, .inr (7, [.int 0, .int 0, .int 0, .int 0, .int 0, .int 0, .int (-1), .int 0]))] := hD
  refine lv_aload_n hx hb dX2_clear_10 rfl (lv_at hl 0 rfl) ?_
  refine lv_iconst (v := 0) hx hb dX2_clear_11 (by decide) ?_
  refine va_put (D := (dC, dI)) (ci := 2) (v := .int 0) (ty := .int) (C := RX2) (T := TX2) (N := 14) hx hb hwd inlX2 tyX2 tyX2_ok nmX2 hown hK hP hD hS 0 rfl rfl 2 (by decide) (hwd _ kr10_1) (fun _ h9 => h9) rfl (by decide +kernel) rfl rfl (Nat.le_of_ble_eq_true rfl) dX2_clear_12 (fun H locs hP hD hS => ?_)
  have hP : va_P (dC, dI) vwCl [(h0, .inr (2, [.int 0, .int 0, .int 0, .int 0, .int 0, .int 0, .int 0, .int 0, .int 0, .ref gn, .ref gf, .ref gp, .ref gs, .ref gr])), (gn, .inr (3, [.int 0, .ref a0, .ref a1, .ref a2, .ref a3, .ref a4, .ref a5, .ref a6])), (gf, .inr (1, [.int 0, .ref b0, .ref b1, .ref b2, .ref b3, .ref b4, .ref b5, .ref b6, .ref b7, .ref b8])), (gp, .inr (4, [.int 0, .ref e0, .ref e1, .ref e2, .ref e3])), (gs, .inr (7, [.int 0, .int 0, .int 0, .int 0, .int 0, .int 0, .int (-1), .int 0]))] H := hP
  have hD : va_D A [(h0, .inr (2, [.int 0, .int 0, .int 0, .int 0, .int 0, .int 0, .int 0, .int 0, .int 0, .ref gn, .ref gf, .ref gp, .ref gs, .ref gr])), (gn, .inr (3, [.int 0, .ref a0, .ref a1, .ref a2, .ref a3, .ref a4, .ref a5, .ref a6])), (gf, .inr (1, [.int 0, .ref b0, .ref b1, .ref b2, .ref b3, .ref b4, .ref b5, .ref b6, .ref b7, .ref b8])), (gp, .inr (4, [.int 0, .ref e0, .ref e1, .ref e2, .ref e3])), (gs, .inr (7, [.int 0, .int 0, .int 0, .int 0, .int 0, .int 0, .int (-1), .int 0]))] := hD
  refine lv_aload_n hx hb dX2_clear_15 rfl (lv_at hl 0 rfl) ?_
  refine lv_iconst (v := 0) hx hb dX2_clear_16 (by decide) ?_
  refine va_put (D := (dC, dI)) (ci := 2) (v := .int 0) (ty := .int) (C := RX2) (T := TX2) (N := 14) hx hb hwd inlX2 tyX2 tyX2_ok nmX2 hown hK hP hD hS 0 rfl rfl 3 (by decide) (hwd _ kr10_2) (fun _ h9 => h9) rfl (by decide +kernel) rfl rfl (Nat.le_of_ble_eq_true rfl) dX2_clear_17 (fun H locs hP hD hS => ?_)
  have hP : va_P (dC, dI) vwCl [(h0, .inr (2, [.int 0, .int 0, .int 0, .int 0, .int 0, .int 0, .int 0, .int 0, .int 0, .ref gn, .ref gf, .ref gp, .ref gs, .ref gr])), (gn, .inr (3, [.int 0, .ref a0, .ref a1, .ref a2, .ref a3, .ref a4, .ref a5, .ref a6])), (gf, .inr (1, [.int 0, .ref b0, .ref b1, .ref b2, .ref b3, .ref b4, .ref b5, .ref b6, .ref b7, .ref b8])), (gp, .inr (4, [.int 0, .ref e0, .ref e1, .ref e2, .ref e3])), (gs, .inr (7, [.int 0, .int 0, .int 0, .int 0, .int 0, .int 0, .int (-1), .int 0]))] H := hP
  have hD : va_D A [(h0, .inr (2, [.int 0, .int 0, .int 0, .int 0, .int 0, .int 0, .int 0, .int 0, .int 0, .ref gn, .ref gf, .ref gp, .ref gs, .ref gr])), (gn, .inr (3, [.int 0, .ref a0, .ref a1, .ref a2, .ref a3, .ref a4, .ref a5, .ref a6])), (gf, .inr (1, [.int 0, .ref b0, .ref b1, .ref b2, .ref b3, .ref b4, .ref b5, .ref b6, .ref b7, .ref b8])), (gp, .inr (4, [.int 0, .ref e0, .ref e1, .ref e2, .ref e3])), (gs, .inr (7, [.int 0, .int 0, .int 0, .int 0, .int 0, .int 0, .int (-1), .int 0]))] := hD
  refine lv_aload_n hx hb dX2_clear_20 rfl (lv_at hl 0 rfl) ?_
  refine lv_iconst (v := 0) hx hb dX2_clear_21 (by decide) ?_
  refine va_put (D := (dC, dI)) (ci := 2) (v := .int 0) (ty := .int) (C := RX2) (T := TX2) (N := 14) hx hb hwd inlX2 tyX2 tyX2_ok nmX2 hown hK hP hD hS 0 rfl rfl 4 (by decide) (hwd _ kr10_3) (fun _ h9 => h9) rfl (by decide +kernel) rfl rfl (Nat.le_of_ble_eq_true rfl) dX2_clear_22 (fun H locs hP hD hS => ?_)
  have hP : va_P (dC, dI) vwCl [(h0, .inr (2, [.int 0, .int 0, .int 0, .int 0, .int 0, .int 0, .int 0, .int 0, .int 0, .ref gn, .ref gf, .ref gp, .ref gs, .ref gr])), (gn, .inr (3, [.int 0, .ref a0, .ref a1, .ref a2, .ref a3, .ref a4, .ref a5, .ref a6])), (gf, .inr (1, [.int 0, .ref b0, .ref b1, .ref b2, .ref b3, .ref b4, .ref b5, .ref b6, .ref b7, .ref b8])), (gp, .inr (4, [.int 0, .ref e0, .ref e1, .ref e2, .ref e3])), (gs, .inr (7, [.int 0, .int 0, .int 0, .int 0, .int 0, .int 0, .int (-1), .int 0]))] H := hP
  have hD : va_D A [(h0, .inr (2, [.int 0, .int 0, .int 0, .int 0, .int 0, .int 0, .int 0, .int 0, .int 0, .ref gn, .ref gf, .ref gp, .ref gs, .ref gr])), (gn, .inr (3, [.int 0, .ref a0, .ref a1, .ref a2, .ref a3, .ref a4, .ref a5, .ref a6])), (gf, .inr (1, [.int 0, .ref b0, .ref b1, .ref b2, .ref b3, .ref b4, .ref b5, .ref b6, .ref b7, .ref b8])), (gp, .inr (4, [.int 0, .ref e0, .ref e1, .ref e2, .ref e3])), (gs, .inr (7, [.int 0, .int 0, .int 0, .int 0, .int 0, .int 0, .int (-1), .int 0]))] := hD
  refine lv_aload_n hx hb dX2_clear_25 rfl (lv_at hl 0 rfl) ?_
  refine lv_iconst (v := 0) hx hb dX2_clear_26 (by decide) ?_
  refine va_put (D := (dC, dI)) (ci := 2) (v := .int 0) (ty := .boolean) (C := RX2) (T := TX2) (N := 14) hx hb hwd inlX2 tyX2 tyX2_ok nmX2 hown hK hP hD hS 0 rfl rfl 5 (by decide) (hwd _ kr10_4) (fun _ h9 => h9) rfl (by decide +kernel) rfl rfl (Nat.le_of_ble_eq_true rfl) dX2_clear_27 (fun H locs hP hD hS => ?_)
  have hP : va_P (dC, dI) vwCl [(h0, .inr (2, [.int 0, .int 0, .int 0, .int 0, .int 0, .int 0, .int 0, .int 0, .int 0, .ref gn, .ref gf, .ref gp, .ref gs, .ref gr])), (gn, .inr (3, [.int 0, .ref a0, .ref a1, .ref a2, .ref a3, .ref a4, .ref a5, .ref a6])), (gf, .inr (1, [.int 0, .ref b0, .ref b1, .ref b2, .ref b3, .ref b4, .ref b5, .ref b6, .ref b7, .ref b8])), (gp, .inr (4, [.int 0, .ref e0, .ref e1, .ref e2, .ref e3])), (gs, .inr (7, [.int 0, .int 0, .int 0, .int 0, .int 0, .int 0, .int (-1), .int 0]))] H := hP
  have hD : va_D A [(h0, .inr (2, [.int 0, .int 0, .int 0, .int 0, .int 0, .int 0, .int 0, .int 0, .int 0, .ref gn, .ref gf, .ref gp, .ref gs, .ref gr])), (gn, .inr (3, [.int 0, .ref a0, .ref a1, .ref a2, .ref a3, .ref a4, .ref a5, .ref a6])), (gf, .inr (1, [.int 0, .ref b0, .ref b1, .ref b2, .ref b3, .ref b4, .ref b5, .ref b6, .ref b7, .ref b8])), (gp, .inr (4, [.int 0, .ref e0, .ref e1, .ref e2, .ref e3])), (gs, .inr (7, [.int 0, .int 0, .int 0, .int 0, .int 0, .int 0, .int (-1), .int 0]))] := hD
  refine lv_aload_n hx hb dX2_clear_30 rfl (lv_at hl 0 rfl) ?_
  refine lv_iconst (v := 1) hx hb dX2_clear_31 (by decide) ?_
  refine va_put (D := (dC, dI)) (ci := 2) (v := .int 1) (ty := .int) (C := RX2) (T := TX2) (N := 14) hx hb hwd inlX2 tyX2 tyX2_ok nmX2 hown hK hP hD hS 0 rfl rfl 6 (by decide) (hwd _ kr10_5) (fun _ h9 => h9) rfl (by decide +kernel) rfl rfl (Nat.le_of_ble_eq_true rfl) dX2_clear_32 (fun H locs hP hD hS => ?_)
  have hP : va_P (dC, dI) vwCl [(h0, .inr (2, [.int 0, .int 0, .int 0, .int 0, .int 0, .int 0, .int 1, .int 0, .int 0, .ref gn, .ref gf, .ref gp, .ref gs, .ref gr])), (gn, .inr (3, [.int 0, .ref a0, .ref a1, .ref a2, .ref a3, .ref a4, .ref a5, .ref a6])), (gf, .inr (1, [.int 0, .ref b0, .ref b1, .ref b2, .ref b3, .ref b4, .ref b5, .ref b6, .ref b7, .ref b8])), (gp, .inr (4, [.int 0, .ref e0, .ref e1, .ref e2, .ref e3])), (gs, .inr (7, [.int 0, .int 0, .int 0, .int 0, .int 0, .int 0, .int (-1), .int 0]))] H := hP
  have hD : va_D A [(h0, .inr (2, [.int 0, .int 0, .int 0, .int 0, .int 0, .int 0, .int 1, .int 0, .int 0, .ref gn, .ref gf, .ref gp, .ref gs, .ref gr])), (gn, .inr (3, [.int 0, .ref a0, .ref a1, .ref a2, .ref a3, .ref a4, .ref a5, .ref a6])), (gf, .inr (1, [.int 0, .ref b0, .ref b1, .ref b2, .ref b3, .ref b4, .ref b5, .ref b6, .ref b7, .ref b8])), (gp, .inr (4, [.int 0, .ref e0, .ref e1, .ref e2, .ref e3])), (gs, .inr (7, [.int 0, .int 0, .int 0, .int 0, .int 0, .int 0, .int (-1), .int 0]))] := hD
  refine lv_aload_n hx hb dX2_clear_35 rfl (lv_at hl 0 rfl) ?_
  refine lv_iconst (v := 1) hx hb dX2_clear_36 (by decide) ?_
  refine va_put (D := (dC, dI)) (ci := 2) (v := .int 1) (ty := .int) (C := RX2) (T := TX2) (N := 14) hx hb hwd inlX2 tyX2 tyX2_ok nmX2 hown hK hP hD hS 0 rfl rfl 7 (by decide) (hwd _ kr10_6) (fun _ h9 => h9) rfl (by decide +kernel) rfl rfl (Nat.le_of_ble_eq_true rfl) dX2_clear_37 (fun H locs hP hD hS => ?_)
  have hP : va_P (dC, dI) vwCl [(h0, .inr (2, [.int 0, .int 0, .int 0, .int 0, .int 0, .int 0, .int 1, .int 1, .int 0, .ref gn, .ref gf, .ref gp, .ref gs, .ref gr])), (gn, .inr (3, [.int 0, .ref a0, .ref a1, .ref a2, .ref a3, .ref a4, .ref a5, .ref a6])), (gf, .inr (1, [.int 0, .ref b0, .ref b1, .ref b2, .ref b3, .ref b4, .ref b5, .ref b6, .ref b7, .ref b8])), (gp, .inr (4, [.int 0, .ref e0, .ref e1, .ref e2, .ref e3])), (gs, .inr (7, [.int 0, .int 0, .int 0, .int 0, .int 0, .int 0, .int (-1), .int 0]))] H := hP
  have hD : va_D A [(h0, .inr (2, [.int 0, .int 0, .int 0, .int 0, .int 0, .int 0, .int 1, .int 1, .int 0, .ref gn, .ref gf, .ref gp, .ref gs, .ref gr])), (gn, .inr (3, [.int 0, .ref a0, .ref a1, .ref a2, .ref a3, .ref a4, .ref a5, .ref a6])), (gf, .inr (1, [.int 0, .ref b0, .ref b1, .ref b2, .ref b3, .ref b4, .ref b5, .ref b6, .ref b7, .ref b8])), (gp, .inr (4, [.int 0, .ref e0, .ref e1, .ref e2, .ref e3])), (gs, .inr (7, [.int 0, .int 0, .int 0, .int 0, .int 0, .int 0, .int (-1), .int 0]))] := hD
  refine lv_aload_n hx hb dX2_clear_40 rfl (lv_at hl 0 rfl) ?_
  refine lv_iconst (v := 0) hx hb dX2_clear_41 (by decide) ?_
  refine va_put (D := (dC, dI)) (ci := 2) (v := .int 0) (ty := .boolean) (C := RX2) (T := TX2) (N := 14) hx hb hwd inlX2 tyX2 tyX2_ok nmX2 hown hK hP hD hS 0 rfl rfl 8 (by decide) (hwd _ kr10_7) (fun _ h9 => h9) rfl (by decide +kernel) rfl rfl (Nat.le_of_ble_eq_true rfl) dX2_clear_42 (fun H locs hP hD hS => ?_)
  have hP : va_P (dC, dI) vwCl [(h0, .inr (2, [.int 0, .int 0, .int 0, .int 0, .int 0, .int 0, .int 1, .int 1, .int 0, .ref gn, .ref gf, .ref gp, .ref gs, .ref gr])), (gn, .inr (3, [.int 0, .ref a0, .ref a1, .ref a2, .ref a3, .ref a4, .ref a5, .ref a6])), (gf, .inr (1, [.int 0, .ref b0, .ref b1, .ref b2, .ref b3, .ref b4, .ref b5, .ref b6, .ref b7, .ref b8])), (gp, .inr (4, [.int 0, .ref e0, .ref e1, .ref e2, .ref e3])), (gs, .inr (7, [.int 0, .int 0, .int 0, .int 0, .int 0, .int 0, .int (-1), .int 0]))] H := hP
  have hD : va_D A [(h0, .inr (2, [.int 0, .int 0, .int 0, .int 0, .int 0, .int 0, .int 1, .int 1, .int 0, .ref gn, .ref gf, .ref gp, .ref gs, .ref gr])), (gn, .inr (3, [.int 0, .ref a0, .ref a1, .ref a2, .ref a3, .ref a4, .ref a5, .ref a6])), (gf, .inr (1, [.int 0, .ref b0, .ref b1, .ref b2, .ref b3, .ref b4, .ref b5, .ref b6, .ref b7, .ref b8])), (gp, .inr (4, [.int 0, .ref e0, .ref e1, .ref e2, .ref e3])), (gs, .inr (7, [.int 0, .int 0, .int 0, .int 0, .int 0, .int 0, .int (-1), .int 0]))] := hD
  refine lv_aload_n hx hb dX2_clear_45 rfl (lv_at hl 0 rfl) ?_
  refine va_get (D := (dC, dI)) (ci := 2) (v := .ref gn) (C := RX2) (T := TX2) (N := 14) hx hb hwd inlX2 hown hK hP 0 rfl rfl 9 (by decide) (hwd _ kr5_0) (fun _ h9 => h9) rfl dX2_clear_46 ?_
  refine lv_iconst (v := 0) hx hb dX2_clear_49 (by decide) ?_
  refine va_put (D := (dC, dI)) (ci := 3) (v := .int 0) (ty := .int) (C := RX3) (T := TX3) (N := 8) hx hb hwd inlX3 tyX3 tyX3_ok nmX3 hown hK hP hD hS 1 rfl rfl 0 (by decide) (hwd _ kr10_8) (fun _ h9 => h9) rfl (by decide +kernel) rfl rfl (Nat.le_of_ble_eq_true rfl) dX2_clear_50 (fun H locs hP hD hS => ?_)
  have hP : va_P (dC, dI) vwCl [(h0, .inr (2, [.int 0, .int 0, .int 0, .int 0, .int 0, .int 0, .int 1, .int 1, .int 0, .ref gn, .ref gf, .ref gp, .ref gs, .ref gr])), (gn, .inr (3, [.int 0, .ref a0, .ref a1, .ref a2, .ref a3, .ref a4, .ref a5, .ref a6])), (gf, .inr (1, [.int 0, .ref b0, .ref b1, .ref b2, .ref b3, .ref b4, .ref b5, .ref b6, .ref b7, .ref b8])), (gp, .inr (4, [.int 0, .ref e0, .ref e1, .ref e2, .ref e3])), (gs, .inr (7, [.int 0, .int 0, .int 0, .int 0, .int 0, .int 0, .int (-1), .int 0]))] H := hP
  have hD : va_D A [(h0, .inr (2, [.int 0, .int 0, .int 0, .int 0, .int 0, .int 0, .int 1, .int 1, .int 0, .ref gn, .ref gf, .ref gp, .ref gs, .ref gr])), (gn, .inr (3, [.int 0, .ref a0, .ref a1, .ref a2, .ref a3, .ref a4, .ref a5, .ref a6])), (gf, .inr (1, [.int 0, .ref b0, .ref b1, .ref b2, .ref b3, .ref b4, .ref b5, .ref b6, .ref b7, .ref b8])), (gp, .inr (4, [.int 0, .ref e0, .ref e1, .ref e2, .ref e3])), (gs, .inr (7, [.int 0, .int 0, .int 0, .int 0, .int 0, .int 0, .int (-1), .int 0]))] := hD
  refine lv_aload_n hx hb dX2_clear_53 rfl (lv_at hl 0 rfl) ?_
  refine va_get (D := (dC, dI)) (ci := 2) (v := .ref gf) (C := RX2) (T := TX2) (N := 14) hx hb hwd inlX2 hown hK hP 0 rfl rfl 10 (by decide) (hwd _ kr5_4) (fun _ h9 => h9) rfl dX2_clear_54 ?_
  refine lv_iconst (v := 0) hx hb dX2_clear_57 (by decide) ?_
  refine va_put (D := (dC, dI)) (ci := 1) (v := .int 0) (ty := .int) (C := RX1) (T := TX1) (N := 10) hx hb hwd inlX1 tyX1 tyX1_ok nmX1 hown hK hP hD hS 2 rfl rfl 0 (by decide) (hwd _ kr10_9) (fun _ h9 => h9) rfl (by decide +kernel) rfl rfl (Nat.le_of_ble_eq_true rfl) dX2_clear_58 (fun H locs hP hD hS => ?_)
  have hP : va_P (dC, dI) vwCl [(h0, .inr (2, [.int 0, .int 0, .int 0, .int 0, .int 0, .int 0, .int 1, .int 1, .int 0, .ref gn, .ref gf, .ref gp, .ref gs, .ref gr])), (gn, .inr (3, [.int 0, .ref a0, .ref a1, .ref a2, .ref a3, .ref a4, .ref a5, .ref a6])), (gf, .inr (1, [.int 0, .ref b0, .ref b1, .ref b2, .ref b3, .ref b4, .ref b5, .ref b6, .ref b7, .ref b8])), (gp, .inr (4, [.int 0, .ref e0, .ref e1, .ref e2, .ref e3])), (gs, .inr (7, [.int 0, .int 0, .int 0, .int 0, .int 0, .int 0, .int (-1), .int 0]))] H := hP
  have hD : va_D A [(h0, .inr (2, [.int 0, .int 0, .int 0, .int 0, .int 0, .int 0, .int 1, .int 1, .int 0, .ref gn, .ref gf, .ref gp, .ref gs, .ref gr])), (gn, .inr (3, [.int 0, .ref a0, .ref a1, .ref a2, .ref a3, .ref a4, .ref a5, .ref a6])), (gf, .inr (1, [.int 0, .ref b0, .ref b1, .ref b2, .ref b3, .ref b4, .ref b5, .ref b6, .ref b7, .ref b8])), (gp, .inr (4, [.int 0, .ref e0, .ref e1, .ref e2, .ref e3])), (gs, .inr (7, [.int 0, .int 0, .int 0, .int 0, .int 0, .int 0, .int (-1), .int 0]))] := hD
  refine lv_aload_n hx hb dX2_clear_61 rfl (lv_at hl 0 rfl) ?_
  refine va_get (D := (dC, dI)) (ci := 2) (v := .ref gp) (C := RX2) (T := TX2) (N := 14) hx hb hwd inlX2 hown hK hP 0 rfl rfl 11 (by decide) (hwd _ kr5_8) (fun _ h9 => h9) rfl dX2_clear_62 ?_
  refine lv_iconst (v := 0) hx hb dX2_clear_65 (by decide) ?_
  refine va_put (D := (dC, dI)) (ci := 4) (v := .int 0) (ty := .int) (C := RX4) (T := TX4) (N := 5) hx hb hwd inlX4 tyX4 tyX4_ok nmX4 hown hK hP hD hS 3 rfl rfl 0 (by decide) (hwd _ kr10_10) (fun _ h9 => h9) rfl (by decide +kernel) rfl rfl (Nat.le_of_ble_eq_true rfl) dX2_clear_66 (fun H locs hP hD hS => ?_)
  have hP : va_P (dC, dI) vwCl [(h0, .inr (2, [.int 0, .int 0, .int 0, .int 0, .int 0, .int 0, .int 1, .int 1, .int 0, .ref gn, .ref gf, .ref gp, .ref gs, .ref gr])), (gn, .inr (3, [.int 0, .ref a0, .ref a1, .ref a2, .ref a3, .ref a4, .ref a5, .ref a6])), (gf, .inr (1, [.int 0, .ref b0, .ref b1, .ref b2, .ref b3, .ref b4, .ref b5, .ref b6, .ref b7, .ref b8])), (gp, .inr (4, [.int 0, .ref e0, .ref e1, .ref e2, .ref e3])), (gs, .inr (7, [.int 0, .int 0, .int 0, .int 0, .int 0, .int 0, .int (-1), .int 0]))] H := hP
  have hD : va_D A [(h0, .inr (2, [.int 0, .int 0, .int 0, .int 0, .int 0, .int 0, .int 1, .int 1, .int 0, .ref gn, .ref gf, .ref gp, .ref gs, .ref gr])), (gn, .inr (3, [.int 0, .ref a0, .ref a1, .ref a2, .ref a3, .ref a4, .ref a5, .ref a6])), (gf, .inr (1, [.int 0, .ref b0, .ref b1, .ref b2, .ref b3, .ref b4, .ref b5, .ref b6, .ref b7, .ref b8])), (gp, .inr (4, [.int 0, .ref e0, .ref e1, .ref e2, .ref e3])), (gs, .inr (7, [.int 0, .int 0, .int 0, .int 0, .int 0, .int 0, .int (-1), .int 0]))] := hD
  refine lv_aload_n hx hb dX2_clear_69 rfl (lv_at hl 0 rfl) ?_
  refine va_get (D := (dC, dI)) (ci := 2) (v := .ref gs) (C := RX2) (T := TX2) (N := 14) hx hb hwd inlX2 hown hK hP 0 rfl rfl 12 (by decide) (hwd _ kr5_12) (fun _ h9 => h9) rfl dX2_clear_70 ?_
  have hPc := hP.sub (ws' := [(gs, .inr (7, [.int 0, .int 0, .int 0, .int 0, .int 0, .int 0, .int (-1), .int 0]))]) [4] rfl
  have hDc := hD.sub (ws' := [(gs, .inr (7, [.int 0, .int 0, .int 0, .int 0, .int 0, .int 0, .int (-1), .int 0]))]) [4] (by decide) rfl
  have hFc := va_free (wc := [(gs, .inr (7, [.int 0, .int 0, .int 0, .int 0, .int 0, .int 0, .int (-1), .int 0]))]) hD hS hA [4] rfl
  refine va_callv (va_runV (As := []) (rest := []) ⟨hx, hb, hml, hown, hwd⟩ (c_X7_clear l dC dI cI cZ cB cJ cM gs H.size) (cwV 0 hwd (gV kr10_11 kr10_12 kr10_13 kr5_11 kr10_14) rfl rfl rfl (by decide +kernel) ⟨Nat.le_of_ble_eq_true rfl, Nat.le_of_ble_eq_true rfl⟩) (kPreV hPc hK hDc (ci := 7) (q0 := 0) rfl rfl) rfl rfl hl.1 rfl (lv_room (Nat.le_of_ble_eq_true rfl)) dX2_clear_73 ⟨Nat.le_of_ble_eq_true rfl, Nat.le_of_ble_eq_true rfl⟩) hS (fun q _ h => hFc q h) hFc (fun u2 t H1 locs ht9 hvm hw hB hz1 hk1 hS => ?_)
  obtain ⟨hP1, hD1⟩ := hB
  rw [ht9] at hP1
  obtain ⟨hP, hD⟩ := va_join (wr := [(h0, .inr (2, [.int 0, .int 0, .int 0, .int 0, .int 0, .int 0, .int 1, .int 1, .int 0, .ref gn, .ref gf, .ref gp, .ref gs, .ref gr])), (gn, .inr (3, [.int 0, .ref a0, .ref a1, .ref a2, .ref a3, .ref a4, .ref a5, .ref a6])), (gf, .inr (1, [.int 0, .ref b0, .ref b1, .ref b2, .ref b3, .ref b4, .ref b5, .ref b6, .ref b7, .ref b8])), (gp, .inr (4, [.int 0, .ref e0, .ref e1, .ref e2, .ref e3]))]) (w1 := [(gs, .inr (7, [.int 0, .int 0, .int 0, .int 0, .int 0, .int 0, .int (-1), .int 0]))]) hP hD [4] [0, 1, 2, 3] rfl rfl (by decide) (by decide) hk1 hFc hP1 hD1
  generalize H1 = H at hP hS ⊢
  have hP : va_P (dC, dI) vwCl [(h0, .inr (2, [.int 0, .int 0, .int 0, .int 0, .int 0, .int 0, .int 1, .int 1, .int 0, .ref gn, .ref gf, .ref gp, .ref gs, .ref gr])), (gn, .inr (3, [.int 0, .ref a0, .ref a1, .ref a2, .ref a3, .ref a4, .ref a5, .ref a6])), (gf, .inr (1, [.int 0, .ref b0, .ref b1, .ref b2, .ref b3, .ref b4, .ref b5, .ref b6, .ref b7, .ref b8])), (gp, .inr (4, [.int 0, .ref e0, .ref e1, .ref e2, .ref e3])), (gs, .inr (7, [.int 0, .int 0, .int 0, .int 0, .int 0, .int 0, .int (-1), .int 0]))] H := hP
  have hD : va_D A [(h0, .inr (2, [.int 0, .int 0, .int 0, .int 0, .int 0, .int 0, .int 1, .int 1, .int 0, .ref gn, .ref gf, .ref gp, .ref gs, .ref gr])), (gn, .inr (3, [.int 0, .ref a0, .ref a1, .ref a2, .ref a3, .ref a4, .ref a5, .ref a6])), (gf, .inr (1, [.int 0, .ref b0, .ref b1, .ref b2, .ref b3, .ref b4, .ref b5, .ref b6, .ref b7, .ref b8])), (gp, .inr (4, [.int 0, .ref e0, .ref e1, .ref e2, .ref e3])), (gs, .inr (7, [.int 0, .int 0, .int 0, .int 0, .int 0, .int 0, .int (-1), .int 0]))] := hD
  have hP9 := hP.sub (ws' := [(h0, .inr (2, [.int 0, .int 0, .int 0, .int 0, .int 0, .int 0, .int 1, .int 1, .int 0, .ref gn, .ref gf, .ref gp, .ref gs, .ref gr])), (gn, .inr (3, [.int 0, .ref a0, .ref a1, .ref a2, .ref a3, .ref a4, .ref a5, .ref a6])), (gf, .inr (1, [.int 0, .ref b0, .ref b1, .ref b2, .ref b3, .ref b4, .ref b5, .ref b6, .ref b7, .ref b8])), (gp, .inr (4, [.int 0, .ref e0, .ref e1, .ref e2, .ref e3])), (gs, .inr (7, [.int 0, .int 0, .int 0, .int 0, .int 0, .int 0, .int (-1), .int 0]))]) [0, 1, 2, 3, 4] rfl
  have hD9 := hD.sub (ws' := [(h0, .inr (2, [.int 0, .int 0, .int 0, .int 0, .int 0, .int 0, .int 1, .int 1, .int 0, .ref gn, .ref gf, .ref gp, .ref gs, .ref gr])), (gn, .inr (3, [.int 0, .ref a0, .ref a1, .ref a2, .ref a3, .ref a4, .ref a5, .ref a6])), (gf, .inr (1, [.int 0, .ref b0, .ref b1, .ref b2, .ref b3, .ref b4, .ref b5, .ref b6, .ref b7, .ref b8])), (gp, .inr (4, [.int 0, .ref e0, .ref e1, .ref e2, .ref e3])), (gs, .inr (7, [.int 0, .int 0, .int 0, .int 0, .int 0, .int 0, .int (-1), .int 0]))]) [0, 1, 2, 3, 4] (by decide) rfl
  exact W.vret hx hb hr (fun t ht hW => ⟨⟨(), rfl, trivial, (by rw [ht]; exact hP9), hD9⟩, hS.F ht⟩) hS.2.2 dX2_clear_76
set_option maxHeartbeats 4000000 in
set_option maxRecDepth 100000 in
theorem c_X2_readFrom (l : Launch) (dC : Nat → ClassId) (dI : Nat → Nat → Nat) (cI cZ cB cJ cM : ClassId) (h0 gn gf gp gs gr t0 a0 : Nat) (sz : Nat) : Met l yX2_readFrom (kw yX2_readFrom cX2_readFrom 3 none) ({ frames := 1, cells := 0, slots := 0, locals := 20 }) (va_Pc [.ref h0, .ref t0] (kPre dC dI [(cI, .int), (cZ, .boolean), (cB, .byte), (cJ, .long), (cM, .object RX2)] [(h0, .inr (2, [.int 0, .int 0, .int 0, .int 0, .int 0, .int 0, .int 1, .int 1, .int 0, .ref gn, .ref gf, .ref gp, .ref gs, .ref gr])), (t0, .inr (10, [.ref a0, .int 0, .int 0, .int (-1), .int 0, .int 0, .int 0, .int 0]))] sz)) (va_Qv (fun _ : Unit => True) (fun _ t => va_P (dC, dI) vwCl [(h0, .inr (2, [.int 0, .int 0, .int 0, .int 0, .int 0, .int 0, .int 1, .int 1, .int 0, .ref gn, .ref gf, .ref gp, .ref gs, .ref gr])), (t0, .inr (10, [.ref a0, .int 0, .int 0, .int (-1), .int 0, .int 0, .int 0, .int 0]))] t.heap ∧ va_D (va_A [(h0, .inr (2, [.int 0, .int 0, .int 0, .int 0, .int 0, .int 0, .int 1, .int 1, .int 0, .ref gn, .ref gf, .ref gp, .ref gs, .ref gr])), (t0, .inr (10, [.ref a0, .int 0, .int 0, .int (-1), .int 0, .int 0, .int 0, .int 0]))] sz) [(h0, .inr (2, [.int 0, .int 0, .int 0, .int 0, .int 0, .int 0, .int 1, .int 1, .int 0, .ref gn, .ref gf, .ref gp, .ref gs, .ref gr])), (t0, .inr (10, [.ref a0, .int 0, .int 0, .int (-1), .int 0, .int 0, .int 0, .int 0]))]) (va_A [(h0, .inr (2, [.int 0, .int 0, .int 0, .int 0, .int 0, .int 0, .int 1, .int 1, .int 0, .ref gn, .ref gf, .ref gp, .ref gs, .ref gr])), (t0, .inr (10, [.ref a0, .int 0, .int 0, .int (-1), .int 0, .int 0, .int 0, .int 0]))] sz)) 0 0 (va_A [(h0, .inr (2, [.int 0, .int 0, .int 0, .int 0, .int 0, .int 0, .int 1, .int 1, .int 0, .ref gn, .ref gf, .ref gp, .ref gs, .ref gr])), (t0, .inr (10, [.ref a0, .int 0, .int 0, .int (-1), .int 0, .int 0, .int 0, .int 0]))] sz) := by
  refine kEnter (by decide) (Nat.le_of_ble_eq_true rfl) ?_
  intro p e s m below meth c ls hx hb hr hml hown hlocks hin hwd hsz hP hK hD hl
  subst hsz
  generalize hAe : va_A [(h0, .inr (2, [.int 0, .int 0, .int 0, .int 0, .int 0, .int 0, .int 1, .int 1, .int 0, .ref gn, .ref gf, .ref gp, .ref gs, .ref gr])), (t0, .inr (10, [.ref a0, .int 0, .int 0, .int (-1), .int 0, .int 0, .int 0, .int 0]))] s.heap.size = A at hD ⊢
  have hA : ∀ q : Nat, s.heap.size ≤ q → A q := fun q h => by rw [← hAe]; exact Or.inr h
  have hS : va_S A s.heap s.heap [] := va_S.rf
  have hl : lv_has ls 3 [(0, .ref h0), (1, .ref t0)] := hl
  refine lv_iconst (v := 0) hx hb dX2_readFrom_0 (by decide) ?_
  refine lv_istore_n (lv' := [(2, .int 0), (0, .ref h0), (1, .ref t0)]) hx hb dX2_readFrom_1 rfl hl (by decide) rfl (fun ls hl => ?_)
  refine lv_iload_n hx hb dX2_readFrom_2 rfl (lv_at hl 0 rfl) ?_
  refine lv_sipush (v := 1600) hx hb dX2_readFrom_3 (by decide) ?_
  refine lv_icmp_ge (tgt := 43) hx hb dX2_readFrom_6 (by decide) (fun c1 => absurd c1 (by decide)) (fun c1 => ?_)
  refine lv_aload_n hx hb dX2_readFrom_9 rfl (lv_at hl 2 rfl) ?_
  have hPc := hP.sub (ws' := [(t0, .inr (10, [.ref a0, .int 0, .int 0, .int (-1), .int 0, .int 0, .int 0, .int 0]))]) [1] rfl
  have hDc := hD.sub (ws' := [(t0, .inr (10, [.ref a0, .int 0, .int 0, .int (-1), .int 0, .int 0, .int 0, .int 0]))]) [1] (by decide) rfl
  have hFc := va_free (wc := [(t0, .inr (10, [.ref a0, .int 0, .int 0, .int (-1), .int 0, .int 0, .int 0, .int 0]))]) hD hS hA [1] rfl
  refine va_calli (va_runV (As := []) (rest := []) ⟨hx, hb, hml, hown, hwd⟩ (c_X10_goesOn l dC dI cI cZ cB cJ cM t0 a0 s.heap.size) (cwV 0 hwd (gV kr12_14 kr12_15 kr12_16 kr1_15 kr12_17) rfl rfl rfl (by decide +kernel) ⟨Nat.le_of_ble_eq_true rfl, Nat.le_of_ble_eq_true rfl⟩) (kPreV hPc hK hDc (ci := 10) (q0 := 0) rfl rfl) rfl rfl hl.1 rfl (lv_room (Nat.le_of_ble_eq_true rfl)) dX2_readFrom_10 ⟨Nat.le_of_ble_eq_true rfl, Nat.le_of_ble_eq_true rfl⟩) hS (fun q _ h => hFc q h) hFc (fun r2 u3 t H1 locs ht9 hvm hw hB hz1 hk1 hS => ?_)
  obtain ⟨hP1, hD1⟩ := hB
  rw [ht9] at hP1
  obtain ⟨hP, hD⟩ := va_join (wr := [(h0, .inr (2, [.int 0, .int 0, .int 0, .int 0, .int 0, .int 0, .int 1, .int 1, .int 0, .ref gn, .ref gf, .ref gp, .ref gs, .ref gr]))]) (w1 := [(t0, .inr (10, [.ref a0, .int 0, .int 0, .int (-1), .int 0, .int 0, .int 0, .int 0]))]) hP hD [1] [0] rfl rfl (by decide) (by decide) hk1 hFc hP1 hD1
  generalize H1 = H at hP hS ⊢
  have hP : va_P (dC, dI) vwCl [(h0, .inr (2, [.int 0, .int 0, .int 0, .int 0, .int 0, .int 0, .int 1, .int 1, .int 0, .ref gn, .ref gf, .ref gp, .ref gs, .ref gr])), (t0, .inr (10, [.ref a0, .int 0, .int 0, .int (-1), .int 0, .int 0, .int 0, .int 0]))] H := hP
  have hD : va_D A [(h0, .inr (2, [.int 0, .int 0, .int 0, .int 0, .int 0, .int 0, .int 1, .int 1, .int 0, .ref gn, .ref gf, .ref gp, .ref gs, .ref gr])), (t0, .inr (10, [.ref a0, .int 0, .int 0, .int (-1), .int 0, .int 0, .int 0, .int 0]))] := hD
  subst hw
  refine lv_if_eq (tgt := 43) hx hb dX2_readFrom_13 (by decide) (fun c4 => ?_) (fun c4 => absurd c4 (by decide))
  have hP9 := hP.sub (ws' := [(h0, .inr (2, [.int 0, .int 0, .int 0, .int 0, .int 0, .int 0, .int 1, .int 1, .int 0, .ref gn, .ref gf, .ref gp, .ref gs, .ref gr])), (t0, .inr (10, [.ref a0, .int 0, .int 0, .int (-1), .int 0, .int 0, .int 0, .int 0]))]) [0, 1] rfl
  have hD9 := hD.sub (ws' := [(h0, .inr (2, [.int 0, .int 0, .int 0, .int 0, .int 0, .int 0, .int 1, .int 1, .int 0, .ref gn, .ref gf, .ref gp, .ref gs, .ref gr])), (t0, .inr (10, [.ref a0, .int 0, .int 0, .int (-1), .int 0, .int 0, .int 0, .int 0]))]) [0, 1] (by decide) rfl
  exact W.vret hx hb hr (fun t ht hW => ⟨⟨(), rfl, trivial, (by rw [ht]; exact hP9), hD9⟩, hS.F ht⟩) hS.2.2 dX2_readFrom_43
set_option maxHeartbeats 4000000 in
set_option maxRecDepth 100000 in
theorem c_X0_takeHeights (l : Launch) (dC : Nat → ClassId) (dI : Nat → Nat → Nat) (cI cZ cB cJ cM : ClassId) (h0 gn a0 a1 a2 a3 a4 a5 a6 k0 k1 k2 k3 k4 k5 k6 : Nat) (sz : Nat) : Met l yX0_takeHeights (kw yX0_takeHeights cX0_takeHeights 4 none) ({ frames := 0, cells := 0, slots := 0, locals := 0 }) (va_Pc [.ref h0, .ref gn, .ref a5] (kPre dC dI [(cI, .int), (cZ, .boolean), (cB, .byte), (cJ, .long), (cM, .object RX2)] [(h0, .inr (0, [.ref k0, .ref k1, .ref k2, .ref k3, .ref k4, .ref k5, .ref k6])), (gn, .inr (3, [.int 0, .ref a0, .ref a1, .ref a2, .ref a3, .ref a4, .ref a5, .ref a6]))] sz)) (va_Qv (fun _ : Unit => True) (fun _ t => va_P (dC, dI) vwCl [(h0, .inr (0, [.ref k0, .ref k1, .ref k2, .ref k3, .ref k4, .ref k5, .ref k6])), (gn, .inr (3, [.int 0, .ref a0, .ref a1, .ref a2, .ref a3, .ref a4, .ref a5, .ref a6]))] t.heap ∧ va_D (va_A [(h0, .inr (0, [.ref k0, .ref k1, .ref k2, .ref k3, .ref k4, .ref k5, .ref k6])), (gn, .inr (3, [.int 0, .ref a0, .ref a1, .ref a2, .ref a3, .ref a4, .ref a5, .ref a6]))] sz) [(h0, .inr (0, [.ref k0, .ref k1, .ref k2, .ref k3, .ref k4, .ref k5, .ref k6])), (gn, .inr (3, [.int 0, .ref a0, .ref a1, .ref a2, .ref a3, .ref a4, .ref a5, .ref a6]))]) (va_A [(h0, .inr (0, [.ref k0, .ref k1, .ref k2, .ref k3, .ref k4, .ref k5, .ref k6])), (gn, .inr (3, [.int 0, .ref a0, .ref a1, .ref a2, .ref a3, .ref a4, .ref a5, .ref a6]))] sz)) 0 0 (va_A [(h0, .inr (0, [.ref k0, .ref k1, .ref k2, .ref k3, .ref k4, .ref k5, .ref k6])), (gn, .inr (3, [.int 0, .ref a0, .ref a1, .ref a2, .ref a3, .ref a4, .ref a5, .ref a6]))] sz) := by
  refine kEnter (by decide) (Nat.le_of_ble_eq_true rfl) ?_
  intro p e s m below meth c ls hx hb hr hml hown hlocks hin hwd hsz hP hK hD hl
  subst hsz
  generalize hAe : va_A [(h0, .inr (0, [.ref k0, .ref k1, .ref k2, .ref k3, .ref k4, .ref k5, .ref k6])), (gn, .inr (3, [.int 0, .ref a0, .ref a1, .ref a2, .ref a3, .ref a4, .ref a5, .ref a6]))] s.heap.size = A at hD ⊢
  have hA : ∀ q : Nat, s.heap.size ≤ q → A q := fun q h => by rw [← hAe]; exact Or.inr h
  have hS : va_S A s.heap s.heap [] := va_S.rf
  have hl : lv_has ls 4 [(0, .ref h0), (1, .ref gn), (2, .ref a5)] := hl
  refine lv_iconst (v := 0) hx hb dX0_takeHeights_0 (by decide) ?_
  refine lv_istore_n (lv' := [(3, .int 0), (0, .ref h0), (1, .ref gn), (2, .ref a5)]) hx hb dX0_takeHeights_1 rfl hl (by decide) rfl (fun ls hl => ?_)
  refine lv_iload_n hx hb dX0_takeHeights_2 rfl (lv_at hl 0 rfl) ?_
  refine lv_aload_n hx hb dX0_takeHeights_3 rfl (lv_at hl 2 rfl) ?_
  refine va_get (D := (dC, dI)) (ci := 3) (v := .int 0) (C := RX3) (T := TX3) (N := 8) hx hb hwd inlX3 hown hK hP 1 rfl rfl 0 (by decide) (hwd _ kr18_21) (fun _ h9 => h9) rfl dX0_takeHeights_4 ?_
  refine lv_icmp_ge (tgt := 30) hx hb dX0_takeHeights_7 (by decide) (fun c1 => ?_) (fun c1 => absurd c1 (by decide))
  have hP9 := hP.sub (ws' := [(h0, .inr (0, [.ref k0, .ref k1, .ref k2, .ref k3, .ref k4, .ref k5, .ref k6])), (gn, .inr (3, [.int 0, .ref a0, .ref a1, .ref a2, .ref a3, .ref a4, .ref a5, .ref a6]))]) [0, 1] rfl
  have hD9 := hD.sub (ws' := [(h0, .inr (0, [.ref k0, .ref k1, .ref k2, .ref k3, .ref k4, .ref k5, .ref k6])), (gn, .inr (3, [.int 0, .ref a0, .ref a1, .ref a2, .ref a3, .ref a4, .ref a5, .ref a6]))]) [0, 1] (by decide) rfl
  exact W.vret hx hb hr (fun t ht hW => ⟨⟨(), rfl, trivial, (by rw [ht]; exact hP9), hD9⟩, hS.F ht⟩) hS.2.2 dX0_takeHeights_30
set_option maxHeartbeats 4000000 in
set_option maxRecDepth 100000 in
theorem c_X0_fillTable (l : Launch) (dC : Nat → ClassId) (dI : Nat → Nat → Nat) (cI cZ cB cJ cM : ClassId) (h0 m0 gn gf gp gs gr a0 a1 a2 a3 a4 a5 a6 b0 b1 b2 b3 b4 b5 b6 b7 b8 k0 k1 k2 k3 k4 k5 k6 : Nat) (sz : Nat) : Met l yX0_fillTable (kw yX0_fillTable cX0_fillTable 3 none) ({ frames := 1, cells := 0, slots := 0, locals := 23 }) (va_Pc [.ref h0, .ref m0] (kPre dC dI [(cI, .int), (cZ, .boolean), (cB, .byte), (cJ, .long), (cM, .object RX2)] [(h0, .inr (0, [.ref k0, .ref k1, .ref k2, .ref k3, .ref k4, .ref k5, .ref k6])), (m0, .inr (2, [.int 0, .int 0, .int 0, .int 0, .int 0, .int 0, .int 1, .int 1, .int 0, .ref gn, .ref gf, .ref gp, .ref gs, .ref gr])), (gn, .inr (3, [.int 0, .ref a0, .ref a1, .ref a2, .ref a3, .ref a4, .ref a5, .ref a6])), (gf, .inr (1, [.int 0, .ref b0, .ref b1, .ref b2, .ref b3, .ref b4, .ref b5, .ref b6, .ref b7, .ref b8]))] sz)) (va_Qv (fun _ : Unit => True) (fun _ t => va_P (dC, dI) vwCl [(h0, .inr (0, [.ref k0, .ref k1, .ref k2, .ref k3, .ref k4, .ref k5, .ref k6])), (m0, .inr (2, [.int 0, .int 0, .int 0, .int 0, .int 0, .int 0, .int 1, .int 1, .int 0, .ref gn, .ref gf, .ref gp, .ref gs, .ref gr])), (gn, .inr (3, [.int 0, .ref a0, .ref a1, .ref a2, .ref a3, .ref a4, .ref a5, .ref a6])), (gf, .inr (1, [.int 0, .ref b0, .ref b1, .ref b2, .ref b3, .ref b4, .ref b5, .ref b6, .ref b7, .ref b8]))] t.heap ∧ va_D (va_A [(h0, .inr (0, [.ref k0, .ref k1, .ref k2, .ref k3, .ref k4, .ref k5, .ref k6])), (m0, .inr (2, [.int 0, .int 0, .int 0, .int 0, .int 0, .int 0, .int 1, .int 1, .int 0, .ref gn, .ref gf, .ref gp, .ref gs, .ref gr])), (gn, .inr (3, [.int 0, .ref a0, .ref a1, .ref a2, .ref a3, .ref a4, .ref a5, .ref a6])), (gf, .inr (1, [.int 0, .ref b0, .ref b1, .ref b2, .ref b3, .ref b4, .ref b5, .ref b6, .ref b7, .ref b8]))] sz) [(h0, .inr (0, [.ref k0, .ref k1, .ref k2, .ref k3, .ref k4, .ref k5, .ref k6])), (m0, .inr (2, [.int 0, .int 0, .int 0, .int 0, .int 0, .int 0, .int 1, .int 1, .int 0, .ref gn, .ref gf, .ref gp, .ref gs, .ref gr])), (gn, .inr (3, [.int 0, .ref a0, .ref a1, .ref a2, .ref a3, .ref a4, .ref a5, .ref a6])), (gf, .inr (1, [.int 0, .ref b0, .ref b1, .ref b2, .ref b3, .ref b4, .ref b5, .ref b6, .ref b7, .ref b8]))]) (va_A [(h0, .inr (0, [.ref k0, .ref k1, .ref k2, .ref k3, .ref k4, .ref k5, .ref k6])), (m0, .inr (2, [.int 0, .int 0, .int 0, .int 0, .int 0, .int 0, .int 1, .int 1, .int 0, .ref gn, .ref gf, .ref gp, .ref gs, .ref gr])), (gn, .inr (3, [.int 0, .ref a0, .ref a1, .ref a2, .ref a3, .ref a4, .ref a5, .ref a6])), (gf, .inr (1, [.int 0, .ref b0, .ref b1, .ref b2, .ref b3, .ref b4, .ref b5, .ref b6, .ref b7, .ref b8]))] sz)) 0 0 (va_A [(h0, .inr (0, [.ref k0, .ref k1, .ref k2, .ref k3, .ref k4, .ref k5, .ref k6])), (m0, .inr (2, [.int 0, .int 0, .int 0, .int 0, .int 0, .int 0, .int 1, .int 1, .int 0, .ref gn, .ref gf, .ref gp, .ref gs, .ref gr])), (gn, .inr (3, [.int 0, .ref a0, .ref a1, .ref a2, .ref a3, .ref a4, .ref a5, .ref a6])), (gf, .inr (1, [.int 0, .ref b0, .ref b1, .ref b2, .ref b3, .ref b4, .ref b5, .ref b6, .ref b7, .ref b8]))] sz) := by
  refine kEnter (by decide) (Nat.le_of_ble_eq_true rfl) ?_
  intro p e s m below meth c ls hx hb hr hml hown hlocks hin hwd hsz hP hK hD hl
  subst hsz
  generalize hAe : va_A [(h0, .inr (0, [.ref k0, .ref k1, .ref k2, .ref k3, .ref k4, .ref k5, .ref k6])), (m0, .inr (2, [.int 0, .int 0, .int 0, .int 0, .int 0, .int 0, .int 1, .int 1, .int 0, .ref gn, .ref gf, .ref gp, .ref gs, .ref gr])), (gn, .inr (3, [.int 0, .ref a0, .ref a1, .ref a2, .ref a3, .ref a4, .ref a5, .ref a6])), (gf, .inr (1, [.int 0, .ref b0, .ref b1, .ref b2, .ref b3, .ref b4, .ref b5, .ref b6, .ref b7, .ref b8]))] s.heap.size = A at hD ⊢
  have hA : ∀ q : Nat, s.heap.size ≤ q → A q := fun q h => by rw [← hAe]; exact Or.inr h
  have hS : va_S A s.heap s.heap [] := va_S.rf
  have hl : lv_has ls 3 [(0, .ref h0), (1, .ref m0)] := hl
  refine lv_aload_n hx hb dX0_fillTable_0 rfl (lv_at hl 0 rfl) ?_
  refine lv_aload_n hx hb dX0_fillTable_1 rfl (lv_at hl 1 rfl) ?_
  refine va_get (D := (dC, dI)) (ci := 2) (v := .ref gn) (C := RX2) (T := TX2) (N := 14) hx hb hwd inlX2 hown hK hP 1 rfl rfl 9 (by decide) (hwd _ kr18_9) (fun _ h9 => h9) rfl dX0_fillTable_2 ?_
  refine lv_aload_n hx hb dX0_fillTable_5 rfl (lv_at hl 1 rfl) ?_
  refine va_get (D := (dC, dI)) (ci := 2) (v := .ref gn) (C := RX2) (T := TX2) (N := 14) hx hb hwd inlX2 hown hK hP 1 rfl rfl 9 (by decide) (hwd _ kr18_9) (fun _ h9 => h9) rfl dX0_fillTable_6 ?_
  refine va_get (D := (dC, dI)) (ci := 3) (v := .ref a5) (C := RX3) (T := TX3) (N := 8) hx hb hwd inlX3 hown hK hP 2 rfl rfl 6 (by decide) (hwd _ kr18_10) (fun _ h9 => h9) rfl dX0_fillTable_9 ?_
  have hPc := hP.sub (ws' := [(h0, .inr (0, [.ref k0, .ref k1, .ref k2, .ref k3, .ref k4, .ref k5, .ref k6])), (gn, .inr (3, [.int 0, .ref a0, .ref a1, .ref a2, .ref a3, .ref a4, .ref a5, .ref a6]))]) [0, 2] rfl
  have hDc := hD.sub (ws' := [(h0, .inr (0, [.ref k0, .ref k1, .ref k2, .ref k3, .ref k4, .ref k5, .ref k6])), (gn, .inr (3, [.int 0, .ref a0, .ref a1, .ref a2, .ref a3, .ref a4, .ref a5, .ref a6]))]) [0, 2] (by decide) rfl
  have hFc := va_free (wc := [(h0, .inr (0, [.ref k0, .ref k1, .ref k2, .ref k3, .ref k4, .ref k5, .ref k6])), (gn, .inr (3, [.int 0, .ref a0, .ref a1, .ref a2, .ref a3, .ref a4, .ref a5, .ref a6]))]) hD hS hA [0, 2] rfl
  refine va_callv (va_runV (As := [.ref gn, .ref a5]) (rest := []) ⟨hx, hb, hml, hown, hwd⟩ (c_X0_takeHeights l dC dI cI cZ cB cJ cM h0 gn a0 a1 a2 a3 a4 a5 a6 k0 k1 k2 k3 k4 k5 k6 s.heap.size) (cwV 2 hwd (gV kr18_17 kr18_18 kr18_19 kr1_23 kr18_20) rfl rfl rfl (by decide +kernel) ⟨Nat.le_of_ble_eq_true rfl, Nat.le_of_ble_eq_true rfl⟩) (kPreV hPc hK hDc (ci := 0) (q0 := 0) rfl rfl) rfl rfl hl.1 rfl (lv_room (Nat.le_of_ble_eq_true rfl)) dX0_fillTable_12 ⟨Nat.le_of_ble_eq_true rfl, Nat.le_of_ble_eq_true rfl⟩) hS (fun q _ h => hFc q h) hFc (fun u2 t H1 locs ht9 hvm hw hB hz1 hk1 hS => ?_)
  obtain ⟨hP1, hD1⟩ := hB
  rw [ht9] at hP1
  obtain ⟨hP, hD⟩ := va_join (wr := [(m0, .inr (2, [.int 0, .int 0, .int 0, .int 0, .int 0, .int 0, .int 1, .int 1, .int 0, .ref gn, .ref gf, .ref gp, .ref gs, .ref gr])), (gf, .inr (1, [.int 0, .ref b0, .ref b1, .ref b2, .ref b3, .ref b4, .ref b5, .ref b6, .ref b7, .ref b8]))]) (w1 := [(h0, .inr (0, [.ref k0, .ref k1, .ref k2, .ref k3, .ref k4, .ref k5, .ref k6])), (gn, .inr (3, [.int 0, .ref a0, .ref a1, .ref a2, .ref a3, .ref a4, .ref a5, .ref a6]))]) hP hD [0, 2] [1, 3] rfl rfl (by decide) (by decide) hk1 hFc hP1 hD1
  generalize H1 = H at hP hS ⊢
  have hP : va_P (dC, dI) vwCl [(m0, .inr (2, [.int 0, .int 0, .int 0, .int 0, .int 0, .int 0, .int 1, .int 1, .int 0, .ref gn, .ref gf, .ref gp, .ref gs, .ref gr])), (gf, .inr (1, [.int 0, .ref b0, .ref b1, .ref b2, .ref b3, .ref b4, .ref b5, .ref b6, .ref b7, .ref b8])), (h0, .inr (0, [.ref k0, .ref k1, .ref k2, .ref k3, .ref k4, .ref k5, .ref k6])), (gn, .inr (3, [.int 0, .ref a0, .ref a1, .ref a2, .ref a3, .ref a4, .ref a5, .ref a6]))] H := hP
  have hD : va_D A [(m0, .inr (2, [.int 0, .int 0, .int 0, .int 0, .int 0, .int 0, .int 1, .int 1, .int 0, .ref gn, .ref gf, .ref gp, .ref gs, .ref gr])), (gf, .inr (1, [.int 0, .ref b0, .ref b1, .ref b2, .ref b3, .ref b4, .ref b5, .ref b6, .ref b7, .ref b8])), (h0, .inr (0, [.ref k0, .ref k1, .ref k2, .ref k3, .ref k4, .ref k5, .ref k6])), (gn, .inr (3, [.int 0, .ref a0, .ref a1, .ref a2, .ref a3, .ref a4, .ref a5, .ref a6]))] := hD
  refine lv_iconst (v := 0) hx hb dX0_fillTable_15 (by decide) ?_
  refine lv_istore_n (lv' := [(2, .int 0), (0, .ref h0), (1, .ref m0)]) hx hb dX0_fillTable_16 rfl hl (by decide) rfl (fun ls hl => ?_)
  refine lv_iload_n hx hb dX0_fillTable_17 rfl (lv_at hl 0 rfl) ?_
  refine lv_aload_n hx hb dX0_fillTable_18 rfl (lv_at hl 2 rfl) ?_
  refine va_get (D := (dC, dI)) (ci := 2) (v := .ref gf) (C := RX2) (T := TX2) (N := 14) hx hb hwd inlX2 hown hK hP 0 rfl rfl 10 (by decide) (hwd _ kr18_11) (fun _ h9 => h9) rfl dX0_fillTable_19 ?_
  refine va_get (D := (dC, dI)) (ci := 1) (v := .int 0) (C := RX1) (T := TX1) (N := 10) hx hb hwd inlX1 hown hK hP 1 rfl rfl 0 (by decide) (hwd _ kr18_12) (fun _ h9 => h9) rfl dX0_fillTable_22 ?_
  refine lv_icmp_ge (tgt := 57) hx hb dX0_fillTable_25 (by decide) (fun c3 => ?_) (fun c3 => absurd c3 (by decide))
  have hP9 := hP.sub (ws' := [(h0, .inr (0, [.ref k0, .ref k1, .ref k2, .ref k3, .ref k4, .ref k5, .ref k6])), (m0, .inr (2, [.int 0, .int 0, .int 0, .int 0, .int 0, .int 0, .int 1, .int 1, .int 0, .ref gn, .ref gf, .ref gp, .ref gs, .ref gr])), (gn, .inr (3, [.int 0, .ref a0, .ref a1, .ref a2, .ref a3, .ref a4, .ref a5, .ref a6])), (gf, .inr (1, [.int 0, .ref b0, .ref b1, .ref b2, .ref b3, .ref b4, .ref b5, .ref b6, .ref b7, .ref b8]))]) [2, 0, 3, 1] rfl
  have hD9 := hD.sub (ws' := [(h0, .inr (0, [.ref k0, .ref k1, .ref k2, .ref k3, .ref k4, .ref k5, .ref k6])), (m0, .inr (2, [.int 0, .int 0, .int 0, .int 0, .int 0, .int 0, .int 1, .int 1, .int 0, .ref gn, .ref gf, .ref gp, .ref gs, .ref gr])), (gn, .inr (3, [.int 0, .ref a0, .ref a1, .ref a2, .ref a3, .ref a4, .ref a5, .ref a6])), (gf, .inr (1, [.int 0, .ref b0, .ref b1, .ref b2, .ref b3, .ref b4, .ref b5, .ref b6, .ref b7, .ref b8]))]) [2, 0, 3, 1] (by decide) rfl
  exact W.vret hx hb hr (fun t ht hW => ⟨⟨(), rfl, trivial, (by rw [ht]; exact hP9), hD9⟩, hS.F ht⟩) hS.2.2 dX0_fillTable_57
set_option maxHeartbeats 4000000 in
set_option maxRecDepth 100000 in
theorem c_X1_begin (l : Launch) (dC : Nat → ClassId) (dI : Nat → Nat → Nat) (cI cZ cB cJ cM : ClassId) (h0 c0 b0 b1 b2 b3 b4 b5 b6 b7 b8 : Nat) (sz : Nat) : Met l yX1_begin (kw yX1_begin cX1_begin 4 none) ({ frames := 0, cells := 0, slots := 0, locals := 0 }) (va_Pc [.ref h0, .ref c0] (kPre dC dI [(cI, .int), (cZ, .boolean), (cB, .byte), (cJ, .long), (cM, .object RX2)] [(h0, .inr (1, [.int 0, .ref b0, .ref b1, .ref b2, .ref b3, .ref b4, .ref b5, .ref b6, .ref b7, .ref b8]))] sz)) (va_Qv (fun _ : Unit => True) (fun _ t => va_P (dC, dI) vwCl [(h0, .inr (1, [.int 0, .ref b0, .ref b1, .ref b2, .ref b3, .ref b4, .ref b5, .ref b6, .ref b7, .ref b8]))] t.heap ∧ va_D (va_A [(h0, .inr (1, [.int 0, .ref b0, .ref b1, .ref b2, .ref b3, .ref b4, .ref b5, .ref b6, .ref b7, .ref b8]))] sz) [(h0, .inr (1, [.int 0, .ref b0, .ref b1, .ref b2, .ref b3, .ref b4, .ref b5, .ref b6, .ref b7, .ref b8]))]) (va_A [(h0, .inr (1, [.int 0, .ref b0, .ref b1, .ref b2, .ref b3, .ref b4, .ref b5, .ref b6, .ref b7, .ref b8]))] sz)) 0 0 (va_A [(h0, .inr (1, [.int 0, .ref b0, .ref b1, .ref b2, .ref b3, .ref b4, .ref b5, .ref b6, .ref b7, .ref b8]))] sz) := by
  refine kEnter (by decide) (Nat.le_of_ble_eq_true rfl) ?_
  intro p e s m below meth c ls hx hb hr hml hown hlocks hin hwd hsz hP hK hD hl
  subst hsz
  generalize hAe : va_A [(h0, .inr (1, [.int 0, .ref b0, .ref b1, .ref b2, .ref b3, .ref b4, .ref b5, .ref b6, .ref b7, .ref b8]))] s.heap.size = A at hD ⊢
  have hA : ∀ q : Nat, s.heap.size ≤ q → A q := fun q h => by rw [← hAe]; exact Or.inr h
  have hS : va_S A s.heap s.heap [] := va_S.rf
  have hl : lv_has ls 4 [(0, .ref h0), (1, .ref c0)] := hl
  refine lv_iconst (v := 0) hx hb dX1_begin_0 (by decide) ?_
  refine lv_istore_n (lv' := [(2, .int 0), (0, .ref h0), (1, .ref c0)]) hx hb dX1_begin_1 rfl hl (by decide) rfl (fun ls hl => ?_)
  refine lv_iload_n hx hb dX1_begin_2 rfl (lv_at hl 0 rfl) ?_
  refine lv_aload_n hx hb dX1_begin_3 rfl (lv_at hl 1 rfl) ?_
  refine va_get (D := (dC, dI)) (ci := 1) (v := .int 0) (C := RX1) (T := TX1) (N := 10) hx hb hwd inlX1 hown hK hP 0 rfl rfl 0 (by decide) (hwd _ kr17_4) (fun _ h9 => h9) rfl dX1_begin_4 ?_
  refine lv_icmp_ge (tgt := 71) hx hb dX1_begin_7 (by decide) (fun c1 => ?_) (fun c1 => absurd c1 (by decide))
  have hP9 := hP.sub (ws' := [(h0, .inr (1, [.int 0, .ref b0, .ref b1, .ref b2, .ref b3, .ref b4, .ref b5, .ref b6, .ref b7, .ref b8]))]) [0] rfl
  have hD9 := hD.sub (ws' := [(h0, .inr (1, [.int 0, .ref b0, .ref b1, .ref b2, .ref b3, .ref b4, .ref b5, .ref b6, .ref b7, .ref b8]))]) [0] (by decide) rfl
  exact W.vret hx hb hr (fun t ht hW => ⟨⟨(), rfl, trivial, (by rw [ht]; exact hP9), hD9⟩, hS.F ht⟩) hS.2.2 dX1_begin_71
set_option maxHeartbeats 4000000 in
set_option maxRecDepth 100000 in
theorem c_X2_begin (l : Launch) (dC : Nat → ClassId) (dI : Nat → Nat → Nat) (cI cZ cB cJ cM : ClassId) (h0 gn gf gp gs gr c0 b0 b1 b2 b3 b4 b5 b6 b7 b8 : Nat) (sz : Nat) : Met l yX2_begin (kw yX2_begin cX2_begin 2 none) ({ frames := 1, cells := 0, slots := 0, locals := 23 }) (va_Pc [.ref h0, .ref c0] (kPre dC dI [(cI, .int), (cZ, .boolean), (cB, .byte), (cJ, .long), (cM, .object RX2)] [(h0, .inr (2, [.int 0, .int 0, .int 0, .int 0, .int 0, .int 0, .int 1, .int 1, .int 0, .ref gn, .ref gf, .ref gp, .ref gs, .ref gr])), (gf, .inr (1, [.int 0, .ref b0, .ref b1, .ref b2, .ref b3, .ref b4, .ref b5, .ref b6, .ref b7, .ref b8]))] sz)) (va_Qv (fun _ : Unit => True) (fun _ t => va_P (dC, dI) vwCl [(h0, .inr (2, [.int 0, .int 0, .int 0, .int 0, .int 0, .int 0, .int 1, .int 1, .int 0, .ref gn, .ref gf, .ref gp, .ref gs, .ref gr])), (gf, .inr (1, [.int 0, .ref b0, .ref b1, .ref b2, .ref b3, .ref b4, .ref b5, .ref b6, .ref b7, .ref b8]))] t.heap ∧ va_D (va_A [(h0, .inr (2, [.int 0, .int 0, .int 0, .int 0, .int 0, .int 0, .int 1, .int 1, .int 0, .ref gn, .ref gf, .ref gp, .ref gs, .ref gr])), (gf, .inr (1, [.int 0, .ref b0, .ref b1, .ref b2, .ref b3, .ref b4, .ref b5, .ref b6, .ref b7, .ref b8]))] sz) [(h0, .inr (2, [.int 0, .int 0, .int 0, .int 0, .int 0, .int 0, .int 1, .int 1, .int 0, .ref gn, .ref gf, .ref gp, .ref gs, .ref gr])), (gf, .inr (1, [.int 0, .ref b0, .ref b1, .ref b2, .ref b3, .ref b4, .ref b5, .ref b6, .ref b7, .ref b8]))]) (va_A [(h0, .inr (2, [.int 0, .int 0, .int 0, .int 0, .int 0, .int 0, .int 1, .int 1, .int 0, .ref gn, .ref gf, .ref gp, .ref gs, .ref gr])), (gf, .inr (1, [.int 0, .ref b0, .ref b1, .ref b2, .ref b3, .ref b4, .ref b5, .ref b6, .ref b7, .ref b8]))] sz)) 0 0 (va_A [(h0, .inr (2, [.int 0, .int 0, .int 0, .int 0, .int 0, .int 0, .int 1, .int 1, .int 0, .ref gn, .ref gf, .ref gp, .ref gs, .ref gr])), (gf, .inr (1, [.int 0, .ref b0, .ref b1, .ref b2, .ref b3, .ref b4, .ref b5, .ref b6, .ref b7, .ref b8]))] sz) := by
  refine kEnter (by decide) (Nat.le_of_ble_eq_true rfl) ?_
  intro p e s m below meth c ls hx hb hr hml hown hlocks hin hwd hsz hP hK hD hl
  subst hsz
  generalize hAe : va_A [(h0, .inr (2, [.int 0, .int 0, .int 0, .int 0, .int 0, .int 0, .int 1, .int 1, .int 0, .ref gn, .ref gf, .ref gp, .ref gs, .ref gr])), (gf, .inr (1, [.int 0, .ref b0, .ref b1, .ref b2, .ref b3, .ref b4, .ref b5, .ref b6, .ref b7, .ref b8]))] s.heap.size = A at hD ⊢
  have hA : ∀ q : Nat, s.heap.size ≤ q → A q := fun q h => by rw [← hAe]; exact Or.inr h
  have hS : va_S A s.heap s.heap [] := va_S.rf
  have hl : lv_has ls 2 [(0, .ref h0), (1, .ref c0)] := hl
  refine lv_aload_n hx hb dX2_begin_0 rfl (lv_at hl 0 rfl) ?_
  refine va_get (D := (dC, dI)) (ci := 2) (v := .ref gf) (C := RX2) (T := TX2) (N := 14) hx hb hwd inlX2 hown hK hP 0 rfl rfl 10 (by decide) (hwd _ kr5_4) (fun _ h9 => h9) rfl dX2_begin_1 ?_
  refine lv_aload_n hx hb dX2_begin_4 rfl (lv_at hl 1 rfl) ?_
  have hPc := hP.sub (ws' := [(gf, .inr (1, [.int 0, .ref b0, .ref b1, .ref b2, .ref b3, .ref b4, .ref b5, .ref b6, .ref b7, .ref b8]))]) [1] rfl
  have hDc := hD.sub (ws' := [(gf, .inr (1, [.int 0, .ref b0, .ref b1, .ref b2, .ref b3, .ref b4, .ref b5, .ref b6, .ref b7, .ref b8]))]) [1] (by decide) rfl
  have hFc := va_free (wc := [(gf, .inr (1, [.int 0, .ref b0, .ref b1, .ref b2, .ref b3, .ref b4, .ref b5, .ref b6, .ref b7, .ref b8]))]) hD hS hA [1] rfl
  refine va_callv (va_runV (As := [.ref c0]) (rest := []) ⟨hx, hb, hml, hown, hwd⟩ (c_X1_begin l dC dI cI cZ cB cJ cM gf c0 b0 b1 b2 b3 b4 b5 b6 b7 b8 s.heap.size) (cwV 1 hwd (gV kr22_11 kr22_12 kr22_13 kr5_3 kr22_14) rfl rfl rfl (by decide +kernel) ⟨Nat.le_of_ble_eq_true rfl, Nat.le_of_ble_eq_true rfl⟩) (kPreV hPc hK hDc (ci := 1) (q0 := 0) rfl rfl) rfl rfl hl.1 rfl (lv_room (Nat.le_of_ble_eq_true rfl)) dX2_begin_5 ⟨Nat.le_of_ble_eq_true rfl, Nat.le_of_ble_eq_true rfl⟩) hS (fun q _ h => hFc q h) hFc (fun u2 t H1 locs ht9 hvm hw hB hz1 hk1 hS => ?_)
  obtain ⟨hP1, hD1⟩ := hB
  rw [ht9] at hP1
  obtain ⟨hP, hD⟩ := va_join (wr := [(h0, .inr (2, [.int 0, .int 0, .int 0, .int 0, .int 0, .int 0, .int 1, .int 1, .int 0, .ref gn, .ref gf, .ref gp, .ref gs, .ref gr]))]) (w1 := [(gf, .inr (1, [.int 0, .ref b0, .ref b1, .ref b2, .ref b3, .ref b4, .ref b5, .ref b6, .ref b7, .ref b8]))]) hP hD [1] [0] rfl rfl (by decide) (by decide) hk1 hFc hP1 hD1
  generalize H1 = H at hP hS ⊢
  have hP : va_P (dC, dI) vwCl [(h0, .inr (2, [.int 0, .int 0, .int 0, .int 0, .int 0, .int 0, .int 1, .int 1, .int 0, .ref gn, .ref gf, .ref gp, .ref gs, .ref gr])), (gf, .inr (1, [.int 0, .ref b0, .ref b1, .ref b2, .ref b3, .ref b4, .ref b5, .ref b6, .ref b7, .ref b8]))] H := hP
  have hD : va_D A [(h0, .inr (2, [.int 0, .int 0, .int 0, .int 0, .int 0, .int 0, .int 1, .int 1, .int 0, .ref gn, .ref gf, .ref gp, .ref gs, .ref gr])), (gf, .inr (1, [.int 0, .ref b0, .ref b1, .ref b2, .ref b3, .ref b4, .ref b5, .ref b6, .ref b7, .ref b8]))] := hD
  have hP9 := hP.sub (ws' := [(h0, .inr (2, [.int 0, .int 0, .int 0, .int 0, .int 0, .int 0, .int 1, .int 1, .int 0, .ref gn, .ref gf, .ref gp, .ref gs, .ref gr])), (gf, .inr (1, [.int 0, .ref b0, .ref b1, .ref b2, .ref b3, .ref b4, .ref b5, .ref b6, .ref b7, .ref b8]))]) [0, 1] rfl
  have hD9 := hD.sub (ws' := [(h0, .inr (2, [.int 0, .int 0, .int 0, .int 0, .int 0, .int 0, .int 1, .int 1, .int 0, .ref gn, .ref gf, .ref gp, .ref gs, .ref gr])), (gf, .inr (1, [.int 0, .ref b0, .ref b1, .ref b2, .ref b3, .ref b4, .ref b5, .ref b6, .ref b7, .ref b8]))]) [0, 1] (by decide) rfl
  exact W.vret hx hb hr (fun t ht hW => ⟨⟨(), rfl, trivial, (by rw [ht]; exact hP9), hD9⟩, hS.F ht⟩) hS.2.2 dX2_begin_8
end
section
theorem dX8_hasRow_0 : decode cX8_hasRow 0 = .ok (.aload_n 0, 1) := by decide +kernel
theorem dX8_hasRow_1 : decode cX8_hasRow 1 = .ok (.getfield 18, 3) := by decide +kernel
theorem dX8_hasRow_4 : decode cX8_hasRow 4 = .ok (.iload_n 1, 1) := by decide +kernel
theorem dX8_hasRow_5 : decode cX8_hasRow 5 = .ok (.baload, 1) := by decide +kernel
theorem dX8_hasRow_6 : decode cX8_hasRow 6 = .ok (.ireturn, 1) := by decide +kernel
theorem dX8_howManyHaveRows_0 : decode cX8_howManyHaveRows 0 = .ok (.iconst 0, 1) := by decide +kernel
theorem dX8_howManyHaveRows_1 : decode cX8_howManyHaveRows 1 = .ok (.istore_n 1, 1) := by decide +kernel
theorem dX8_howManyHaveRows_2 : decode cX8_howManyHaveRows 2 = .ok (.iconst 0, 1) := by decide +kernel
theorem dX8_howManyHaveRows_3 : decode cX8_howManyHaveRows 3 = .ok (.istore_n 2, 1) := by decide +kernel
theorem dX8_howManyHaveRows_4 : decode cX8_howManyHaveRows 4 = .ok (.iload_n 2, 1) := by decide +kernel
theorem dX8_howManyHaveRows_5 : decode cX8_howManyHaveRows 5 = .ok (.iconst 4, 1) := by decide +kernel
theorem dX8_howManyHaveRows_6 : decode cX8_howManyHaveRows 6 = .ok (.if_icmp .ge 21, 3) := by decide +kernel
theorem dX8_howManyHaveRows_9 : decode cX8_howManyHaveRows 9 = .ok (.aload_n 0, 1) := by decide +kernel
theorem dX8_howManyHaveRows_10 : decode cX8_howManyHaveRows 10 = .ok (.getfield 18, 3) := by decide +kernel
theorem dX8_howManyHaveRows_13 : decode cX8_howManyHaveRows 13 = .ok (.iload_n 2, 1) := by decide +kernel
theorem dX8_howManyHaveRows_14 : decode cX8_howManyHaveRows 14 = .ok (.baload, 1) := by decide +kernel
theorem dX8_howManyHaveRows_15 : decode cX8_howManyHaveRows 15 = .ok (.ifCond .eq 6, 3) := by decide +kernel
theorem dX8_howManyHaveRows_21 : decode cX8_howManyHaveRows 21 = .ok (.iinc 2 1, 3) := by decide +kernel
theorem dX8_howManyHaveRows_24 : decode cX8_howManyHaveRows 24 = .ok (.goto (-20), 3) := by decide +kernel
theorem dX8_howManyHaveRows_27 : decode cX8_howManyHaveRows 27 = .ok (.iload_n 1, 1) := by decide +kernel
theorem dX8_howManyHaveRows_28 : decode cX8_howManyHaveRows 28 = .ok (.ireturn, 1) := by decide +kernel
theorem dX8_makeRow_0 : decode cX8_makeRow 0 = .ok (.aload_n 0, 1) := by decide +kernel
theorem dX8_makeRow_1 : decode cX8_makeRow 1 = .ok (.getfield 18, 3) := by decide +kernel
theorem dX8_makeRow_4 : decode cX8_makeRow 4 = .ok (.iload_n 1, 1) := by decide +kernel
theorem dX8_makeRow_5 : decode cX8_makeRow 5 = .ok (.iconst 1, 1) := by decide +kernel
theorem dX8_makeRow_6 : decode cX8_makeRow 6 = .ok (.bastore, 1) := by decide +kernel
theorem dX8_makeRow_7 : decode cX8_makeRow 7 = .ok (.aload_n 0, 1) := by decide +kernel
theorem dX8_makeRow_8 : decode cX8_makeRow 8 = .ok (.getfield 9, 3) := by decide +kernel
theorem dX8_makeRow_11 : decode cX8_makeRow 11 = .ok (.iload_n 1, 1) := by decide +kernel
theorem dX8_makeRow_12 : decode cX8_makeRow 12 = .ok (.iload_n 2, 1) := by decide +kernel
theorem dX8_makeRow_13 : decode cX8_makeRow 13 = .ok (.iastore, 1) := by decide +kernel
theorem dX8_makeRow_14 : decode cX8_makeRow 14 = .ok (.aload_n 0, 1) := by decide +kernel
theorem dX8_makeRow_15 : decode cX8_makeRow 15 = .ok (.getfield 15, 3) := by decide +kernel
theorem dX8_makeRow_18 : decode cX8_makeRow 18 = .ok (.iload_n 1, 1) := by decide +kernel
theorem dX8_makeRow_19 : decode cX8_makeRow 19 = .ok (.iload_n 3, 1) := by decide +kernel
theorem dX8_makeRow_20 : decode cX8_makeRow 20 = .ok (.iastore, 1) := by decide +kernel
theorem dX8_makeRow_21 : decode cX8_makeRow 21 = .ok (.iconst 0, 1) := by decide +kernel
theorem dX8_makeRow_22 : decode cX8_makeRow 22 = .ok (.istore 4, 2) := by decide +kernel
theorem dX8_makeRow_24 : decode cX8_makeRow 24 = .ok (.iload 4, 2) := by decide +kernel
theorem dX8_makeRow_26 : decode cX8_makeRow 26 = .ok (.bipush 60, 2) := by decide +kernel
theorem dX8_makeRow_28 : decode cX8_makeRow 28 = .ok (.if_icmp .ge 22, 3) := by decide +kernel
theorem dX8_makeRow_31 : decode cX8_makeRow 31 = .ok (.aload_n 0, 1) := by decide +kernel
theorem dX8_makeRow_32 : decode cX8_makeRow 32 = .ok (.getfield 22, 3) := by decide +kernel
theorem dX8_makeRow_35 : decode cX8_makeRow 35 = .ok (.iload_n 1, 1) := by decide +kernel
theorem dX8_makeRow_36 : decode cX8_makeRow 36 = .ok (.bipush 60, 2) := by decide +kernel
theorem dX8_makeRow_38 : decode cX8_makeRow 38 = .ok (.imul, 1) := by decide +kernel
theorem dX8_makeRow_39 : decode cX8_makeRow 39 = .ok (.iload 4, 2) := by decide +kernel
theorem dX8_makeRow_41 : decode cX8_makeRow 41 = .ok (.iadd, 1) := by decide +kernel
theorem dX8_makeRow_42 : decode cX8_makeRow 42 = .ok (.lconst 0, 1) := by decide +kernel
theorem dX8_makeRow_43 : decode cX8_makeRow 43 = .ok (.lastore, 1) := by decide +kernel
theorem dX8_makeRow_44 : decode cX8_makeRow 44 = .ok (.iinc 4 1, 3) := by decide +kernel
theorem dX8_makeRow_47 : decode cX8_makeRow 47 = .ok (.goto (-23), 3) := by decide +kernel
theorem dX8_makeRow_50 : decode cX8_makeRow 50 = .ok (.return_, 1) := by decide +kernel
set_option maxHeartbeats 4000000 in
set_option maxRecDepth 100000 in
theorem c_X8_hasRow_0 (l : Launch) (dC : Nat → ClassId) (dI : Nat → Nat → Nat) (cI cZ cB cJ cM : ClassId) (h0 s0 s1 s2 s3 : Nat) (sz : Nat) : Met l yX8_hasRow (kw yX8_hasRow cX8_hasRow 2 (some .boolean)) ({ frames := 0, cells := 0, slots := 0, locals := 0 }) (va_Pc [.ref h0, .int 0] (kPre dC dI [(cI, .int), (cZ, .boolean), (cB, .byte), (cJ, .long), (cM, .object RX2)] [(h0, .inr (8, [.ref s0, .ref s1, .ref s2, .ref s3])), (s2, .inl (cZ, 4, .inl (fun _ => 0)))] sz)) (va_Qi (fun (r : Int32) (_ : Unit) => r = 0) (fun _ t => va_P (dC, dI) vwCl [(h0, .inr (8, [.ref s0, .ref s1, .ref s2, .ref s3])), (s2, .inl (cZ, 4, .inl (fun _ => 0)))] t.heap ∧ va_D (va_A [(h0, .inr (8, [.ref s0, .ref s1, .ref s2, .ref s3])), (s2, .inl (cZ, 4, .inl (fun _ => 0)))] sz) [(h0, .inr (8, [.ref s0, .ref s1, .ref s2, .ref s3])), (s2, .inl (cZ, 4, .inl (fun _ => 0)))]) (va_A [(h0, .inr (8, [.ref s0, .ref s1, .ref s2, .ref s3])), (s2, .inl (cZ, 4, .inl (fun _ => 0)))] sz)) 0 0 (va_A [(h0, .inr (8, [.ref s0, .ref s1, .ref s2, .ref s3])), (s2, .inl (cZ, 4, .inl (fun _ => 0)))] sz) := by
  refine kEnter (by decide) (Nat.le_of_ble_eq_true rfl) ?_
  intro p e s m below meth c ls hx hb hr hml hown hlocks hin hwd hsz hP hK hD hl
  subst hsz
  generalize hAe : va_A [(h0, .inr (8, [.ref s0, .ref s1, .ref s2, .ref s3])), (s2, .inl (cZ, 4, .inl (fun _ => 0)))] s.heap.size = A at hD ⊢
  have hA : ∀ q : Nat, s.heap.size ≤ q → A q := fun q h => by rw [← hAe]; exact Or.inr h
  have hS : va_S A s.heap s.heap [] := va_S.rf
  have hl : lv_has ls 2 [(0, .ref h0), (1, .int 0)] := hl
  refine lv_aload_n hx hb dX8_hasRow_0 rfl (lv_at hl 0 rfl) ?_
  refine va_get (D := (dC, dI)) (ci := 8) (v := .ref s2) (C := RX8) (T := TX8) (N := 4) hx hb hwd inlX8 hown hK hP 0 rfl rfl 2 (by decide) (hwd _ kr4_9) (fun _ h9 => h9) rfl dX8_hasRow_1 ?_
  refine lv_iload_n hx hb dX8_hasRow_4 rfl (lv_at hl 1 rfl) ?_
  refine va_zald hx hb hK hP 1 1 rfl rfl (vin (by decide)) dX8_hasRow_5 ?_
  refine lv_topi (nm_r (e' := (0)) (by decide +kernel) ?_)
  have hP9 := hP.sub (ws' := [(h0, .inr (8, [.ref s0, .ref s1, .ref s2, .ref s3])), (s2, .inl (cZ, 4, .inl (fun _ => 0)))]) [0, 1] rfl
  have hD9 := hD.sub (ws' := [(h0, .inr (8, [.ref s0, .ref s1, .ref s2, .ref s3])), (s2, .inl (cZ, 4, .inl (fun _ => 0)))]) [0, 1] (by decide) rfl
  exact W.zret (v := 0) hx hb hr (by decide) (fun t ht hW => ⟨⟨0, (), rfl, rfl, (by rw [ht]; exact hP9), hD9⟩, hS.F ht⟩) hS.2.2 dX8_hasRow_6
set_option maxHeartbeats 4000000 in
set_option maxRecDepth 100000 in
theorem c_X8_hasRow_1 (l : Launch) (dC : Nat → ClassId) (dI : Nat → Nat → Nat) (cI cZ cB cJ cM : ClassId) (h0 s0 s1 s2 s3 : Nat) (sz : Nat) : Met l yX8_hasRow (kw yX8_hasRow cX8_hasRow 2 (some .boolean)) ({ frames := 0, cells := 0, slots := 0, locals := 0 }) (va_Pc [.ref h0, .int 1] (kPre dC dI [(cI, .int), (cZ, .boolean), (cB, .byte), (cJ, .long), (cM, .object RX2)] [(h0, .inr (8, [.ref s0, .ref s1, .ref s2, .ref s3])), (s2, .inl (cZ, 4, .inl (fun _ => 0)))] sz)) (va_Qi (fun (r : Int32) (_ : Unit) => r = 0) (fun _ t => va_P (dC, dI) vwCl [(h0, .inr (8, [.ref s0, .ref s1, .ref s2, .ref s3])), (s2, .inl (cZ, 4, .inl (fun _ => 0)))] t.heap ∧ va_D (va_A [(h0, .inr (8, [.ref s0, .ref s1, .ref s2, .ref s3])), (s2, .inl (cZ, 4, .inl (fun _ => 0)))] sz) [(h0, .inr (8, [.ref s0, .ref s1, .ref s2, .ref s3])), (s2, .inl (cZ, 4, .inl (fun _ => 0)))]) (va_A [(h0, .inr (8, [.ref s0, .ref s1, .ref s2, .ref s3])), (s2, .inl (cZ, 4, .inl (fun _ => 0)))] sz)) 0 0 (va_A [(h0, .inr (8, [.ref s0, .ref s1, .ref s2, .ref s3])), (s2, .inl (cZ, 4, .inl (fun _ => 0)))] sz) := by
  refine kEnter (by decide) (Nat.le_of_ble_eq_true rfl) ?_
  intro p e s m below meth c ls hx hb hr hml hown hlocks hin hwd hsz hP hK hD hl
  subst hsz
  generalize hAe : va_A [(h0, .inr (8, [.ref s0, .ref s1, .ref s2, .ref s3])), (s2, .inl (cZ, 4, .inl (fun _ => 0)))] s.heap.size = A at hD ⊢
  have hA : ∀ q : Nat, s.heap.size ≤ q → A q := fun q h => by rw [← hAe]; exact Or.inr h
  have hS : va_S A s.heap s.heap [] := va_S.rf
  have hl : lv_has ls 2 [(0, .ref h0), (1, .int 1)] := hl
  refine lv_aload_n hx hb dX8_hasRow_0 rfl (lv_at hl 0 rfl) ?_
  refine va_get (D := (dC, dI)) (ci := 8) (v := .ref s2) (C := RX8) (T := TX8) (N := 4) hx hb hwd inlX8 hown hK hP 0 rfl rfl 2 (by decide) (hwd _ kr4_9) (fun _ h9 => h9) rfl dX8_hasRow_1 ?_
  refine lv_iload_n hx hb dX8_hasRow_4 rfl (lv_at hl 1 rfl) ?_
  refine va_zald hx hb hK hP 1 1 rfl rfl (vin (by decide)) dX8_hasRow_5 ?_
  refine lv_topi (nm_r (e' := (0)) (by decide +kernel) ?_)
  have hP9 := hP.sub (ws' := [(h0, .inr (8, [.ref s0, .ref s1, .ref s2, .ref s3])), (s2, .inl (cZ, 4, .inl (fun _ => 0)))]) [0, 1] rfl
  have hD9 := hD.sub (ws' := [(h0, .inr (8, [.ref s0, .ref s1, .ref s2, .ref s3])), (s2, .inl (cZ, 4, .inl (fun _ => 0)))]) [0, 1] (by decide) rfl
  exact W.zret (v := 0) hx hb hr (by decide) (fun t ht hW => ⟨⟨0, (), rfl, rfl, (by rw [ht]; exact hP9), hD9⟩, hS.F ht⟩) hS.2.2 dX8_hasRow_6
set_option maxHeartbeats 4000000 in
set_option maxRecDepth 100000 in
theorem c_X8_hasRow_2 (l : Launch) (dC : Nat → ClassId) (dI : Nat → Nat → Nat) (cI cZ cB cJ cM : ClassId) (h0 s0 s1 s2 s3 : Nat) (sz : Nat) : Met l yX8_hasRow (kw yX8_hasRow cX8_hasRow 2 (some .boolean)) ({ frames := 0, cells := 0, slots := 0, locals := 0 }) (va_Pc [.ref h0, .int 2] (kPre dC dI [(cI, .int), (cZ, .boolean), (cB, .byte), (cJ, .long), (cM, .object RX2)] [(h0, .inr (8, [.ref s0, .ref s1, .ref s2, .ref s3])), (s2, .inl (cZ, 4, .inl (fun _ => 0)))] sz)) (va_Qi (fun (r : Int32) (_ : Unit) => r = 0) (fun _ t => va_P (dC, dI) vwCl [(h0, .inr (8, [.ref s0, .ref s1, .ref s2, .ref s3])), (s2, .inl (cZ, 4, .inl (fun _ => 0)))] t.heap ∧ va_D (va_A [(h0, .inr (8, [.ref s0, .ref s1, .ref s2, .ref s3])), (s2, .inl (cZ, 4, .inl (fun _ => 0)))] sz) [(h0, .inr (8, [.ref s0, .ref s1, .ref s2, .ref s3])), (s2, .inl (cZ, 4, .inl (fun _ => 0)))]) (va_A [(h0, .inr (8, [.ref s0, .ref s1, .ref s2, .ref s3])), (s2, .inl (cZ, 4, .inl (fun _ => 0)))] sz)) 0 0 (va_A [(h0, .inr (8, [.ref s0, .ref s1, .ref s2, .ref s3])), (s2, .inl (cZ, 4, .inl (fun _ => 0)))] sz) := by
  refine kEnter (by decide) (Nat.le_of_ble_eq_true rfl) ?_
  intro p e s m below meth c ls hx hb hr hml hown hlocks hin hwd hsz hP hK hD hl
  subst hsz
  generalize hAe : va_A [(h0, .inr (8, [.ref s0, .ref s1, .ref s2, .ref s3])), (s2, .inl (cZ, 4, .inl (fun _ => 0)))] s.heap.size = A at hD ⊢
  have hA : ∀ q : Nat, s.heap.size ≤ q → A q := fun q h => by rw [← hAe]; exact Or.inr h
  have hS : va_S A s.heap s.heap [] := va_S.rf
  have hl : lv_has ls 2 [(0, .ref h0), (1, .int 2)] := hl
  refine lv_aload_n hx hb dX8_hasRow_0 rfl (lv_at hl 0 rfl) ?_
  refine va_get (D := (dC, dI)) (ci := 8) (v := .ref s2) (C := RX8) (T := TX8) (N := 4) hx hb hwd inlX8 hown hK hP 0 rfl rfl 2 (by decide) (hwd _ kr4_9) (fun _ h9 => h9) rfl dX8_hasRow_1 ?_
  refine lv_iload_n hx hb dX8_hasRow_4 rfl (lv_at hl 1 rfl) ?_
  refine va_zald hx hb hK hP 1 1 rfl rfl (vin (by decide)) dX8_hasRow_5 ?_
  refine lv_topi (nm_r (e' := (0)) (by decide +kernel) ?_)
  have hP9 := hP.sub (ws' := [(h0, .inr (8, [.ref s0, .ref s1, .ref s2, .ref s3])), (s2, .inl (cZ, 4, .inl (fun _ => 0)))]) [0, 1] rfl
  have hD9 := hD.sub (ws' := [(h0, .inr (8, [.ref s0, .ref s1, .ref s2, .ref s3])), (s2, .inl (cZ, 4, .inl (fun _ => 0)))]) [0, 1] (by decide) rfl
  exact W.zret (v := 0) hx hb hr (by decide) (fun t ht hW => ⟨⟨0, (), rfl, rfl, (by rw [ht]; exact hP9), hD9⟩, hS.F ht⟩) hS.2.2 dX8_hasRow_6
set_option maxHeartbeats 4000000 in
set_option maxRecDepth 100000 in
theorem c_X8_hasRow_3 (l : Launch) (dC : Nat → ClassId) (dI : Nat → Nat → Nat) (cI cZ cB cJ cM : ClassId) (h0 s0 s1 s2 s3 : Nat) (sz : Nat) : Met l yX8_hasRow (kw yX8_hasRow cX8_hasRow 2 (some .boolean)) ({ frames := 0, cells := 0, slots := 0, locals := 0 }) (va_Pc [.ref h0, .int 3] (kPre dC dI [(cI, .int), (cZ, .boolean), (cB, .byte), (cJ, .long), (cM, .object RX2)] [(h0, .inr (8, [.ref s0, .ref s1, .ref s2, .ref s3])), (s2, .inl (cZ, 4, .inl (fun _ => 0)))] sz)) (va_Qi (fun (r : Int32) (_ : Unit) => r = 0) (fun _ t => va_P (dC, dI) vwCl [(h0, .inr (8, [.ref s0, .ref s1, .ref s2, .ref s3])), (s2, .inl (cZ, 4, .inl (fun _ => 0)))] t.heap ∧ va_D (va_A [(h0, .inr (8, [.ref s0, .ref s1, .ref s2, .ref s3])), (s2, .inl (cZ, 4, .inl (fun _ => 0)))] sz) [(h0, .inr (8, [.ref s0, .ref s1, .ref s2, .ref s3])), (s2, .inl (cZ, 4, .inl (fun _ => 0)))]) (va_A [(h0, .inr (8, [.ref s0, .ref s1, .ref s2, .ref s3])), (s2, .inl (cZ, 4, .inl (fun _ => 0)))] sz)) 0 0 (va_A [(h0, .inr (8, [.ref s0, .ref s1, .ref s2, .ref s3])), (s2, .inl (cZ, 4, .inl (fun _ => 0)))] sz) := by
  refine kEnter (by decide) (Nat.le_of_ble_eq_true rfl) ?_
  intro p e s m below meth c ls hx hb hr hml hown hlocks hin hwd hsz hP hK hD hl
  subst hsz
  generalize hAe : va_A [(h0, .inr (8, [.ref s0, .ref s1, .ref s2, .ref s3])), (s2, .inl (cZ, 4, .inl (fun _ => 0)))] s.heap.size = A at hD ⊢
  have hA : ∀ q : Nat, s.heap.size ≤ q → A q := fun q h => by rw [← hAe]; exact Or.inr h
  have hS : va_S A s.heap s.heap [] := va_S.rf
  have hl : lv_has ls 2 [(0, .ref h0), (1, .int 3)] := hl
  refine lv_aload_n hx hb dX8_hasRow_0 rfl (lv_at hl 0 rfl) ?_
  refine va_get (D := (dC, dI)) (ci := 8) (v := .ref s2) (C := RX8) (T := TX8) (N := 4) hx hb hwd inlX8 hown hK hP 0 rfl rfl 2 (by decide) (hwd _ kr4_9) (fun _ h9 => h9) rfl dX8_hasRow_1 ?_
  refine lv_iload_n hx hb dX8_hasRow_4 rfl (lv_at hl 1 rfl) ?_
  refine va_zald hx hb hK hP 1 1 rfl rfl (vin (by decide)) dX8_hasRow_5 ?_
  refine lv_topi (nm_r (e' := (0)) (by decide +kernel) ?_)
  have hP9 := hP.sub (ws' := [(h0, .inr (8, [.ref s0, .ref s1, .ref s2, .ref s3])), (s2, .inl (cZ, 4, .inl (fun _ => 0)))]) [0, 1] rfl
  have hD9 := hD.sub (ws' := [(h0, .inr (8, [.ref s0, .ref s1, .ref s2, .ref s3])), (s2, .inl (cZ, 4, .inl (fun _ => 0)))]) [0, 1] (by decide) rfl
  exact W.zret (v := 0) hx hb hr (by decide) (fun t ht hW => ⟨⟨0, (), rfl, rfl, (by rw [ht]; exact hP9), hD9⟩, hS.F ht⟩) hS.2.2 dX8_hasRow_6
set_option maxHeartbeats 4000000 in
set_option maxRecDepth 100000 in
theorem c_X8_howManyHaveRows (l : Launch) (dC : Nat → ClassId) (dI : Nat → Nat → Nat) (cI cZ cB cJ cM : ClassId) (h0 s0 s1 s2 s3 : Nat) (sz : Nat) : Met l yX8_howManyHaveRows (kw yX8_howManyHaveRows cX8_howManyHaveRows 3 (some .int)) ({ frames := 0, cells := 0, slots := 0, locals := 0 }) (va_Pc [.ref h0] (kPre dC dI [(cI, .int), (cZ, .boolean), (cB, .byte), (cJ, .long), (cM, .object RX2)] [(h0, .inr (8, [.ref s0, .ref s1, .ref s2, .ref s3])), (s2, .inl (cZ, 4, .inl (fun _ => 0)))] sz)) (va_Qi (fun (r : Int32) (_ : Unit) => r = 0) (fun _ t => va_P (dC, dI) vwCl [(h0, .inr (8, [.ref s0, .ref s1, .ref s2, .ref s3])), (s2, .inl (cZ, 4, .inl (fun _ => 0)))] t.heap ∧ va_D (va_A [(h0, .inr (8, [.ref s0, .ref s1, .ref s2, .ref s3])), (s2, .inl (cZ, 4, .inl (fun _ => 0)))] sz) [(h0, .inr (8, [.ref s0, .ref s1, .ref s2, .ref s3])), (s2, .inl (cZ, 4, .inl (fun _ => 0)))]) (va_A [(h0, .inr (8, [.ref s0, .ref s1, .ref s2, .ref s3])), (s2, .inl (cZ, 4, .inl (fun _ => 0)))] sz)) 0 0 (va_A [(h0, .inr (8, [.ref s0, .ref s1, .ref s2, .ref s3])), (s2, .inl (cZ, 4, .inl (fun _ => 0)))] sz) := by
  refine kEnter (by decide) (Nat.le_of_ble_eq_true rfl) ?_
  intro p e s m below meth c ls hx hb hr hml hown hlocks hin hwd hsz hP hK hD hl
  subst hsz
  generalize hAe : va_A [(h0, .inr (8, [.ref s0, .ref s1, .ref s2, .ref s3])), (s2, .inl (cZ, 4, .inl (fun _ => 0)))] s.heap.size = A at hD ⊢
  have hA : ∀ q : Nat, s.heap.size ≤ q → A q := fun q h => by rw [← hAe]; exact Or.inr h
  have hS : va_S A s.heap s.heap [] := va_S.rf
  have hl : lv_has ls 3 [(0, .ref h0)] := hl
  refine lv_iconst (v := 0) hx hb dX8_howManyHaveRows_0 (by decide) ?_
  refine lv_istore_n (lv' := [(1, .int 0), (0, .ref h0)]) hx hb dX8_howManyHaveRows_1 rfl hl (by decide) rfl (fun ls hl => ?_)
  refine lv_iconst (v := 0) hx hb dX8_howManyHaveRows_2 (by decide) ?_
  refine lv_istore_n (lv' := [(2, .int 0), (1, .int 0), (0, .ref h0)]) hx hb dX8_howManyHaveRows_3 rfl hl (by decide) rfl (fun ls hl => ?_)
  refine lv_iload_n hx hb dX8_howManyHaveRows_4 rfl (lv_at hl 0 rfl) ?_
  refine lv_iconst (v := 4) hx hb dX8_howManyHaveRows_5 (by decide) ?_
  refine lv_icmp_ge (tgt := 27) hx hb dX8_howManyHaveRows_6 (by decide) (fun c1 => absurd c1 (by decide)) (fun c1 => ?_)
  refine lv_aload_n hx hb dX8_howManyHaveRows_9 rfl (lv_at hl 2 rfl) ?_
  refine va_get (D := (dC, dI)) (ci := 8) (v := .ref s2) (C := RX8) (T := TX8) (N := 4) hx hb hwd inlX8 hown hK hP 0 rfl rfl 2 (by decide) (hwd _ kr4_9) (fun _ h9 => h9) rfl dX8_howManyHaveRows_10 ?_
  refine lv_iload_n hx hb dX8_howManyHaveRows_13 rfl (lv_at hl 0 rfl) ?_
  refine va_zald hx hb hK hP 1 1 rfl rfl (vin (by decide)) dX8_howManyHaveRows_14 ?_
  refine lv_topi (nm_r (e' := (0)) (by decide +kernel) ?_)
  refine lv_if_eq (tgt := 21) hx hb dX8_howManyHaveRows_15 (by decide) (fun c2 => ?_) (fun c2 => absurd c2 (by decide))
  refine lv_iinc (v := 1) (lv' := [(2, .int 1), (1, .int 0), (0, .ref h0)]) hx hb dX8_howManyHaveRows_21 hl (k := 0) rfl (by decide) (by decide) rfl (fun ls hl => ?_)
  refine lv_goto (tgt := 4) hx hb dX8_howManyHaveRows_24 (by decide) ?_
  refine lv_iload_n hx hb dX8_howManyHaveRows_4 rfl (lv_at hl 0 rfl) ?_
  refine lv_iconst (v := 4) hx hb dX8_howManyHaveRows_5 (by decide) ?_
  refine lv_icmp_ge (tgt := 27) hx hb dX8_howManyHaveRows_6 (by decide) (fun c3 => absurd c3 (by decide)) (fun c3 => ?_)
  refine lv_aload_n hx hb dX8_howManyHaveRows_9 rfl (lv_at hl 2 rfl) ?_
  refine va_get (D := (dC, dI)) (ci := 8) (v := .ref s2) (C := RX8) (T := TX8) (N := 4) hx hb hwd inlX8 hown hK hP 0 rfl rfl 2 (by decide) (hwd _ kr4_9) (fun _ h9 => h9) rfl dX8_howManyHaveRows_10 ?_
  refine lv_iload_n hx hb dX8_howManyHaveRows_13 rfl (lv_at hl 0 rfl) ?_
  refine va_zald hx hb hK hP 1 1 rfl rfl (vin (by decide)) dX8_howManyHaveRows_14 ?_
  refine lv_topi (nm_r (e' := (0)) (by decide +kernel) ?_)
  refine lv_if_eq (tgt := 21) hx hb dX8_howManyHaveRows_15 (by decide) (fun c4 => ?_) (fun c4 => absurd c4 (by decide))
  refine lv_iinc (v := 2) (lv' := [(2, .int 2), (1, .int 0), (0, .ref h0)]) hx hb dX8_howManyHaveRows_21 hl (k := 0) rfl (by decide) (by decide) rfl (fun ls hl => ?_)
  refine lv_goto (tgt := 4) hx hb dX8_howManyHaveRows_24 (by decide) ?_
  refine lv_iload_n hx hb dX8_howManyHaveRows_4 rfl (lv_at hl 0 rfl) ?_
  refine lv_iconst (v := 4) hx hb dX8_howManyHaveRows_5 (by decide) ?_
  refine lv_icmp_ge (tgt := 27) hx hb dX8_howManyHaveRows_6 (by decide) (fun c5 => absurd c5 (by decide)) (fun c5 => ?_)
  refine lv_aload_n hx hb dX8_howManyHaveRows_9 rfl (lv_at hl 2 rfl) ?_
  refine va_get (D := (dC, dI)) (ci := 8) (v := .ref s2) (C := RX8) (T := TX8) (N := 4) hx hb hwd inlX8 hown hK hP 0 rfl rfl 2 (by decide) (hwd _ kr4_9) (fun _ h9 => h9) rfl dX8_howManyHaveRows_10 ?_
  refine lv_iload_n hx hb dX8_howManyHaveRows_13 rfl (lv_at hl 0 rfl) ?_
  refine va_zald hx hb hK hP 1 1 rfl rfl (vin (by decide)) dX8_howManyHaveRows_14 ?_
  refine lv_topi (nm_r (e' := (0)) (by decide +kernel) ?_)
  refine lv_if_eq (tgt := 21) hx hb dX8_howManyHaveRows_15 (by decide) (fun c6 => ?_) (fun c6 => absurd c6 (by decide))
  refine lv_iinc (v := 3) (lv' := [(2, .int 3), (1, .int 0), (0, .ref h0)]) hx hb dX8_howManyHaveRows_21 hl (k := 0) rfl (by decide) (by decide) rfl (fun ls hl => ?_)
  refine lv_goto (tgt := 4) hx hb dX8_howManyHaveRows_24 (by decide) ?_
  refine lv_iload_n hx hb dX8_howManyHaveRows_4 rfl (lv_at hl 0 rfl) ?_
  refine lv_iconst (v := 4) hx hb dX8_howManyHaveRows_5 (by decide) ?_
  refine lv_icmp_ge (tgt := 27) hx hb dX8_howManyHaveRows_6 (by decide) (fun c7 => absurd c7 (by decide)) (fun c7 => ?_)
  refine lv_aload_n hx hb dX8_howManyHaveRows_9 rfl (lv_at hl 2 rfl) ?_
  refine va_get (D := (dC, dI)) (ci := 8) (v := .ref s2) (C := RX8) (T := TX8) (N := 4) hx hb hwd inlX8 hown hK hP 0 rfl rfl 2 (by decide) (hwd _ kr4_9) (fun _ h9 => h9) rfl dX8_howManyHaveRows_10 ?_
  refine lv_iload_n hx hb dX8_howManyHaveRows_13 rfl (lv_at hl 0 rfl) ?_
  refine va_zald hx hb hK hP 1 1 rfl rfl (vin (by decide)) dX8_howManyHaveRows_14 ?_
  refine lv_topi (nm_r (e' := (0)) (by decide +kernel) ?_)
  refine lv_if_eq (tgt := 21) hx hb dX8_howManyHaveRows_15 (by decide) (fun c8 => ?_) (fun c8 => absurd c8 (by decide))
  refine lv_iinc (v := 4) (lv' := [(2, .int 4), (1, .int 0), (0, .ref h0)]) hx hb dX8_howManyHaveRows_21 hl (k := 0) rfl (by decide) (by decide) rfl (fun ls hl => ?_)
  refine lv_goto (tgt := 4) hx hb dX8_howManyHaveRows_24 (by decide) ?_
  refine lv_iload_n hx hb dX8_howManyHaveRows_4 rfl (lv_at hl 0 rfl) ?_
  refine lv_iconst (v := 4) hx hb dX8_howManyHaveRows_5 (by decide) ?_
  refine lv_icmp_ge (tgt := 27) hx hb dX8_howManyHaveRows_6 (by decide) (fun c9 => ?_) (fun c9 => absurd c9 (by decide))
  refine lv_iload_n hx hb dX8_howManyHaveRows_27 rfl (lv_at hl 1 rfl) ?_
  have hP9 := hP.sub (ws' := [(h0, .inr (8, [.ref s0, .ref s1, .ref s2, .ref s3])), (s2, .inl (cZ, 4, .inl (fun _ => 0)))]) [0, 1] rfl
  have hD9 := hD.sub (ws' := [(h0, .inr (8, [.ref s0, .ref s1, .ref s2, .ref s3])), (s2, .inl (cZ, 4, .inl (fun _ => 0)))]) [0, 1] (by decide) rfl
  exact W.iret (v := 0) hx hb hr (fun t ht hW => ⟨⟨0, (), rfl, rfl, (by rw [ht]; exact hP9), hD9⟩, hS.F ht⟩) hS.2.2 dX8_howManyHaveRows_28
set_option maxHeartbeats 4000000 in
set_option maxRecDepth 100000 in
theorem lp_c_X8_makeRow_0 {p : Program} {l : Launch} {e : Env} {R : Room} {s : State} {m : MethodId} {args : Array Value} {below : List Frame} {meth : Method} {c : Code} {A : Nat → Prop} {cells slots : Nat} {Q : State → Prop} {dC : Nat → ClassId} {dI : Nat → Nat → Nat} {cI cZ cB cJ cM : ClassId} {h0 s0 s1 s2 s3 : Nat} {p0 p1 : Int32} {f1 : Nat → Int32} {f2 : Nat → Int32} (hx : p.tables.exec = Jvm.exec) (hb : c.code = cX8_makeRow) (hown : s.vm.findClass RX8 = some m.cls) (hwd : ∀ wd ∈ wsL_law, wd.before args s = true) (hK : va_K (dC, dI) vwCl [(cI, .int), (cZ, .boolean), (cB, .byte), (cJ, .long), (cM, .object RX2)] s) (kx : ∀ (H : Heap) (locs : List Loc) (ls : Array Slot) (g : Nat → Int64), va_P (dC, dI) vwCl [(h0, .inr (8, [.ref s0, .ref s1, .ref s2, .ref s3])), (s0, .inl (cI, 4, .inl f1)), (s1, .inl (cI, 4, .inl f2)), (s2, .inl (cZ, 4, .inl (upd (fun _ => 0) 0 1))), (s3, .inl (cJ, 240, .inr (.inl g)))] H → va_D A [(h0, .inr (8, [.ref s0, .ref s1, .ref s2, .ref s3])), (s0, .inl (cI, 4, .inl f1)), (s1, .inl (cI, 4, .inl f2)), (s2, .inl (cZ, 4, .inl (upd (fun _ => 0) 0 1))), (s3, .inl (cJ, 240, .inr (.inl g)))] → va_S A s.heap H locs → lv_has ls 5 [(0, .ref h0), (1, .int 0), (2, .int p0), (3, .int p1), (4, .int (nI 60))] → W p l e R s m args below meth c H locs cells slots Q (F0 m 50 ls [])) : ∀ (d i : Nat), i + d = 60 → ∀ (H : Heap) (locs : List Loc) (ls : Array Slot) (g : Nat → Int64), va_P (dC, dI) vwCl [(h0, .inr (8, [.ref s0, .ref s1, .ref s2, .ref s3])), (s0, .inl (cI, 4, .inl f1)), (s1, .inl (cI, 4, .inl f2)), (s2, .inl (cZ, 4, .inl (upd (fun _ => 0) 0 1))), (s3, .inl (cJ, 240, .inr (.inl g)))] H → va_D A [(h0, .inr (8, [.ref s0, .ref s1, .ref s2, .ref s3])), (s0, .inl (cI, 4, .inl f1)), (s1, .inl (cI, 4, .inl f2)), (s2, .inl (cZ, 4, .inl (upd (fun _ => 0) 0 1))), (s3, .inl (cJ, 240, .inr (.inl g)))] → va_S A s.heap H locs → lv_has ls 5 [(0, .ref h0), (1, .int 0), (2, .int p0), (3, .int p1), (4, .int (nI i))] → W p l e R s m args below meth c H locs cells slots Q (F0 m 24 ls []) := by
  intro d
  induction d with
  | zero =>
    intro i h1 H locs ls g hP hD hS hl
    obtain rfl : i = 60 := by omega
    refine lv_iload hx hb dX8_makeRow_24 (lv_at hl 4 rfl) ?_
    refine lv_bipush (v := 60) hx hb dX8_makeRow_26 (by decide) ?_
    refine lv_icmp_ge (tgt := 50) hx hb dX8_makeRow_28 (by decide) (fun c1 => ?_) (fun c1 => absurd c1 (by decide))
    exact kx H locs ls g hP hD hS hl
  | succ d ih =>
    intro i h1 H locs ls g hP hD hS hl
    have hi : i < 60 := by omega
    refine lv_iload hx hb dX8_makeRow_24 (lv_at hl 4 rfl) ?_
    refine lv_bipush (v := 60) hx hb dX8_makeRow_26 (by decide) ?_
    refine lv_icmp_ge (tgt := 50) hx hb dX8_makeRow_28 (by decide) (fun c1 => absurd c1 (show ¬ nI 60 ≤ nI i from nI_ge hi (by decide))) (fun c1 => ?_)
    refine lv_aload_n hx hb dX8_makeRow_31 rfl (lv_at hl 0 rfl) ?_
    refine va_get (D := (dC, dI)) (ci := 8) (v := .ref s3) (C := RX8) (T := TX8) (N := 4) hx hb hwd inlX8 hown hK hP 0 rfl rfl 3 (by decide) (hwd _ kr4_11) (fun _ h9 => h9) rfl dX8_makeRow_32 ?_
    refine lv_iload_n hx hb dX8_makeRow_35 rfl (lv_at hl 1 rfl) ?_
    refine lv_bipush (v := 60) hx hb dX8_makeRow_36 (by decide) ?_
    refine lv_imul hx hb dX8_makeRow_38 ?_
    refine lv_topi (nm_r (e' := (0)) (by decide +kernel) ?_)
    refine lv_iload hx hb dX8_makeRow_39 (lv_at hl 4 rfl) ?_
    refine lv_iadd hx hb dX8_makeRow_41 ?_
    refine lv_topi (fun x103 ex103 => ?_)
    refine lv_lconst (v := 0) hx hb dX8_makeRow_42 (by decide) ?_
    refine va_last hx hb hK hP hD hS 4 3 rfl rfl (by rw [ex103]; exact (show vp_in (nI 0 + nI i) 240 from vp_base 0 i 240 (by omega) (by decide))) dX8_makeRow_43 (fun H locs hP hD hS => ?_)
    obtain ⟨f104, ef104⟩ : ∃ f, f = vp_updL g x103.toNatClampNeg 0 := ⟨_, rfl⟩
    have hP : va_P (dC, dI) vwCl [(h0, .inr (8, [.ref s0, .ref s1, .ref s2, .ref s3])), (s0, .inl (cI, 4, .inl f1)), (s1, .inl (cI, 4, .inl f2)), (s2, .inl (cZ, 4, .inl (upd (fun _ => 0) 0 1))), (s3, .inl (cJ, 240, .inr (.inl f104)))] H := by rw [ef104]; exact hP
    have hD : va_D A [(h0, .inr (8, [.ref s0, .ref s1, .ref s2, .ref s3])), (s0, .inl (cI, 4, .inl f1)), (s1, .inl (cI, 4, .inl f2)), (s2, .inl (cZ, 4, .inl (upd (fun _ => 0) 0 1))), (s3, .inl (cJ, 240, .inr (.inl f104)))] := by rw [ef104]; exact hD
    refine lv_iinc (v := nI (i + 1)) (lv' := [(4, .int (nI (i + 1))), (0, .ref h0), (1, .int 0), (2, .int p0), (3, .int p1)]) hx hb dX8_makeRow_44 hl (k := 4) rfl (nI_1 i) (by decide) rfl (fun ls hl => ?_)
    refine lv_goto (tgt := 24) hx hb dX8_makeRow_47 (by decide) ?_
    exact ih (i + 1) (by omega) H locs ls f104 hP hD hS (lv_sub hl [1, 2, 3, 4, 0] rfl)
set_option maxHeartbeats 4000000 in
set_option maxRecDepth 100000 in
theorem c_X8_makeRow_0 (l : Launch) (dC : Nat → ClassId) (dI : Nat → Nat → Nat) (cI cZ cB cJ cM : ClassId) (h0 s0 s1 s2 s3 : Nat) (p0 p1 : Int32) (sz : Nat) : Met l yX8_makeRow (kw yX8_makeRow cX8_makeRow 5 none) ({ frames := 0, cells := 0, slots := 0, locals := 0 }) (va_Pc [.ref h0, .int 0, .int p0, .int p1] (kPre dC dI [(cI, .int), (cZ, .boolean), (cB, .byte), (cJ, .long), (cM, .object RX2)] [(h0, .inr (8, [.ref s0, .ref s1, .ref s2, .ref s3])), (s0, .inl (cI, 4, .inl (fun _ => 0))), (s1, .inl (cI, 4, .inl (fun _ => 0))), (s2, .inl (cZ, 4, .inl (fun _ => 0))), (s3, .inl (cJ, 240, .inr (.inl (fun _ => 0))))] sz)) (va_Qv (fun _ : Unit => True) (fun _ _ => True) (va_A [(h0, .inr (8, [.ref s0, .ref s1, .ref s2, .ref s3])), (s0, .inl (cI, 4, .inl (fun _ => 0))), (s1, .inl (cI, 4, .inl (fun _ => 0))), (s2, .inl (cZ, 4, .inl (fun _ => 0))), (s3, .inl (cJ, 240, .inr (.inl (fun _ => 0))))] sz)) 0 0 (va_A [(h0, .inr (8, [.ref s0, .ref s1, .ref s2, .ref s3])), (s0, .inl (cI, 4, .inl (fun _ => 0))), (s1, .inl (cI, 4, .inl (fun _ => 0))), (s2, .inl (cZ, 4, .inl (fun _ => 0))), (s3, .inl (cJ, 240, .inr (.inl (fun _ => 0))))] sz) := by
  refine kEnter (by decide) (Nat.le_of_ble_eq_true rfl) ?_
  intro p e s m below meth c ls hx hb hr hml hown hlocks hin hwd hsz hP hK hD hl
  subst hsz
  generalize hAe : va_A [(h0, .inr (8, [.ref s0, .ref s1, .ref s2, .ref s3])), (s0, .inl (cI, 4, .inl (fun _ => 0))), (s1, .inl (cI, 4, .inl (fun _ => 0))), (s2, .inl (cZ, 4, .inl (fun _ => 0))), (s3, .inl (cJ, 240, .inr (.inl (fun _ => 0))))] s.heap.size = A at hD ⊢
  have hA : ∀ q : Nat, s.heap.size ≤ q → A q := fun q h => by rw [← hAe]; exact Or.inr h
  have hS : va_S A s.heap s.heap [] := va_S.rf
  have hl : lv_has ls 5 [(0, .ref h0), (1, .int 0), (2, .int p0), (3, .int p1)] := hl
  refine lv_aload_n hx hb dX8_makeRow_0 rfl (lv_at hl 0 rfl) ?_
  refine va_get (D := (dC, dI)) (ci := 8) (v := .ref s2) (C := RX8) (T := TX8) (N := 4) hx hb hwd inlX8 hown hK hP 0 rfl rfl 2 (by decide) (hwd _ kr4_9) (fun _ h9 => h9) rfl dX8_makeRow_1 ?_
  refine lv_iload_n hx hb dX8_makeRow_4 rfl (lv_at hl 1 rfl) ?_
  refine lv_iconst (v := 1) hx hb dX8_makeRow_5 (by decide) ?_
  refine va_zast hx hb hK hP hD hS 3 1 rfl rfl (vin (by decide)) dX8_makeRow_6 (fun H locs hP hD hS => ?_)
  have hP : va_P (dC, dI) vwCl [(h0, .inr (8, [.ref s0, .ref s1, .ref s2, .ref s3])), (s0, .inl (cI, 4, .inl (fun _ => 0))), (s1, .inl (cI, 4, .inl (fun _ => 0))), (s2, .inl (cZ, 4, .inl (upd (fun _ => 0) 0 1))), (s3, .inl (cJ, 240, .inr (.inl (fun _ => 0))))] H := hP
  have hD : va_D A [(h0, .inr (8, [.ref s0, .ref s1, .ref s2, .ref s3])), (s0, .inl (cI, 4, .inl (fun _ => 0))), (s1, .inl (cI, 4, .inl (fun _ => 0))), (s2, .inl (cZ, 4, .inl (upd (fun _ => 0) 0 1))), (s3, .inl (cJ, 240, .inr (.inl (fun _ => 0))))] := hD
  refine lv_aload_n hx hb dX8_makeRow_7 rfl (lv_at hl 0 rfl) ?_
  refine va_get (D := (dC, dI)) (ci := 8) (v := .ref s0) (C := RX8) (T := TX8) (N := 4) hx hb hwd inlX8 hown hK hP 0 rfl rfl 0 (by decide) (hwd _ kr4_7) (fun _ h9 => h9) rfl dX8_makeRow_8 ?_
  refine lv_iload_n hx hb dX8_makeRow_11 rfl (lv_at hl 1 rfl) ?_
  refine lv_iload_n hx hb dX8_makeRow_12 rfl (lv_at hl 2 rfl) ?_
  refine va_iast hx hb hK hP hD hS 1 0 rfl rfl (vin (by decide)) dX8_makeRow_13 (fun H locs hP hD hS => ?_)
  obtain ⟨f1, ef1⟩ : ∃ f, f = upd (fun _ => 0) (0 : Int32).toNatClampNeg p0 := ⟨_, rfl⟩
  have hP : va_P (dC, dI) vwCl [(h0, .inr (8, [.ref s0, .ref s1, .ref s2, .ref s3])), (s0, .inl (cI, 4, .inl f1)), (s1, .inl (cI, 4, .inl (fun _ => 0))), (s2, .inl (cZ, 4, .inl (upd (fun _ => 0) 0 1))), (s3, .inl (cJ, 240, .inr (.inl (fun _ => 0))))] H := by rw [ef1]; exact hP
  have hD : va_D A [(h0, .inr (8, [.ref s0, .ref s1, .ref s2, .ref s3])), (s0, .inl (cI, 4, .inl f1)), (s1, .inl (cI, 4, .inl (fun _ => 0))), (s2, .inl (cZ, 4, .inl (upd (fun _ => 0) 0 1))), (s3, .inl (cJ, 240, .inr (.inl (fun _ => 0))))] := by rw [ef1]; exact hD
  refine lv_aload_n hx hb dX8_makeRow_14 rfl (lv_at hl 0 rfl) ?_
  refine va_get (D := (dC, dI)) (ci := 8) (v := .ref s1) (C := RX8) (T := TX8) (N := 4) hx hb hwd inlX8 hown hK hP 0 rfl rfl 1 (by decide) (hwd _ kr4_8) (fun _ h9 => h9) rfl dX8_makeRow_15 ?_
  refine lv_iload_n hx hb dX8_makeRow_18 rfl (lv_at hl 1 rfl) ?_
  refine lv_iload_n hx hb dX8_makeRow_19 rfl (lv_at hl 3 rfl) ?_
  refine va_iast hx hb hK hP hD hS 2 0 rfl rfl (vin (by decide)) dX8_makeRow_20 (fun H locs hP hD hS => ?_)
  obtain ⟨f2, ef2⟩ : ∃ f, f = upd (fun _ => 0) (0 : Int32).toNatClampNeg p1 := ⟨_, rfl⟩
  have hP : va_P (dC, dI) vwCl [(h0, .inr (8, [.ref s0, .ref s1, .ref s2, .ref s3])), (s0, .inl (cI, 4, .inl f1)), (s1, .inl (cI, 4, .inl f2)), (s2, .inl (cZ, 4, .inl (upd (fun _ => 0) 0 1))), (s3, .inl (cJ, 240, .inr (.inl (fun _ => 0))))] H := by rw [ef2]; exact hP
  have hD : va_D A [(h0, .inr (8, [.ref s0, .ref s1, .ref s2, .ref s3])), (s0, .inl (cI, 4, .inl f1)), (s1, .inl (cI, 4, .inl f2)), (s2, .inl (cZ, 4, .inl (upd (fun _ => 0) 0 1))), (s3, .inl (cJ, 240, .inr (.inl (fun _ => 0))))] := by rw [ef2]; exact hD
  refine lv_iconst (v := 0) hx hb dX8_makeRow_21 (by decide) ?_
  refine lv_istore (lv' := [(4, .int 0), (0, .ref h0), (1, .int 0), (2, .int p0), (3, .int p1)]) hx hb dX8_makeRow_22 hl (by decide) rfl (fun ls hl => ?_)
  have hl0 : lv_has ls 5 [(0, .ref h0), (1, .int 0), (2, .int p0), (3, .int p1), (4, .int (nI 0))] := lv_sub hl [1, 2, 3, 4, 0] rfl
  refine lp_c_X8_makeRow_0 hx hb hown hwd hK (fun H locs ls g hP hD hS hl => ?_) 60 0 (by omega) _ _ ls (fun _ => 0) hP hD hS hl0
  exact W.vret hx hb hr (fun t ht hW => ⟨⟨(), rfl, trivial, trivial⟩, hS.F ht⟩) hS.2.2 dX8_makeRow_50
set_option maxHeartbeats 4000000 in
set_option maxRecDepth 100000 in
theorem lp_c_X8_makeRow_1 {p : Program} {l : Launch} {e : Env} {R : Room} {s : State} {m : MethodId} {args : Array Value} {below : List Frame} {meth : Method} {c : Code} {A : Nat → Prop} {cells slots : Nat} {Q : State → Prop} {dC : Nat → ClassId} {dI : Nat → Nat → Nat} {cI cZ cB cJ cM : ClassId} {h0 s0 s1 s2 s3 : Nat} {p0 p1 : Int32} {f1 : Nat → Int32} {f2 : Nat → Int32} (hx : p.tables.exec = Jvm.exec) (hb : c.code = cX8_makeRow) (hown : s.vm.findClass RX8 = some m.cls) (hwd : ∀ wd ∈ wsL_law, wd.before args s = true) (hK : va_K (dC, dI) vwCl [(cI, .int), (cZ, .boolean), (cB, .byte), (cJ, .long), (cM, .object RX2)] s) (kx : ∀ (H : Heap) (locs : List Loc) (ls : Array Slot) (g : Nat → Int64), va_P (dC, dI) vwCl [(h0, .inr (8, [.ref s0, .ref s1, .ref s2, .ref s3])), (s0, .inl (cI, 4, .inl f1)), (s1, .inl (cI, 4, .inl f2)), (s2, .inl (cZ, 4, .inl (upd (fun _ => 0) 1 1))), (s3, .inl (cJ, 240, .inr (.inl g)))] H → va_D A [(h0, .inr (8, [.ref s0, .ref s1, .ref s2, .ref s3])), (s0, .inl (cI, 4, .inl f1)), (s1, .inl (cI, 4, .inl f2)), (s2, .inl (cZ, 4, .inl (upd (fun _ => 0) 1 1))), (s3, .inl (cJ, 240, .inr (.inl g)))] → va_S A s.heap H locs → lv_has ls 5 [(0, .ref h0), (1, .int 1), (2, .int p0), (3, .int p1), (4, .int (nI 60))] → W p l e R s m args below meth c H locs cells slots Q (F0 m 50 ls [])) : ∀ (d i : Nat), i + d = 60 → ∀ (H : Heap) (locs : List Loc) (ls : Array Slot) (g : Nat → Int64), va_P (dC, dI) vwCl [(h0, .inr (8, [.ref s0, .ref s1, .ref s2, .ref s3])), (s0, .inl (cI, 4, .inl f1)), (s1, .inl (cI, 4, .inl f2)), (s2, .inl (cZ, 4, .inl (upd (fun _ => 0) 1 1))), (s3, .inl (cJ, 240, .inr (.inl g)))] H → va_D A [(h0, .inr (8, [.ref s0, .ref s1, .ref s2, .ref s3])), (s0, .inl (cI, 4, .inl f1)), (s1, .inl (cI, 4, .inl f2)), (s2, .inl (cZ, 4, .inl (upd (fun _ => 0) 1 1))), (s3, .inl (cJ, 240, .inr (.inl g)))] → va_S A s.heap H locs → lv_has ls 5 [(0, .ref h0), (1, .int 1), (2, .int p0), (3, .int p1), (4, .int (nI i))] → W p l e R s m args below meth c H locs cells slots Q (F0 m 24 ls []) := by
  intro d
  induction d with
  | zero =>
    intro i h1 H locs ls g hP hD hS hl
    obtain rfl : i = 60 := by omega
    refine lv_iload hx hb dX8_makeRow_24 (lv_at hl 4 rfl) ?_
    refine lv_bipush (v := 60) hx hb dX8_makeRow_26 (by decide) ?_
    refine lv_icmp_ge (tgt := 50) hx hb dX8_makeRow_28 (by decide) (fun c1 => ?_) (fun c1 => absurd c1 (by decide))
    exact kx H locs ls g hP hD hS hl
  | succ d ih =>
    intro i h1 H locs ls g hP hD hS hl
    have hi : i < 60 := by omega
    refine lv_iload hx hb dX8_makeRow_24 (lv_at hl 4 rfl) ?_
    refine lv_bipush (v := 60) hx hb dX8_makeRow_26 (by decide) ?_
    refine lv_icmp_ge (tgt := 50) hx hb dX8_makeRow_28 (by decide) (fun c1 => absurd c1 (show ¬ nI 60 ≤ nI i from nI_ge hi (by decide))) (fun c1 => ?_)
    refine lv_aload_n hx hb dX8_makeRow_31 rfl (lv_at hl 0 rfl) ?_
    refine va_get (D := (dC, dI)) (ci := 8) (v := .ref s3) (C := RX8) (T := TX8) (N := 4) hx hb hwd inlX8 hown hK hP 0 rfl rfl 3 (by decide) (hwd _ kr4_11) (fun _ h9 => h9) rfl dX8_makeRow_32 ?_
    refine lv_iload_n hx hb dX8_makeRow_35 rfl (lv_at hl 1 rfl) ?_
    refine lv_bipush (v := 60) hx hb dX8_makeRow_36 (by decide) ?_
    refine lv_imul hx hb dX8_makeRow_38 ?_
    refine lv_topi (nm_r (e' := (60)) (by decide +kernel) ?_)
    refine lv_iload hx hb dX8_makeRow_39 (lv_at hl 4 rfl) ?_
    refine lv_iadd hx hb dX8_makeRow_41 ?_
    refine lv_topi (fun x103 ex103 => ?_)
    refine lv_lconst (v := 0) hx hb dX8_makeRow_42 (by decide) ?_
    refine va_last hx hb hK hP hD hS 4 3 rfl rfl (by rw [ex103]; exact (show vp_in (nI 60 + nI i) 240 from vp_base 60 i 240 (by omega) (by decide))) dX8_makeRow_43 (fun H locs hP hD hS => ?_)
    obtain ⟨f104, ef104⟩ : ∃ f, f = vp_updL g x103.toNatClampNeg 0 := ⟨_, rfl⟩
    have hP : va_P (dC, dI) vwCl [(h0, .inr (8, [.ref s0, .ref s1, .ref s2, .ref s3])), (s0, .inl (cI, 4, .inl f1)), (s1, .inl (cI, 4, .inl f2)), (s2, .inl (cZ, 4, .inl (upd (fun _ => 0) 1 1))), (s3, .inl (cJ, 240, .inr (.inl f104)))] H := by rw [ef104]; exact hP
    have hD : va_D A [(h0, .inr (8, [.ref s0, .ref s1, .ref s2, .ref s3])), (s0, .inl (cI, 4, .inl f1)), (s1, .inl (cI, 4, .inl f2)), (s2, .inl (cZ, 4, .inl (upd (fun _ => 0) 1 1))), (s3, .inl (cJ, 240, .inr (.inl f104)))] := by rw [ef104]; exact hD
    refine lv_iinc (v := nI (i + 1)) (lv' := [(4, .int (nI (i + 1))), (0, .ref h0), (1, .int 1), (2, .int p0), (3, .int p1)]) hx hb dX8_makeRow_44 hl (k := 4) rfl (nI_1 i) (by decide) rfl (fun ls hl => ?_)
    refine lv_goto (tgt := 24) hx hb dX8_makeRow_47 (by decide) ?_
    exact ih (i + 1) (by omega) H locs ls f104 hP hD hS (lv_sub hl [1, 2, 3, 4, 0] rfl)
set_option maxHeartbeats 4000000 in
set_option maxRecDepth 100000 in
theorem c_X8_makeRow_1 (l : Launch) (dC : Nat → ClassId) (dI : Nat → Nat → Nat) (cI cZ cB cJ cM : ClassId) (h0 s0 s1 s2 s3 : Nat) (p0 p1 : Int32) (sz : Nat) : Met l yX8_makeRow (kw yX8_makeRow cX8_makeRow 5 none) ({ frames := 0, cells := 0, slots := 0, locals := 0 }) (va_Pc [.ref h0, .int 1, .int p0, .int p1] (kPre dC dI [(cI, .int), (cZ, .boolean), (cB, .byte), (cJ, .long), (cM, .object RX2)] [(h0, .inr (8, [.ref s0, .ref s1, .ref s2, .ref s3])), (s0, .inl (cI, 4, .inl (fun _ => 0))), (s1, .inl (cI, 4, .inl (fun _ => 0))), (s2, .inl (cZ, 4, .inl (fun _ => 0))), (s3, .inl (cJ, 240, .inr (.inl (fun _ => 0))))] sz)) (va_Qv (fun _ : Unit => True) (fun _ _ => True) (va_A [(h0, .inr (8, [.ref s0, .ref s1, .ref s2, .ref s3])), (s0, .inl (cI, 4, .inl (fun _ => 0))), (s1, .inl (cI, 4, .inl (fun _ => 0))), (s2, .inl (cZ, 4, .inl (fun _ => 0))), (s3, .inl (cJ, 240, .inr (.inl (fun _ => 0))))] sz)) 0 0 (va_A [(h0, .inr (8, [.ref s0, .ref s1, .ref s2, .ref s3])), (s0, .inl (cI, 4, .inl (fun _ => 0))), (s1, .inl (cI, 4, .inl (fun _ => 0))), (s2, .inl (cZ, 4, .inl (fun _ => 0))), (s3, .inl (cJ, 240, .inr (.inl (fun _ => 0))))] sz) := by
  refine kEnter (by decide) (Nat.le_of_ble_eq_true rfl) ?_
  intro p e s m below meth c ls hx hb hr hml hown hlocks hin hwd hsz hP hK hD hl
  subst hsz
  generalize hAe : va_A [(h0, .inr (8, [.ref s0, .ref s1, .ref s2, .ref s3])), (s0, .inl (cI, 4, .inl (fun _ => 0))), (s1, .inl (cI, 4, .inl (fun _ => 0))), (s2, .inl (cZ, 4, .inl (fun _ => 0))), (s3, .inl (cJ, 240, .inr (.inl (fun _ => 0))))] s.heap.size = A at hD ⊢
  have hA : ∀ q : Nat, s.heap.size ≤ q → A q := fun q h => by rw [← hAe]; exact Or.inr h
  have hS : va_S A s.heap s.heap [] := va_S.rf
  have hl : lv_has ls 5 [(0, .ref h0), (1, .int 1), (2, .int p0), (3, .int p1)] := hl
  refine lv_aload_n hx hb dX8_makeRow_0 rfl (lv_at hl 0 rfl) ?_
  refine va_get (D := (dC, dI)) (ci := 8) (v := .ref s2) (C := RX8) (T := TX8) (N := 4) hx hb hwd inlX8 hown hK hP 0 rfl rfl 2 (by decide) (hwd _ kr4_9) (fun _ h9 => h9) rfl dX8_makeRow_1 ?_
  refine lv_iload_n hx hb dX8_makeRow_4 rfl (lv_at hl 1 rfl) ?_
  refine lv_iconst (v := 1) hx hb dX8_makeRow_5 (by decide) ?_
  refine va_zast hx hb hK hP hD hS 3 1 rfl rfl (vin (by decide)) dX8_makeRow_6 (fun H locs hP hD hS => ?_)
  have hP : va_P (dC, dI) vwCl [(h0, .inr (8, [.ref s0, .ref s1, .ref s2, .ref s3])), (s0, .inl (cI, 4, .inl (fun _ => 0))), (s1, .inl (cI, 4, .inl (fun _ => 0))), (s2, .inl (cZ, 4, .inl (upd (fun _ => 0) 1 1))), (s3, .inl (cJ, 240, .inr (.inl (fun _ => 0))))] H := hP
  have hD : va_D A [(h0, .inr (8, [.ref s0, .ref s1, .ref s2, .ref s3])), (s0, .inl (cI, 4, .inl (fun _ => 0))), (s1, .inl (cI, 4, .inl (fun _ => 0))), (s2, .inl (cZ, 4, .inl (upd (fun _ => 0) 1 1))), (s3, .inl (cJ, 240, .inr (.inl (fun _ => 0))))] := hD
  refine lv_aload_n hx hb dX8_makeRow_7 rfl (lv_at hl 0 rfl) ?_
  refine va_get (D := (dC, dI)) (ci := 8) (v := .ref s0) (C := RX8) (T := TX8) (N := 4) hx hb hwd inlX8 hown hK hP 0 rfl rfl 0 (by decide) (hwd _ kr4_7) (fun _ h9 => h9) rfl dX8_makeRow_8 ?_
  refine lv_iload_n hx hb dX8_makeRow_11 rfl (lv_at hl 1 rfl) ?_
  refine lv_iload_n hx hb dX8_makeRow_12 rfl (lv_at hl 2 rfl) ?_
  refine va_iast hx hb hK hP hD hS 1 0 rfl rfl (vin (by decide)) dX8_makeRow_13 (fun H locs hP hD hS => ?_)
  obtain ⟨f1, ef1⟩ : ∃ f, f = upd (fun _ => 0) (1 : Int32).toNatClampNeg p0 := ⟨_, rfl⟩
  have hP : va_P (dC, dI) vwCl [(h0, .inr (8, [.ref s0, .ref s1, .ref s2, .ref s3])), (s0, .inl (cI, 4, .inl f1)), (s1, .inl (cI, 4, .inl (fun _ => 0))), (s2, .inl (cZ, 4, .inl (upd (fun _ => 0) 1 1))), (s3, .inl (cJ, 240, .inr (.inl (fun _ => 0))))] H := by rw [ef1]; exact hP
  have hD : va_D A [(h0, .inr (8, [.ref s0, .ref s1, .ref s2, .ref s3])), (s0, .inl (cI, 4, .inl f1)), (s1, .inl (cI, 4, .inl (fun _ => 0))), (s2, .inl (cZ, 4, .inl (upd (fun _ => 0) 1 1))), (s3, .inl (cJ, 240, .inr (.inl (fun _ => 0))))] := by rw [ef1]; exact hD
  refine lv_aload_n hx hb dX8_makeRow_14 rfl (lv_at hl 0 rfl) ?_
  refine va_get (D := (dC, dI)) (ci := 8) (v := .ref s1) (C := RX8) (T := TX8) (N := 4) hx hb hwd inlX8 hown hK hP 0 rfl rfl 1 (by decide) (hwd _ kr4_8) (fun _ h9 => h9) rfl dX8_makeRow_15 ?_
  refine lv_iload_n hx hb dX8_makeRow_18 rfl (lv_at hl 1 rfl) ?_
  refine lv_iload_n hx hb dX8_makeRow_19 rfl (lv_at hl 3 rfl) ?_
  refine va_iast hx hb hK hP hD hS 2 0 rfl rfl (vin (by decide)) dX8_makeRow_20 (fun H locs hP hD hS => ?_)
  obtain ⟨f2, ef2⟩ : ∃ f, f = upd (fun _ => 0) (1 : Int32).toNatClampNeg p1 := ⟨_, rfl⟩
  have hP : va_P (dC, dI) vwCl [(h0, .inr (8, [.ref s0, .ref s1, .ref s2, .ref s3])), (s0, .inl (cI, 4, .inl f1)), (s1, .inl (cI, 4, .inl f2)), (s2, .inl (cZ, 4, .inl (upd (fun _ => 0) 1 1))), (s3, .inl (cJ, 240, .inr (.inl (fun _ => 0))))] H := by rw [ef2]; exact hP
  have hD : va_D A [(h0, .inr (8, [.ref s0, .ref s1, .ref s2, .ref s3])), (s0, .inl (cI, 4, .inl f1)), (s1, .inl (cI, 4, .inl f2)), (s2, .inl (cZ, 4, .inl (upd (fun _ => 0) 1 1))), (s3, .inl (cJ, 240, .inr (.inl (fun _ => 0))))] := by rw [ef2]; exact hD
  refine lv_iconst (v := 0) hx hb dX8_makeRow_21 (by decide) ?_
  refine lv_istore (lv' := [(4, .int 0), (0, .ref h0), (1, .int 1), (2, .int p0), (3, .int p1)]) hx hb dX8_makeRow_22 hl (by decide) rfl (fun ls hl => ?_)
  have hl0 : lv_has ls 5 [(0, .ref h0), (1, .int 1), (2, .int p0), (3, .int p1), (4, .int (nI 0))] := lv_sub hl [1, 2, 3, 4, 0] rfl
  refine lp_c_X8_makeRow_1 hx hb hown hwd hK (fun H locs ls g hP hD hS hl => ?_) 60 0 (by omega) _ _ ls (fun _ => 0) hP hD hS hl0
  exact W.vret hx hb hr (fun t ht hW => ⟨⟨(), rfl, trivial, trivial⟩, hS.F ht⟩) hS.2.2 dX8_makeRow_50
set_option maxHeartbeats 4000000 in
set_option maxRecDepth 100000 in
theorem lp_c_X8_makeRow_2 {p : Program} {l : Launch} {e : Env} {R : Room} {s : State} {m : MethodId} {args : Array Value} {below : List Frame} {meth : Method} {c : Code} {A : Nat → Prop} {cells slots : Nat} {Q : State → Prop} {dC : Nat → ClassId} {dI : Nat → Nat → Nat} {cI cZ cB cJ cM : ClassId} {h0 s0 s1 s2 s3 : Nat} {p0 p1 : Int32} {f1 : Nat → Int32} {f2 : Nat → Int32} (hx : p.tables.exec = Jvm.exec) (hb : c.code = cX8_makeRow) (hown : s.vm.findClass RX8 = some m.cls) (hwd : ∀ wd ∈ wsL_law, wd.before args s = true) (hK : va_K (dC, dI) vwCl [(cI, .int), (cZ, .boolean), (cB, .byte), (cJ, .long), (cM, .object RX2)] s) (kx : ∀ (H : Heap) (locs : List Loc) (ls : Array Slot) (g : Nat → Int64), va_P (dC, dI) vwCl [(h0, .inr (8, [.ref s0, .ref s1, .ref s2, .ref s3])), (s0, .inl (cI, 4, .inl f1)), (s1, .inl (cI, 4, .inl f2)), (s2, .inl (cZ, 4, .inl (upd (fun _ => 0) 2 1))), (s3, .inl (cJ, 240, .inr (.inl g)))] H → va_D A [(h0, .inr (8, [.ref s0, .ref s1, .ref s2, .ref s3])), (s0, .inl (cI, 4, .inl f1)), (s1, .inl (cI, 4, .inl f2)), (s2, .inl (cZ, 4, .inl (upd (fun _ => 0) 2 1))), (s3, .inl (cJ, 240, .inr (.inl g)))] → va_S A s.heap H locs → lv_has ls 5 [(0, .ref h0), (1, .int 2), (2, .int p0), (3, .int p1), (4, .int (nI 60))] → W p l e R s m args below meth c H locs cells slots Q (F0 m 50 ls [])) : ∀ (d i : Nat), i + d = 60 → ∀ (H : Heap) (locs : List Loc) (ls : Array Slot) (g : Nat → Int64), va_P (dC, dI) vwCl [(h0, .inr (8, [.ref s0, .ref s1, .ref s2, .ref s3])), (s0, .inl (cI, 4, .inl f1)), (s1, .inl (cI, 4, .inl f2)), (s2, .inl (cZ, 4, .inl (upd (fun _ => 0) 2 1))), (s3, .inl (cJ, 240, .inr (.inl g)))] H → va_D A [(h0, .inr (8, [.ref s0, .ref s1, .ref s2, .ref s3])), (s0, .inl (cI, 4, .inl f1)), (s1, .inl (cI, 4, .inl f2)), (s2, .inl (cZ, 4, .inl (upd (fun _ => 0) 2 1))), (s3, .inl (cJ, 240, .inr (.inl g)))] → va_S A s.heap H locs → lv_has ls 5 [(0, .ref h0), (1, .int 2), (2, .int p0), (3, .int p1), (4, .int (nI i))] → W p l e R s m args below meth c H locs cells slots Q (F0 m 24 ls []) := by
  intro d
  induction d with
  | zero =>
    intro i h1 H locs ls g hP hD hS hl
    obtain rfl : i = 60 := by omega
    refine lv_iload hx hb dX8_makeRow_24 (lv_at hl 4 rfl) ?_
    refine lv_bipush (v := 60) hx hb dX8_makeRow_26 (by decide) ?_
    refine lv_icmp_ge (tgt := 50) hx hb dX8_makeRow_28 (by decide) (fun c1 => ?_) (fun c1 => absurd c1 (by decide))
    exact kx H locs ls g hP hD hS hl
  | succ d ih =>
    intro i h1 H locs ls g hP hD hS hl
    have hi : i < 60 := by omega
    refine lv_iload hx hb dX8_makeRow_24 (lv_at hl 4 rfl) ?_
    refine lv_bipush (v := 60) hx hb dX8_makeRow_26 (by decide) ?_
    refine lv_icmp_ge (tgt := 50) hx hb dX8_makeRow_28 (by decide) (fun c1 => absurd c1 (show ¬ nI 60 ≤ nI i from nI_ge hi (by decide))) (fun c1 => ?_)
    refine lv_aload_n hx hb dX8_makeRow_31 rfl (lv_at hl 0 rfl) ?_
    refine va_get (D := (dC, dI)) (ci := 8) (v := .ref s3) (C := RX8) (T := TX8) (N := 4) hx hb hwd inlX8 hown hK hP 0 rfl rfl 3 (by decide) (hwd _ kr4_11) (fun _ h9 => h9) rfl dX8_makeRow_32 ?_
    refine lv_iload_n hx hb dX8_makeRow_35 rfl (lv_at hl 1 rfl) ?_
    refine lv_bipush (v := 60) hx hb dX8_makeRow_36 (by decide) ?_
    refine lv_imul hx hb dX8_makeRow_38 ?_
    refine lv_topi (nm_r (e' := (120)) (by decide +kernel) ?_)
    refine lv_iload hx hb dX8_makeRow_39 (lv_at hl 4 rfl) ?_
    refine lv_iadd hx hb dX8_makeRow_41 ?_
    refine lv_topi (fun x103 ex103 => ?_)
    refine lv_lconst (v := 0) hx hb dX8_makeRow_42 (by decide) ?_
    refine va_last hx hb hK hP hD hS 4 3 rfl rfl (by rw [ex103]; exact (show vp_in (nI 120 + nI i) 240 from vp_base 120 i 240 (by omega) (by decide))) dX8_makeRow_43 (fun H locs hP hD hS => ?_)
    obtain ⟨f104, ef104⟩ : ∃ f, f = vp_updL g x103.toNatClampNeg 0 := ⟨_, rfl⟩
    have hP : va_P (dC, dI) vwCl [(h0, .inr (8, [.ref s0, .ref s1, .ref s2, .ref s3])), (s0, .inl (cI, 4, .inl f1)), (s1, .inl (cI, 4, .inl f2)), (s2, .inl (cZ, 4, .inl (upd (fun _ => 0) 2 1))), (s3, .inl (cJ, 240, .inr (.inl f104)))] H := by rw [ef104]; exact hP
    have hD : va_D A [(h0, .inr (8, [.ref s0, .ref s1, .ref s2, .ref s3])), (s0, .inl (cI, 4, .inl f1)), (s1, .inl (cI, 4, .inl f2)), (s2, .inl (cZ, 4, .inl (upd (fun _ => 0) 2 1))), (s3, .inl (cJ, 240, .inr (.inl f104)))] := by rw [ef104]; exact hD
    refine lv_iinc (v := nI (i + 1)) (lv' := [(4, .int (nI (i + 1))), (0, .ref h0), (1, .int 2), (2, .int p0), (3, .int p1)]) hx hb dX8_makeRow_44 hl (k := 4) rfl (nI_1 i) (by decide) rfl (fun ls hl => ?_)
    refine lv_goto (tgt := 24) hx hb dX8_makeRow_47 (by decide) ?_
    exact ih (i + 1) (by omega) H locs ls f104 hP hD hS (lv_sub hl [1, 2, 3, 4, 0] rfl)
set_option maxHeartbeats 4000000 in
set_option maxRecDepth 100000 in
theorem c_X8_makeRow_2 (l : Launch) (dC : Nat → ClassId) (dI : Nat → Nat → Nat) (cI cZ cB cJ cM : ClassId) (h0 s0 s1 s2 s3 : Nat) (p0 p1 : Int32) (sz : Nat) : Met l yX8_makeRow (kw yX8_makeRow cX8_makeRow 5 none) ({ frames := 0, cells := 0, slots := 0, locals := 0 }) (va_Pc [.ref h0, .int 2, .int p0, .int p1] (kPre dC dI [(cI, .int), (cZ, .boolean), (cB, .byte), (cJ, .long), (cM, .object RX2)] [(h0, .inr (8, [.ref s0, .ref s1, .ref s2, .ref s3])), (s0, .inl (cI, 4, .inl (fun _ => 0))), (s1, .inl (cI, 4, .inl (fun _ => 0))), (s2, .inl (cZ, 4, .inl (fun _ => 0))), (s3, .inl (cJ, 240, .inr (.inl (fun _ => 0))))] sz)) (va_Qv (fun _ : Unit => True) (fun _ _ => True) (va_A [(h0, .inr (8, [.ref s0, .ref s1, .ref s2, .ref s3])), (s0, .inl (cI, 4, .inl (fun _ => 0))), (s1, .inl (cI, 4, .inl (fun _ => 0))), (s2, .inl (cZ, 4, .inl (fun _ => 0))), (s3, .inl (cJ, 240, .inr (.inl (fun _ => 0))))] sz)) 0 0 (va_A [(h0, .inr (8, [.ref s0, .ref s1, .ref s2, .ref s3])), (s0, .inl (cI, 4, .inl (fun _ => 0))), (s1, .inl (cI, 4, .inl (fun _ => 0))), (s2, .inl (cZ, 4, .inl (fun _ => 0))), (s3, .inl (cJ, 240, .inr (.inl (fun _ => 0))))] sz) := by
  refine kEnter (by decide) (Nat.le_of_ble_eq_true rfl) ?_
  intro p e s m below meth c ls hx hb hr hml hown hlocks hin hwd hsz hP hK hD hl
  subst hsz
  generalize hAe : va_A [(h0, .inr (8, [.ref s0, .ref s1, .ref s2, .ref s3])), (s0, .inl (cI, 4, .inl (fun _ => 0))), (s1, .inl (cI, 4, .inl (fun _ => 0))), (s2, .inl (cZ, 4, .inl (fun _ => 0))), (s3, .inl (cJ, 240, .inr (.inl (fun _ => 0))))] s.heap.size = A at hD ⊢
  have hA : ∀ q : Nat, s.heap.size ≤ q → A q := fun q h => by rw [← hAe]; exact Or.inr h
  have hS : va_S A s.heap s.heap [] := va_S.rf
  have hl : lv_has ls 5 [(0, .ref h0), (1, .int 2), (2, .int p0), (3, .int p1)] := hl
  refine lv_aload_n hx hb dX8_makeRow_0 rfl (lv_at hl 0 rfl) ?_
  refine va_get (D := (dC, dI)) (ci := 8) (v := .ref s2) (C := RX8) (T := TX8) (N := 4) hx hb hwd inlX8 hown hK hP 0 rfl rfl 2 (by decide) (hwd _ kr4_9) (fun _ h9 => h9) rfl dX8_makeRow_1 ?_
  refine lv_iload_n hx hb dX8_makeRow_4 rfl (lv_at hl 1 rfl) ?_
  refine lv_iconst (v := 1) hx hb dX8_makeRow_5 (by decide) ?_
  refine va_zast hx hb hK hP hD hS 3 1 rfl rfl (vin (by decide)) dX8_makeRow_6 (fun H locs hP hD hS => ?_)
  have hP : va_P (dC, dI) vwCl [(h0, .inr (8, [.ref s0, .ref s1, .ref s2, .ref s3])), (s0, .inl (cI, 4, .inl (fun _ => 0))), (s1, .inl (cI, 4, .inl (fun _ => 0))), (s2, .inl (cZ, 4, .inl (upd (fun _ => 0) 2 1))), (s3, .inl (cJ, 240, .inr (.inl (fun _ => 0))))] H := hP
  have hD : va_D A [(h0, .inr (8, [.ref s0, .ref s1, .ref s2, .ref s3])), (s0, .inl (cI, 4, .inl (fun _ => 0))), (s1, .inl (cI, 4, .inl (fun _ => 0))), (s2, .inl (cZ, 4, .inl (upd (fun _ => 0) 2 1))), (s3, .inl (cJ, 240, .inr (.inl (fun _ => 0))))] := hD
  refine lv_aload_n hx hb dX8_makeRow_7 rfl (lv_at hl 0 rfl) ?_
  refine va_get (D := (dC, dI)) (ci := 8) (v := .ref s0) (C := RX8) (T := TX8) (N := 4) hx hb hwd inlX8 hown hK hP 0 rfl rfl 0 (by decide) (hwd _ kr4_7) (fun _ h9 => h9) rfl dX8_makeRow_8 ?_
  refine lv_iload_n hx hb dX8_makeRow_11 rfl (lv_at hl 1 rfl) ?_
  refine lv_iload_n hx hb dX8_makeRow_12 rfl (lv_at hl 2 rfl) ?_
  refine va_iast hx hb hK hP hD hS 1 0 rfl rfl (vin (by decide)) dX8_makeRow_13 (fun H locs hP hD hS => ?_)
  obtain ⟨f1, ef1⟩ : ∃ f, f = upd (fun _ => 0) (2 : Int32).toNatClampNeg p0 := ⟨_, rfl⟩
  have hP : va_P (dC, dI) vwCl [(h0, .inr (8, [.ref s0, .ref s1, .ref s2, .ref s3])), (s0, .inl (cI, 4, .inl f1)), (s1, .inl (cI, 4, .inl (fun _ => 0))), (s2, .inl (cZ, 4, .inl (upd (fun _ => 0) 2 1))), (s3, .inl (cJ, 240, .inr (.inl (fun _ => 0))))] H := by rw [ef1]; exact hP
  have hD : va_D A [(h0, .inr (8, [.ref s0, .ref s1, .ref s2, .ref s3])), (s0, .inl (cI, 4, .inl f1)), (s1, .inl (cI, 4, .inl (fun _ => 0))), (s2, .inl (cZ, 4, .inl (upd (fun _ => 0) 2 1))), (s3, .inl (cJ, 240, .inr (.inl (fun _ => 0))))] := by rw [ef1]; exact hD
  refine lv_aload_n hx hb dX8_makeRow_14 rfl (lv_at hl 0 rfl) ?_
  refine va_get (D := (dC, dI)) (ci := 8) (v := .ref s1) (C := RX8) (T := TX8) (N := 4) hx hb hwd inlX8 hown hK hP 0 rfl rfl 1 (by decide) (hwd _ kr4_8) (fun _ h9 => h9) rfl dX8_makeRow_15 ?_
  refine lv_iload_n hx hb dX8_makeRow_18 rfl (lv_at hl 1 rfl) ?_
  refine lv_iload_n hx hb dX8_makeRow_19 rfl (lv_at hl 3 rfl) ?_
  refine va_iast hx hb hK hP hD hS 2 0 rfl rfl (vin (by decide)) dX8_makeRow_20 (fun H locs hP hD hS => ?_)
  obtain ⟨f2, ef2⟩ : ∃ f, f = upd (fun _ => 0) (2 : Int32).toNatClampNeg p1 := ⟨_, rfl⟩
  have hP : va_P (dC, dI) vwCl [(h0, .inr (8, [.ref s0, .ref s1, .ref s2, .ref s3])), (s0, .inl (cI, 4, .inl f1)), (s1, .inl (cI, 4, .inl f2)), (s2, .inl (cZ, 4, .inl (upd (fun _ => 0) 2 1))), (s3, .inl (cJ, 240, .inr (.inl (fun _ => 0))))] H := by rw [ef2]; exact hP
  have hD : va_D A [(h0, .inr (8, [.ref s0, .ref s1, .ref s2, .ref s3])), (s0, .inl (cI, 4, .inl f1)), (s1, .inl (cI, 4, .inl f2)), (s2, .inl (cZ, 4, .inl (upd (fun _ => 0) 2 1))), (s3, .inl (cJ, 240, .inr (.inl (fun _ => 0))))] := by rw [ef2]; exact hD
  refine lv_iconst (v := 0) hx hb dX8_makeRow_21 (by decide) ?_
  refine lv_istore (lv' := [(4, .int 0), (0, .ref h0), (1, .int 2), (2, .int p0), (3, .int p1)]) hx hb dX8_makeRow_22 hl (by decide) rfl (fun ls hl => ?_)
  have hl0 : lv_has ls 5 [(0, .ref h0), (1, .int 2), (2, .int p0), (3, .int p1), (4, .int (nI 0))] := lv_sub hl [1, 2, 3, 4, 0] rfl
  refine lp_c_X8_makeRow_2 hx hb hown hwd hK (fun H locs ls g hP hD hS hl => ?_) 60 0 (by omega) _ _ ls (fun _ => 0) hP hD hS hl0
  exact W.vret hx hb hr (fun t ht hW => ⟨⟨(), rfl, trivial, trivial⟩, hS.F ht⟩) hS.2.2 dX8_makeRow_50
set_option maxHeartbeats 4000000 in
set_option maxRecDepth 100000 in
theorem lp_c_X8_makeRow_3 {p : Program} {l : Launch} {e : Env} {R : Room} {s : State} {m : MethodId} {args : Array Value} {below : List Frame} {meth : Method} {c : Code} {A : Nat → Prop} {cells slots : Nat} {Q : State → Prop} {dC : Nat → ClassId} {dI : Nat → Nat → Nat} {cI cZ cB cJ cM : ClassId} {h0 s0 s1 s2 s3 : Nat} {p0 p1 : Int32} {f1 : Nat → Int32} {f2 : Nat → Int32} (hx : p.tables.exec = Jvm.exec) (hb : c.code = cX8_makeRow) (hown : s.vm.findClass RX8 = some m.cls) (hwd : ∀ wd ∈ wsL_law, wd.before args s = true) (hK : va_K (dC, dI) vwCl [(cI, .int), (cZ, .boolean), (cB, .byte), (cJ, .long), (cM, .object RX2)] s) (kx : ∀ (H : Heap) (locs : List Loc) (ls : Array Slot) (g : Nat → Int64), va_P (dC, dI) vwCl [(h0, .inr (8, [.ref s0, .ref s1, .ref s2, .ref s3])), (s0, .inl (cI, 4, .inl f1)), (s1, .inl (cI, 4, .inl f2)), (s2, .inl (cZ, 4, .inl (upd (fun _ => 0) 3 1))), (s3, .inl (cJ, 240, .inr (.inl g)))] H → va_D A [(h0, .inr (8, [.ref s0, .ref s1, .ref s2, .ref s3])), (s0, .inl (cI, 4, .inl f1)), (s1, .inl (cI, 4, .inl f2)), (s2, .inl (cZ, 4, .inl (upd (fun _ => 0) 3 1))), (s3, .inl (cJ, 240, .inr (.inl g)))] → va_S A s.heap H locs → lv_has ls 5 [(0, .ref h0), (1, .int 3), (2, .int p0), (3, .int p1), (4, .int (nI 60))] → W p l e R s m args below meth c H locs cells slots Q (F0 m 50 ls [])) : ∀ (d i : Nat), i + d = 60 → ∀ (H : Heap) (locs : List Loc) (ls : Array Slot) (g : Nat → Int64), va_P (dC, dI) vwCl [(h0, .inr (8, [.ref s0, .ref s1, .ref s2, .ref s3])), (s0, .inl (cI, 4, .inl f1)), (s1, .inl (cI, 4, .inl f2)), (s2, .inl (cZ, 4, .inl (upd (fun _ => 0) 3 1))), (s3, .inl (cJ, 240, .inr (.inl g)))] H → va_D A [(h0, .inr (8, [.ref s0, .ref s1, .ref s2, .ref s3])), (s0, .inl (cI, 4, .inl f1)), (s1, .inl (cI, 4, .inl f2)), (s2, .inl (cZ, 4, .inl (upd (fun _ => 0) 3 1))), (s3, .inl (cJ, 240, .inr (.inl g)))] → va_S A s.heap H locs → lv_has ls 5 [(0, .ref h0), (1, .int 3), (2, .int p0), (3, .int p1), (4, .int (nI i))] → W p l e R s m args below meth c H locs cells slots Q (F0 m 24 ls []) := by
  intro d
  induction d with
  | zero =>
    intro i h1 H locs ls g hP hD hS hl
    obtain rfl : i = 60 := by omega
    refine lv_iload hx hb dX8_makeRow_24 (lv_at hl 4 rfl) ?_
    refine lv_bipush (v := 60) hx hb dX8_makeRow_26 (by decide) ?_
    refine lv_icmp_ge (tgt := 50) hx hb dX8_makeRow_28 (by decide) (fun c1 => ?_) (fun c1 => absurd c1 (by decide))
    exact kx H locs ls g hP hD hS hl
  | succ d ih =>
    intro i h1 H locs ls g hP hD hS hl
    have hi : i < 60 := by omega
    refine lv_iload hx hb dX8_makeRow_24 (lv_at hl 4 rfl) ?_
    refine lv_bipush (v := 60) hx hb dX8_makeRow_26 (by decide) ?_
    refine lv_icmp_ge (tgt := 50) hx hb dX8_makeRow_28 (by decide) (fun c1 => absurd c1 (show ¬ nI 60 ≤ nI i from nI_ge hi (by decide))) (fun c1 => ?_)
    refine lv_aload_n hx hb dX8_makeRow_31 rfl (lv_at hl 0 rfl) ?_
    refine va_get (D := (dC, dI)) (ci := 8) (v := .ref s3) (C := RX8) (T := TX8) (N := 4) hx hb hwd inlX8 hown hK hP 0 rfl rfl 3 (by decide) (hwd _ kr4_11) (fun _ h9 => h9) rfl dX8_makeRow_32 ?_
    refine lv_iload_n hx hb dX8_makeRow_35 rfl (lv_at hl 1 rfl) ?_
    refine lv_bipush (v := 60) hx hb dX8_makeRow_36 (by decide) ?_
    refine lv_imul hx hb dX8_makeRow_38 ?_
    refine lv_topi (nm_r (e' := (180)) (by decide +kernel) ?_)
    refine lv_iload hx hb dX8_makeRow_39 (lv_at hl 4 rfl) ?_
    refine lv_iadd hx hb dX8_makeRow_41 ?_
    refine lv_topi (fun x103 ex103 => ?_)
    refine lv_lconst (v := 0) hx hb dX8_makeRow_42 (by decide) ?_
    refine va_last hx hb hK hP hD hS 4 3 rfl rfl (by rw [ex103]; exact (show vp_in (nI 180 + nI i) 240 from vp_base 180 i 240 (by omega) (by decide))) dX8_makeRow_43 (fun H locs hP hD hS => ?_)
    obtain ⟨f104, ef104⟩ : ∃ f, f = vp_updL g x103.toNatClampNeg 0 := ⟨_, rfl⟩
    have hP : va_P (dC, dI) vwCl [(h0, .inr (8, [.ref s0, .ref s1, .ref s2, .ref s3])), (s0, .inl (cI, 4, .inl f1)), (s1, .inl (cI, 4, .inl f2)), (s2, .inl (cZ, 4, .inl (upd (fun _ => 0) 3 1))), (s3, .inl (cJ, 240, .inr (.inl f104)))] H := by rw [ef104]; exact hP
    have hD : va_D A [(h0, .inr (8, [.ref s0, .ref s1, .ref s2, .ref s3])), (s0, .inl (cI, 4, .inl f1)), (s1, .inl (cI, 4, .inl f2)), (s2, .inl (cZ, 4, .inl (upd (fun _ => 0) 3 1))), (s3, .inl (cJ, 240, .inr (.inl f104)))] := by rw [ef104]; exact hD
    refine lv_iinc (v := nI (i + 1)) (lv' := [(4, .int (nI (i + 1))), (0, .ref h0), (1, .int 3), (2, .int p0), (3, .int p1)]) hx hb dX8_makeRow_44 hl (k := 4) rfl (nI_1 i) (by decide) rfl (fun ls hl => ?_)
    refine lv_goto (tgt := 24) hx hb dX8_makeRow_47 (by decide) ?_
    exact ih (i + 1) (by omega) H locs ls f104 hP hD hS (lv_sub hl [1, 2, 3, 4, 0] rfl)
set_option maxHeartbeats 4000000 in
set_option maxRecDepth 100000 in
theorem c_X8_makeRow_3 (l : Launch) (dC : Nat → ClassId) (dI : Nat → Nat → Nat) (cI cZ cB cJ cM : ClassId) (h0 s0 s1 s2 s3 : Nat) (p0 p1 : Int32) (sz : Nat) : Met l yX8_makeRow (kw yX8_makeRow cX8_makeRow 5 none) ({ frames := 0, cells := 0, slots := 0, locals := 0 }) (va_Pc [.ref h0, .int 3, .int p0, .int p1] (kPre dC dI [(cI, .int), (cZ, .boolean), (cB, .byte), (cJ, .long), (cM, .object RX2)] [(h0, .inr (8, [.ref s0, .ref s1, .ref s2, .ref s3])), (s0, .inl (cI, 4, .inl (fun _ => 0))), (s1, .inl (cI, 4, .inl (fun _ => 0))), (s2, .inl (cZ, 4, .inl (fun _ => 0))), (s3, .inl (cJ, 240, .inr (.inl (fun _ => 0))))] sz)) (va_Qv (fun _ : Unit => True) (fun _ _ => True) (va_A [(h0, .inr (8, [.ref s0, .ref s1, .ref s2, .ref s3])), (s0, .inl (cI, 4, .inl (fun _ => 0))), (s1, .inl (cI, 4, .inl (fun _ => 0))), (s2, .inl (cZ, 4, .inl (fun _ => 0))), (s3, .inl (cJ, 240, .inr (.inl (fun _ => 0))))] sz)) 0 0 (va_A [(h0, .inr (8, [.ref s0, .ref s1, .ref s2, .ref s3])), (s0, .inl (cI, 4, .inl (fun _ => 0))), (s1, .inl (cI, 4, .inl (fun _ => 0))), (s2, .inl (cZ, 4, .inl (fun _ => 0))), (s3, .inl (cJ, 240, .inr (.inl (fun _ => 0))))] sz) := by
  refine kEnter (by decide) (Nat.le_of_ble_eq_true rfl) ?_
  intro p e s m below meth c ls hx hb hr hml hown hlocks hin hwd hsz hP hK hD hl
  subst hsz
  generalize hAe : va_A [(h0, .inr (8, [.ref s0, .ref s1, .ref s2, .ref s3])), (s0, .inl (cI, 4, .inl (fun _ => 0))), (s1, .inl (cI, 4, .inl (fun _ => 0))), (s2, .inl (cZ, 4, .inl (fun _ => 0))), (s3, .inl (cJ, 240, .inr (.inl (fun _ => 0))))] s.heap.size = A at hD ⊢
  have hA : ∀ q : Nat, s.heap.size ≤ q → A q := fun q h => by rw [← hAe]; exact Or.inr h
  have hS : va_S A s.heap s.heap [] := va_S.rf
  have hl : lv_has ls 5 [(0, .ref h0), (1, .int 3), (2, .int p0), (3, .int p1)] := hl
  refine lv_aload_n hx hb dX8_makeRow_0 rfl (lv_at hl 0 rfl) ?_
  refine va_get (D := (dC, dI)) (ci := 8) (v := .ref s2) (C := RX8) (T := TX8) (N := 4) hx hb hwd inlX8 hown hK hP 0 rfl rfl 2 (by decide) (hwd _ kr4_9) (fun _ h9 => h9) rfl dX8_makeRow_1 ?_
  refine lv_iload_n hx hb dX8_makeRow_4 rfl (lv_at hl 1 rfl) ?_
  refine lv_iconst (v := 1) hx hb dX8_makeRow_5 (by decide) ?_
  refine va_zast hx hb hK hP hD hS 3 1 rfl rfl (vin (by decide)) dX8_makeRow_6 (fun H locs hP hD hS => ?_)
  have hP : va_P (dC, dI) vwCl [(h0, .inr (8, [.ref s0, .ref s1, .ref s2, .ref s3])), (s0, .inl (cI, 4, .inl (fun _ => 0))), (s1, .inl (cI, 4, .inl (fun _ => 0))), (s2, .inl (cZ, 4, .inl (upd (fun _ => 0) 3 1))), (s3, .inl (cJ, 240, .inr (.inl (fun _ => 0))))] H := hP
  have hD : va_D A [(h0, .inr (8, [.ref s0, .ref s1, .ref s2, .ref s3])), (s0, .inl (cI, 4, .inl (fun _ => 0))), (s1, .inl (cI, 4, .inl (fun _ => 0))), (s2, .inl (cZ, 4, .inl (upd (fun _ => 0) 3 1))), (s3, .inl (cJ, 240, .inr (.inl (fun _ => 0))))] := hD
  refine lv_aload_n hx hb dX8_makeRow_7 rfl (lv_at hl 0 rfl) ?_
  refine va_get (D := (dC, dI)) (ci := 8) (v := .ref s0) (C := RX8) (T := TX8) (N := 4) hx hb hwd inlX8 hown hK hP 0 rfl rfl 0 (by decide) (hwd _ kr4_7) (fun _ h9 => h9) rfl dX8_makeRow_8 ?_
  refine lv_iload_n hx hb dX8_makeRow_11 rfl (lv_at hl 1 rfl) ?_
  refine lv_iload_n hx hb dX8_makeRow_12 rfl (lv_at hl 2 rfl) ?_
  refine va_iast hx hb hK hP hD hS 1 0 rfl rfl (vin (by decide)) dX8_makeRow_13 (fun H locs hP hD hS => ?_)
  obtain ⟨f1, ef1⟩ : ∃ f, f = upd (fun _ => 0) (3 : Int32).toNatClampNeg p0 := ⟨_, rfl⟩
  have hP : va_P (dC, dI) vwCl [(h0, .inr (8, [.ref s0, .ref s1, .ref s2, .ref s3])), (s0, .inl (cI, 4, .inl f1)), (s1, .inl (cI, 4, .inl (fun _ => 0))), (s2, .inl (cZ, 4, .inl (upd (fun _ => 0) 3 1))), (s3, .inl (cJ, 240, .inr (.inl (fun _ => 0))))] H := by rw [ef1]; exact hP
  have hD : va_D A [(h0, .inr (8, [.ref s0, .ref s1, .ref s2, .ref s3])), (s0, .inl (cI, 4, .inl f1)), (s1, .inl (cI, 4, .inl (fun _ => 0))), (s2, .inl (cZ, 4, .inl (upd (fun _ => 0) 3 1))), (s3, .inl (cJ, 240, .inr (.inl (fun _ => 0))))] := by rw [ef1]; exact hD
  refine lv_aload_n hx hb dX8_makeRow_14 rfl (lv_at hl 0 rfl) ?_
  refine va_get (D := (dC, dI)) (ci := 8) (v := .ref s1) (C := RX8) (T := TX8) (N := 4) hx hb hwd inlX8 hown hK hP 0 rfl rfl 1 (by decide) (hwd _ kr4_8) (fun _ h9 => h9) rfl dX8_makeRow_15 ?_
  refine lv_iload_n hx hb dX8_makeRow_18 rfl (lv_at hl 1 rfl) ?_
  refine lv_iload_n hx hb dX8_makeRow_19 rfl (lv_at hl 3 rfl) ?_
  refine va_iast hx hb hK hP hD hS 2 0 rfl rfl (vin (by decide)) dX8_makeRow_20 (fun H locs hP hD hS => ?_)
  obtain ⟨f2, ef2⟩ : ∃ f, f = upd (fun _ => 0) (3 : Int32).toNatClampNeg p1 := ⟨_, rfl⟩
  have hP : va_P (dC, dI) vwCl [(h0, .inr (8, [.ref s0, .ref s1, .ref s2, .ref s3])), (s0, .inl (cI, 4, .inl f1)), (s1, .inl (cI, 4, .inl f2)), (s2, .inl (cZ, 4, .inl (upd (fun _ => 0) 3 1))), (s3, .inl (cJ, 240, .inr (.inl (fun _ => 0))))] H := by rw [ef2]; exact hP
  have hD : va_D A [(h0, .inr (8, [.ref s0, .ref s1, .ref s2, .ref s3])), (s0, .inl (cI, 4, .inl f1)), (s1, .inl (cI, 4, .inl f2)), (s2, .inl (cZ, 4, .inl (upd (fun _ => 0) 3 1))), (s3, .inl (cJ, 240, .inr (.inl (fun _ => 0))))] := by rw [ef2]; exact hD
  refine lv_iconst (v := 0) hx hb dX8_makeRow_21 (by decide) ?_
  refine lv_istore (lv' := [(4, .int 0), (0, .ref h0), (1, .int 3), (2, .int p0), (3, .int p1)]) hx hb dX8_makeRow_22 hl (by decide) rfl (fun ls hl => ?_)
  have hl0 : lv_has ls 5 [(0, .ref h0), (1, .int 3), (2, .int p0), (3, .int p1), (4, .int (nI 0))] := lv_sub hl [1, 2, 3, 4, 0] rfl
  refine lp_c_X8_makeRow_3 hx hb hown hwd hK (fun H locs ls g hP hD hS hl => ?_) 60 0 (by omega) _ _ ls (fun _ => 0) hP hD hS hl0
  exact W.vret hx hb hr (fun t ht hW => ⟨⟨(), rfl, trivial, trivial⟩, hS.F ht⟩) hS.2.2 dX8_makeRow_50
end
