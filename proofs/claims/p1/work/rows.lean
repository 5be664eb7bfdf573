section
-- ===== PART A: goes FIRST, ahead of the names: the tables' words, and 'selects' of the private methods out of them =====
/-- a private method of a class that the tables say can be made, by its rows of tables_1 -/
def lw_okq (q : MethodName × Nat) : Prop := (q.1.cls ≠ "java/lang/invoke/MethodHandle" ∧ q.1.cls ≠ "java/lang/invoke/VarHandle") ∧ Cond.instantiable q.1.cls q.2 ∈ tables_1 ∧ Cond.privateMethod q.1 ∈ tables_1 ∧ Cond.instanceMethod q.1 ∈ tables_1
theorem lw_p0 : lw_okq (⟨"WireLoom$Text", "takeCode", "(I)V"⟩, 5) := ⟨⟨by decide +kernel, by decide +kernel⟩, List.mem_of_getElem? (i := 126) (by decide +kernel), List.mem_of_getElem? (i := 208) (by decide +kernel), List.mem_of_getElem? (i := 209) (by decide +kernel)⟩
theorem lw_p1 : lw_okq (⟨"WireLoom", "changesOfProgramAt", "(I)I"⟩, 7) := ⟨⟨by decide +kernel, by decide +kernel⟩, List.mem_of_getElem? (i := 17) (by decide +kernel), List.mem_of_getElem? (i := 224) (by decide +kernel), List.mem_of_getElem? (i := 225) (by decide +kernel)⟩
theorem lw_p2 : lw_okq (⟨"WireLoom", "pairsTellingTheSame", "()I"⟩, 7) := ⟨⟨by decide +kernel, by decide +kernel⟩, List.mem_of_getElem? (i := 17) (by decide +kernel), List.mem_of_getElem? (i := 311) (by decide +kernel), List.mem_of_getElem? (i := 312) (by decide +kernel)⟩
theorem lw_p3 : lw_okq (⟨"java/lang/Throwable", "fillInStackTrace", "(I)Ljava/lang/Throwable;"⟩, 6) := ⟨⟨by decide +kernel, by decide +kernel⟩, List.mem_of_getElem? (i := 364) (by decide +kernel), List.mem_of_getElem? (i := 362) (by decide +kernel), List.mem_of_getElem? (i := 363) (by decide +kernel)⟩
theorem lw_p4 : lw_okq (⟨"WireLoom", "digestThreads", "(J)J"⟩, 7) := ⟨⟨by decide +kernel, by decide +kernel⟩, List.mem_of_getElem? (i := 17) (by decide +kernel), List.mem_of_getElem? (i := 394) (by decide +kernel), List.mem_of_getElem? (i := 395) (by decide +kernel)⟩
theorem lw_p5 : lw_okq (⟨"WireLoom", "digestRings", "(J)J"⟩, 7) := ⟨⟨by decide +kernel, by decide +kernel⟩, List.mem_of_getElem? (i := 17) (by decide +kernel), List.mem_of_getElem? (i := 430) (by decide +kernel), List.mem_of_getElem? (i := 431) (by decide +kernel)⟩
theorem lw_p6 : lw_okq (⟨"WireLoom", "digestMachine", "(J)J"⟩, 7) := ⟨⟨by decide +kernel, by decide +kernel⟩, List.mem_of_getElem? (i := 17) (by decide +kernel), List.mem_of_getElem? (i := 463) (by decide +kernel), List.mem_of_getElem? (i := 464) (by decide +kernel)⟩
theorem lw_p7 : lw_okq (⟨"WireLoom$Machine", "tellCount", "()V"⟩, 7) := ⟨⟨by decide +kernel, by decide +kernel⟩, List.mem_of_getElem? (i := 31) (by decide +kernel), List.mem_of_getElem? (i := 494) (by decide +kernel), List.mem_of_getElem? (i := 495) (by decide +kernel)⟩
theorem lw_p8 : lw_okq (⟨"WireLoom", "digestBuffer", "(J)J"⟩, 7) := ⟨⟨by decide +kernel, by decide +kernel⟩, List.mem_of_getElem? (i := 17) (by decide +kernel), List.mem_of_getElem? (i := 507) (by decide +kernel), List.mem_of_getElem? (i := 508) (by decide +kernel)⟩
theorem lw_p9 : lw_okq (⟨"WireLoomModel", "holds", "(I)Z"⟩, 10) := ⟨⟨by decide +kernel, by decide +kernel⟩, List.mem_of_getElem? (i := 713) (by decide +kernel), List.mem_of_getElem? (i := 767) (by decide +kernel), List.mem_of_getElem? (i := 768) (by decide +kernel)⟩
theorem lw_p10 : lw_okq (⟨"WireLoomModel", "save", "()V"⟩, 10) := ⟨⟨by decide +kernel, by decide +kernel⟩, List.mem_of_getElem? (i := 713) (by decide +kernel), List.mem_of_getElem? (i := 771) (by decide +kernel), List.mem_of_getElem? (i := 772) (by decide +kernel)⟩
theorem lw_p11 : lw_okq (⟨"WireLoomModel", "copies", "(II)V"⟩, 10) := ⟨⟨by decide +kernel, by decide +kernel⟩, List.mem_of_getElem? (i := 713) (by decide +kernel), List.mem_of_getElem? (i := 775) (by decide +kernel), List.mem_of_getElem? (i := 776) (by decide +kernel)⟩
theorem lw_p12 : lw_okq (⟨"WireLoomModel", "wears", "(III)V"⟩, 10) := ⟨⟨by decide +kernel, by decide +kernel⟩, List.mem_of_getElem? (i := 713) (by decide +kernel), List.mem_of_getElem? (i := 779) (by decide +kernel), List.mem_of_getElem? (i := 780) (by decide +kernel)⟩
theorem lw_p13 : lw_okq (⟨"WireLoomModel", "lays", "(III)I"⟩, 10) := ⟨⟨by decide +kernel, by decide +kernel⟩, List.mem_of_getElem? (i := 713) (by decide +kernel), List.mem_of_getElem? (i := 787) (by decide +kernel), List.mem_of_getElem? (i := 788) (by decide +kernel)⟩
theorem lw_p14 : lw_okq (⟨"WireLoomModel", "turned", "(II)I"⟩, 10) := ⟨⟨by decide +kernel, by decide +kernel⟩, List.mem_of_getElem? (i := 713) (by decide +kernel), List.mem_of_getElem? (i := 791) (by decide +kernel), List.mem_of_getElem? (i := 792) (by decide +kernel)⟩
theorem lw_p15 : lw_okq (⟨"WireLoomModel", "threadsOf", "(I)I"⟩, 10) := ⟨⟨by decide +kernel, by decide +kernel⟩, List.mem_of_getElem? (i := 713) (by decide +kernel), List.mem_of_getElem? (i := 809) (by decide +kernel), List.mem_of_getElem? (i := 810) (by decide +kernel)⟩
def lw_privs_1 : List (MethodName × Nat) := [(⟨"WireLoom$Text", "takeCode", "(I)V"⟩, 5), (⟨"WireLoom", "changesOfProgramAt", "(I)I"⟩, 7), (⟨"WireLoom", "pairsTellingTheSame", "()I"⟩, 7), (⟨"java/lang/Throwable", "fillInStackTrace", "(I)Ljava/lang/Throwable;"⟩, 6), (⟨"WireLoom", "digestThreads", "(J)J"⟩, 7), (⟨"WireLoom", "digestRings", "(J)J"⟩, 7), (⟨"WireLoom", "digestMachine", "(J)J"⟩, 7), (⟨"WireLoom$Machine", "tellCount", "()V"⟩, 7), (⟨"WireLoom", "digestBuffer", "(J)J"⟩, 7), (⟨"WireLoomModel", "holds", "(I)Z"⟩, 10), (⟨"WireLoomModel", "save", "()V"⟩, 10), (⟨"WireLoomModel", "copies", "(II)V"⟩, 10), (⟨"WireLoomModel", "wears", "(III)V"⟩, 10), (⟨"WireLoomModel", "lays", "(III)I"⟩, 10), (⟨"WireLoomModel", "turned", "(II)I"⟩, 10), (⟨"WireLoomModel", "threadsOf", "(I)I"⟩, 10)]
theorem lw_r1 : ∀ q ∈ lw_privs_1, lw_okq q := List.forall_mem_cons.mpr ⟨lw_p0, List.forall_mem_cons.mpr ⟨lw_p1, List.forall_mem_cons.mpr ⟨lw_p2, List.forall_mem_cons.mpr ⟨lw_p3, List.forall_mem_cons.mpr ⟨lw_p4, List.forall_mem_cons.mpr ⟨lw_p5, List.forall_mem_cons.mpr ⟨lw_p6, List.forall_mem_cons.mpr ⟨lw_p7, List.forall_mem_cons.mpr ⟨lw_p8, List.forall_mem_cons.mpr ⟨lw_p9, List.forall_mem_cons.mpr ⟨lw_p10, List.forall_mem_cons.mpr ⟨lw_p11, List.forall_mem_cons.mpr ⟨lw_p12, List.forall_mem_cons.mpr ⟨lw_p13, List.forall_mem_cons.mpr ⟨lw_p14, List.forall_mem_cons.mpr ⟨lw_p15, fun _ h => absurd h List.not_mem_nil⟩⟩⟩⟩⟩⟩⟩⟩⟩⟩⟩⟩⟩⟩⟩⟩
theorem lw_p16 : lw_okq (⟨"WireLoomModel", "reads", "(II)I"⟩, 10) := ⟨⟨by decide +kernel, by decide +kernel⟩, List.mem_of_getElem? (i := 713) (by decide +kernel), List.mem_of_getElem? (i := 821) (by decide +kernel), List.mem_of_getElem? (i := 822) (by decide +kernel)⟩
theorem lw_p17 : lw_okq (⟨"WireLoomModel", "wordOf", "(II)I"⟩, 10) := ⟨⟨by decide +kernel, by decide +kernel⟩, List.mem_of_getElem? (i := 713) (by decide +kernel), List.mem_of_getElem? (i := 825) (by decide +kernel), List.mem_of_getElem? (i := 826) (by decide +kernel)⟩
theorem lw_p18 : lw_okq (⟨"WireLoomModel", "answers", "(II)I"⟩, 10) := ⟨⟨by decide +kernel, by decide +kernel⟩, List.mem_of_getElem? (i := 713) (by decide +kernel), List.mem_of_getElem? (i := 829) (by decide +kernel), List.mem_of_getElem? (i := 830) (by decide +kernel)⟩
theorem lw_p19 : lw_okq (⟨"WireLoomModel", "strengthIn", "(III)I"⟩, 10) := ⟨⟨by decide +kernel, by decide +kernel⟩, List.mem_of_getElem? (i := 713) (by decide +kernel), List.mem_of_getElem? (i := 833) (by decide +kernel), List.mem_of_getElem? (i := 834) (by decide +kernel)⟩
theorem lw_p20 : lw_okq (⟨"WireLoomModel", "hopsTo", "(III)I"⟩, 10) := ⟨⟨by decide +kernel, by decide +kernel⟩, List.mem_of_getElem? (i := 713) (by decide +kernel), List.mem_of_getElem? (i := 837) (by decide +kernel), List.mem_of_getElem? (i := 838) (by decide +kernel)⟩
theorem lw_p21 : lw_okq (⟨"WireLoomModel", "reached", "(III)I"⟩, 10) := ⟨⟨by decide +kernel, by decide +kernel⟩, List.mem_of_getElem? (i := 713) (by decide +kernel), List.mem_of_getElem? (i := 841) (by decide +kernel), List.mem_of_getElem? (i := 842) (by decide +kernel)⟩
theorem lw_p22 : lw_okq (⟨"WireLoomModel", "goes", "(II)I"⟩, 10) := ⟨⟨by decide +kernel, by decide +kernel⟩, List.mem_of_getElem? (i := 713) (by decide +kernel), List.mem_of_getElem? (i := 853) (by decide +kernel), List.mem_of_getElem? (i := 854) (by decide +kernel)⟩
theorem lw_p23 : lw_okq (⟨"WireLoomModel", "steps", "(I)V"⟩, 10) := ⟨⟨by decide +kernel, by decide +kernel⟩, List.mem_of_getElem? (i := 713) (by decide +kernel), List.mem_of_getElem? (i := 857) (by decide +kernel), List.mem_of_getElem? (i := 858) (by decide +kernel)⟩
theorem lw_p24 : lw_okq (⟨"WireLoomModel", "tells", "(I)V"⟩, 10) := ⟨⟨by decide +kernel, by decide +kernel⟩, List.mem_of_getElem? (i := 713) (by decide +kernel), List.mem_of_getElem? (i := 861) (by decide +kernel), List.mem_of_getElem? (i := 862) (by decide +kernel)⟩
theorem lw_p25 : lw_okq (⟨"WireLoomModel", "isProgram", "()Z"⟩, 10) := ⟨⟨by decide +kernel, by decide +kernel⟩, List.mem_of_getElem? (i := 713) (by decide +kernel), List.mem_of_getElem? (i := 877) (by decide +kernel), List.mem_of_getElem? (i := 878) (by decide +kernel)⟩
theorem lw_p26 : lw_okq (⟨"WireLoomModel", "isWord", "()Z"⟩, 10) := ⟨⟨by decide +kernel, by decide +kernel⟩, List.mem_of_getElem? (i := 713) (by decide +kernel), List.mem_of_getElem? (i := 881) (by decide +kernel), List.mem_of_getElem? (i := 882) (by decide +kernel)⟩
theorem lw_p27 : lw_okq (⟨"WireLoomModel", "digit", "()I"⟩, 10) := ⟨⟨by decide +kernel, by decide +kernel⟩, List.mem_of_getElem? (i := 713) (by decide +kernel), List.mem_of_getElem? (i := 885) (by decide +kernel), List.mem_of_getElem? (i := 886) (by decide +kernel)⟩
theorem lw_p28 : lw_okq (⟨"WireLoomModel", "loads", "(II)I"⟩, 10) := ⟨⟨by decide +kernel, by decide +kernel⟩, List.mem_of_getElem? (i := 713) (by decide +kernel), List.mem_of_getElem? (i := 893) (by decide +kernel), List.mem_of_getElem? (i := 894) (by decide +kernel)⟩
theorem lw_p29 : lw_okq (⟨"WireLoomModel", "crossings", "(I)I"⟩, 10) := ⟨⟨by decide +kernel, by decide +kernel⟩, List.mem_of_getElem? (i := 713) (by decide +kernel), List.mem_of_getElem? (i := 908) (by decide +kernel), List.mem_of_getElem? (i := 909) (by decide +kernel)⟩
theorem lw_p30 : lw_okq (⟨"WireLoomModel", "ofThread", "(II)I"⟩, 10) := ⟨⟨by decide +kernel, by decide +kernel⟩, List.mem_of_getElem? (i := 713) (by decide +kernel), List.mem_of_getElem? (i := 924) (by decide +kernel), List.mem_of_getElem? (i := 925) (by decide +kernel)⟩
theorem lw_p31 : lw_okq (⟨"WireLoomModel", "meant", "(II)I"⟩, 10) := ⟨⟨by decide +kernel, by decide +kernel⟩, List.mem_of_getElem? (i := 713) (by decide +kernel), List.mem_of_getElem? (i := 928) (by decide +kernel), List.mem_of_getElem? (i := 929) (by decide +kernel)⟩
def lw_privs_2 : List (MethodName × Nat) := [(⟨"WireLoomModel", "reads", "(II)I"⟩, 10), (⟨"WireLoomModel", "wordOf", "(II)I"⟩, 10), (⟨"WireLoomModel", "answers", "(II)I"⟩, 10), (⟨"WireLoomModel", "strengthIn", "(III)I"⟩, 10), (⟨"WireLoomModel", "hopsTo", "(III)I"⟩, 10), (⟨"WireLoomModel", "reached", "(III)I"⟩, 10), (⟨"WireLoomModel", "goes", "(II)I"⟩, 10), (⟨"WireLoomModel", "steps", "(I)V"⟩, 10), (⟨"WireLoomModel", "tells", "(I)V"⟩, 10), (⟨"WireLoomModel", "isProgram", "()Z"⟩, 10), (⟨"WireLoomModel", "isWord", "()Z"⟩, 10), (⟨"WireLoomModel", "digit", "()I"⟩, 10), (⟨"WireLoomModel", "loads", "(II)I"⟩, 10), (⟨"WireLoomModel", "crossings", "(I)I"⟩, 10), (⟨"WireLoomModel", "ofThread", "(II)I"⟩, 10), (⟨"WireLoomModel", "meant", "(II)I"⟩, 10)]
theorem lw_r2 : ∀ q ∈ lw_privs_2, lw_okq q := List.forall_mem_cons.mpr ⟨lw_p16, List.forall_mem_cons.mpr ⟨lw_p17, List.forall_mem_cons.mpr ⟨lw_p18, List.forall_mem_cons.mpr ⟨lw_p19, List.forall_mem_cons.mpr ⟨lw_p20, List.forall_mem_cons.mpr ⟨lw_p21, List.forall_mem_cons.mpr ⟨lw_p22, List.forall_mem_cons.mpr ⟨lw_p23, List.forall_mem_cons.mpr ⟨lw_p24, List.forall_mem_cons.mpr ⟨lw_p25, List.forall_mem_cons.mpr ⟨lw_p26, List.forall_mem_cons.mpr ⟨lw_p27, List.forall_mem_cons.mpr ⟨lw_p28, List.forall_mem_cons.mpr ⟨lw_p29, List.forall_mem_cons.mpr ⟨lw_p30, List.forall_mem_cons.mpr ⟨lw_p31, fun _ h => absurd h List.not_mem_nil⟩⟩⟩⟩⟩⟩⟩⟩⟩⟩⟩⟩⟩⟩⟩⟩
theorem lw_p32 : lw_okq (⟨"WireLoomModel", "ofRing", "(II)I"⟩, 10) := ⟨⟨by decide +kernel, by decide +kernel⟩, List.mem_of_getElem? (i := 713) (by decide +kernel), List.mem_of_getElem? (i := 936) (by decide +kernel), List.mem_of_getElem? (i := 937) (by decide +kernel)⟩
theorem lw_p33 : lw_okq (⟨"WireLoomModel", "makers", "(I)I"⟩, 10) := ⟨⟨by decide +kernel, by decide +kernel⟩, List.mem_of_getElem? (i := 713) (by decide +kernel), List.mem_of_getElem? (i := 940) (by decide +kernel), List.mem_of_getElem? (i := 941) (by decide +kernel)⟩
theorem lw_p34 : lw_okq (⟨"WireLoomModel", "ofMachine", "(I)I"⟩, 10) := ⟨⟨by decide +kernel, by decide +kernel⟩, List.mem_of_getElem? (i := 713) (by decide +kernel), List.mem_of_getElem? (i := 952) (by decide +kernel), List.mem_of_getElem? (i := 953) (by decide +kernel)⟩
theorem lw_p35 : lw_okq (⟨"WireLoomModel", "toldAgo", "(I)I"⟩, 10) := ⟨⟨by decide +kernel, by decide +kernel⟩, List.mem_of_getElem? (i := 713) (by decide +kernel), List.mem_of_getElem? (i := 960) (by decide +kernel), List.mem_of_getElem? (i := 961) (by decide +kernel)⟩
theorem lw_p36 : lw_okq (⟨"WireLoomModel", "counted", "(I)I"⟩, 10) := ⟨⟨by decide +kernel, by decide +kernel⟩, List.mem_of_getElem? (i := 713) (by decide +kernel), List.mem_of_getElem? (i := 968) (by decide +kernel), List.mem_of_getElem? (i := 969) (by decide +kernel)⟩
theorem lw_p37 : lw_okq (⟨"WireLoomModel", "byRings", "()I"⟩, 10) := ⟨⟨by decide +kernel, by decide +kernel⟩, List.mem_of_getElem? (i := 713) (by decide +kernel), List.mem_of_getElem? (i := 972) (by decide +kernel), List.mem_of_getElem? (i := 973) (by decide +kernel)⟩
theorem lw_p38 : lw_okq (⟨"WireLoomModel", "right", "(I)I"⟩, 10) := ⟨⟨by decide +kernel, by decide +kernel⟩, List.mem_of_getElem? (i := 713) (by decide +kernel), List.mem_of_getElem? (i := 976) (by decide +kernel), List.mem_of_getElem? (i := 977) (by decide +kernel)⟩
theorem lw_p39 : lw_okq (⟨"WireLoomModel", "greatestWear", "()I"⟩, 10) := ⟨⟨by decide +kernel, by decide +kernel⟩, List.mem_of_getElem? (i := 713) (by decide +kernel), List.mem_of_getElem? (i := 980) (by decide +kernel), List.mem_of_getElem? (i := 981) (by decide +kernel)⟩
theorem lw_p40 : lw_okq (⟨"WireLoomModel", "pairs", "(Z)I"⟩, 10) := ⟨⟨by decide +kernel, by decide +kernel⟩, List.mem_of_getElem? (i := 713) (by decide +kernel), List.mem_of_getElem? (i := 984) (by decide +kernel), List.mem_of_getElem? (i := 985) (by decide +kernel)⟩
theorem lw_p41 : lw_okq (⟨"WireLoomModel", "wouldLoad", "(I)I"⟩, 10) := ⟨⟨by decide +kernel, by decide +kernel⟩, List.mem_of_getElem? (i := 713) (by decide +kernel), List.mem_of_getElem? (i := 996) (by decide +kernel), List.mem_of_getElem? (i := 997) (by decide +kernel)⟩
theorem lw_p42 : lw_okq (⟨"WireLoomModel", "placeFound", "()I"⟩, 10) := ⟨⟨by decide +kernel, by decide +kernel⟩, List.mem_of_getElem? (i := 713) (by decide +kernel), List.mem_of_getElem? (i := 1004) (by decide +kernel), List.mem_of_getElem? (i := 1005) (by decide +kernel)⟩
theorem lw_p43 : lw_okq (⟨"WireLoomModel", "guardFound", "()I"⟩, 10) := ⟨⟨by decide +kernel, by decide +kernel⟩, List.mem_of_getElem? (i := 713) (by decide +kernel), List.mem_of_getElem? (i := 1012) (by decide +kernel), List.mem_of_getElem? (i := 1013) (by decide +kernel)⟩
theorem lw_p44 : lw_okq (⟨"WireLoomModel", "readingsLeft", "(I)I"⟩, 10) := ⟨⟨by decide +kernel, by decide +kernel⟩, List.mem_of_getElem? (i := 713) (by decide +kernel), List.mem_of_getElem? (i := 1020) (by decide +kernel), List.mem_of_getElem? (i := 1021) (by decide +kernel)⟩
theorem lw_p45 : lw_okq (⟨"WireLoomModel", "gone", "(II)I"⟩, 10) := ⟨⟨by decide +kernel, by decide +kernel⟩, List.mem_of_getElem? (i := 713) (by decide +kernel), List.mem_of_getElem? (i := 1028) (by decide +kernel), List.mem_of_getElem? (i := 1029) (by decide +kernel)⟩
theorem lw_p46 : lw_okq (⟨"WireLoomModel", "share", "()D"⟩, 10) := ⟨⟨by decide +kernel, by decide +kernel⟩, List.mem_of_getElem? (i := 713) (by decide +kernel), List.mem_of_getElem? (i := 1036) (by decide +kernel), List.mem_of_getElem? (i := 1037) (by decide +kernel)⟩
theorem lw_p47 : lw_okq (⟨"WireLoomModel", "mean", "()F"⟩, 10) := ⟨⟨by decide +kernel, by decide +kernel⟩, List.mem_of_getElem? (i := 713) (by decide +kernel), List.mem_of_getElem? (i := 1045) (by decide +kernel), List.mem_of_getElem? (i := 1046) (by decide +kernel)⟩
def lw_privs_3 : List (MethodName × Nat) := [(⟨"WireLoomModel", "ofRing", "(II)I"⟩, 10), (⟨"WireLoomModel", "makers", "(I)I"⟩, 10), (⟨"WireLoomModel", "ofMachine", "(I)I"⟩, 10), (⟨"WireLoomModel", "toldAgo", "(I)I"⟩, 10), (⟨"WireLoomModel", "counted", "(I)I"⟩, 10), (⟨"WireLoomModel", "byRings", "()I"⟩, 10), (⟨"WireLoomModel", "right", "(I)I"⟩, 10), (⟨"WireLoomModel", "greatestWear", "()I"⟩, 10), (⟨"WireLoomModel", "pairs", "(Z)I"⟩, 10), (⟨"WireLoomModel", "wouldLoad", "(I)I"⟩, 10), (⟨"WireLoomModel", "placeFound", "()I"⟩, 10), (⟨"WireLoomModel", "guardFound", "()I"⟩, 10), (⟨"WireLoomModel", "readingsLeft", "(I)I"⟩, 10), (⟨"WireLoomModel", "gone", "(II)I"⟩, 10), (⟨"WireLoomModel", "share", "()D"⟩, 10), (⟨"WireLoomModel", "mean", "()F"⟩, 10)]
theorem lw_r3 : ∀ q ∈ lw_privs_3, lw_okq q := List.forall_mem_cons.mpr ⟨lw_p32, List.forall_mem_cons.mpr ⟨lw_p33, List.forall_mem_cons.mpr ⟨lw_p34, List.forall_mem_cons.mpr ⟨lw_p35, List.forall_mem_cons.mpr ⟨lw_p36, List.forall_mem_cons.mpr ⟨lw_p37, List.forall_mem_cons.mpr ⟨lw_p38, List.forall_mem_cons.mpr ⟨lw_p39, List.forall_mem_cons.mpr ⟨lw_p40, List.forall_mem_cons.mpr ⟨lw_p41, List.forall_mem_cons.mpr ⟨lw_p42, List.forall_mem_cons.mpr ⟨lw_p43, List.forall_mem_cons.mpr ⟨lw_p44, List.forall_mem_cons.mpr ⟨lw_p45, List.forall_mem_cons.mpr ⟨lw_p46, List.forall_mem_cons.mpr ⟨lw_p47, fun _ h => absurd h List.not_mem_nil⟩⟩⟩⟩⟩⟩⟩⟩⟩⟩⟩⟩⟩⟩⟩⟩
theorem lw_p48 : lw_okq (⟨"WireLoomModel", "mix", "(J)V"⟩, 10) := ⟨⟨by decide +kernel, by decide +kernel⟩, List.mem_of_getElem? (i := 713) (by decide +kernel), List.mem_of_getElem? (i := 1055) (by decide +kernel), List.mem_of_getElem? (i := 1056) (by decide +kernel)⟩
theorem lw_p49 : lw_okq (⟨"WireLoomModel", "mixThreads", "()V"⟩, 10) := ⟨⟨by decide +kernel, by decide +kernel⟩, List.mem_of_getElem? (i := 713) (by decide +kernel), List.mem_of_getElem? (i := 1060) (by decide +kernel), List.mem_of_getElem? (i := 1061) (by decide +kernel)⟩
def lw_privs_4 : List (MethodName × Nat) := [(⟨"WireLoomModel", "mix", "(J)V"⟩, 10), (⟨"WireLoomModel", "mixThreads", "()V"⟩, 10)]
theorem lw_r4 : ∀ q ∈ lw_privs_4, lw_okq q := List.forall_mem_cons.mpr ⟨lw_p48, List.forall_mem_cons.mpr ⟨lw_p49, fun _ h => absurd h List.not_mem_nil⟩⟩
def lw_privs : List (MethodName × Nat) := lw_privs_1 ++ (lw_privs_2 ++ (lw_privs_3 ++ (lw_privs_4)))
def lw_tbl : List Cond := k2_sels lw_privs ++ tables_1
theorem lw_privs_ok : ∀ q ∈ lw_privs, lw_okq q := by
  show ∀ q ∈ lw_privs_1 ++ (lw_privs_2 ++ (lw_privs_3 ++ (lw_privs_4))), lw_okq q
  exact List.forall_mem_append.mpr ⟨lw_r1, List.forall_mem_append.mpr ⟨lw_r2, List.forall_mem_append.mpr ⟨lw_r3, lw_r4⟩⟩⟩
/-- the streams that the claim lets the run draw from -/
abbrev lw_cs : List Choice := [Jvm.Choice.named "NaN.bits"]
theorem lw_bits : nanBits ∈ lw_cs := by first | decide | exact List.mem_cons_self | simp [lw_cs, nanBits]
-- ===== end of PART A; then your names; then what follows =====
end
section
/-! ===== BEGIN words of one list among another's, by their places ===== -/
theorem goodIn_r {big : List Cond} (ws : List Cond) (ps : List Nat) (hp : ws = ps.filterMap (fun i => big[i]?)) (h : ws.all goodWord = true) : GoodIn big ws := by
  intro w hw
  have h1 := List.all_eq_true.mp h w hw
  rw [hp] at hw
  obtain ⟨i, -, hi⟩ := List.mem_filterMap.mp hw
  have hm : w ∈ big := by first | exact List.mem_of_getElem? hi | exact List.getElem?_mem hi
  exact ⟨hm, good_of_word h1⟩
theorem goodIn_app {big a b : List Cond} (ha : GoodIn big a) (hb : GoodIn big b) : GoodIn big (a ++ b) := fun w h => (List.mem_append.mp h).elim (ha w) (hb w)
theorem goodIn_ca {big a b : List Cond} {c : Cond} (ha : GoodIn big (c :: a)) (hb : GoodIn big b) : GoodIn big (c :: (a ++ b)) := fun w h => (List.mem_cons.mp h).elim (fun e => ha w (List.mem_cons.mpr (Or.inl e))) (fun h => (List.mem_append.mp h).elim (fun h => ha w (List.mem_cons.mpr (Or.inr h))) (hb w))
theorem goodIn_sub {big ws : List Cond} (hm : ∀ w ∈ ws, w ∈ big) (h : ws.all goodWord = true) : GoodIn big ws := fun w hw => ⟨hm w hw, good_of_word (List.all_eq_true.mp h w hw)⟩
/-! ===== END ===== -/

/-! ===== BEGIN exceptions that leave a method, and their catching by the caller (launches without stack traces) ===== -/
section VXA
/-! The laws vx_back, vx_callV, vx_callS, vx_callSW, vx_throw0, vx_throwS follow proofs of the library, with one case more: JvmDerived/Free/Laws.lean (Back.of_free), Shelf42/LK1.lean (callV, callS), Shelf/KitTraced.lean (throwNew0V, throwNewS). -/
/-- where a method has thrown q: the class by its name, the cell, what was written, the world -/
def vx_T (XC : String → State → State → Prop) (st : State) (q : Addr) (t : State) (mc ms : Nat) (free : Addr → Prop) : Prop :=
  ∃ (E : String) (ce : Cell) (L : List Loc), XC E st t ∧ t.heap[q]? = some ce ∧ ce.vm = .none ∧ st.vm.findClass E = some ce.cls ∧ st.WarmedH t.vm ∧ st.sameButNew ({ t with vm := st.vm } : State) L mc ms ∧ ∀ z ∈ L, free z.base
def vx_Q (Qc : Array Value → State → Outcome → State → Prop) (XC : String → State → State → Prop) (mc ms : Nat) (free : Addr → Prop) : Array Value → State → Outcome → State → Prop := fun a st o t =>
  (Qc a st o t ∧ ∃ L, FrameEnd st o t L mc ms ∧ ∀ q ∈ L, free q.base) ∨ ∃ q, o = .threw q ∧ vx_T XC st q t mc ms free
/-- a callee that returns or throws -/
def vx_Met (l : Launch) (y : MethodName) (ws : List Cond) (rm : Room) (Pc : Array Value → State → Prop) (Qc : Array Value → State → Outcome → State → Prop) (XC : String → State → State → Prop) (mc ms : Nat) (free : Addr → Prop) : Prop :=
  MetFree l y (headSpec ws rm) Pc (fun _ _ _ _ _ => True) (vx_Q Qc XC mc ms free)
def vx_Post (XC : String → State → State → Prop) (mc ms : Nat) (free : Addr → Prop) : Pt → Array Value → Addr → Pt → Prop := fun A a q B =>
  ∃ (g : JFrame) (mk : MethodId) (t : State) (L : List Loc) (E : String) (ce : Cell), B.U.heap = t.heap ∧ B.U.vm = t.vm ∧ XC E (A.U.calling g mk a) t ∧ t.heap[q]? = some ce ∧ ce.vm = .none ∧ A.U.vm.findClass E = some ce.cls ∧ B.locs = A.locs ++ L ∧ (∀ z ∈ L, free z.base) ∧ B.cells = A.cells + mc ∧ B.slots = A.slots + ms
def vx_Back (l : Launch) (R : Room) (p : Program) (e : Env) (below : List Frame) (s : State) (sargs : Array Value) (y : MethodName) (len W9 : Nat)
    (Pre : Pt → Array Value → Prop) (Post : Pt → Array Value → Option Value → Pt → Prop) (PostX : Pt → Array Value → Addr → Pt → Prop) : Prop :=
  ∀ (m : MethodId) (meth : Method) (c : Code) (A : Pt) (g : JFrame) (ig : Instr) (mk : MethodId) (a : Array Value),
    Stand p l e R s m sargs below meth c A.U A.locs A.cells A.slots → g.method = m → g.locals.size = c.maxLocals → decode c.code g.pc = .ok (ig, len) →
    2 * g.monitorRoom + (g.stack.map fun v => v.category).sum ≤ W9 → A.U.methodNamed? y = some mk → Pre A a →
    (∃ (v : Option Value) (B : Pt), Stand p l e R s m sargs below meth c B.U B.locs B.cells B.slots ∧ Post A a v B ∧
      Steps p.tables e below (doInvoke e (A.U.setTop g) [] mk a).1 (B.U.setTop { g with pc := g.pc + len, stack := v.toList ++ g.stack })) ∨
    (∃ (q : Addr) (B : Pt), Stand p l e R s m sargs below meth c B.U B.locs B.cells B.slots ∧ PostX A a q B ∧
      Steps p.tables e below (doInvoke e (A.U.setTop g) [] mk a).1 ((B.U.setTop g).pushFrame (.throwing q)))
section Payer
variable {l : Launch} {R : Room} {p : Program} {e : Env} {below : List Frame} {s : State} {sargs : Array Value} {y : MethodName} {len W9 : Nat}
theorem vx_back {ws : List Cond} {rm : Room} {Pc : Array Value → State → Prop} {Qc : Array Value → State → Outcome → State → Prop} {XC : String → State → State → Prop} {mc ms : Nat} {free : Addr → Prop} {bytes : ByteArray} {maxL : Nat} {ret : Option FieldType}
    (hM : vx_Met l y ws rm Pc Qc XC mc ms free) (hblind : FrameBlind Pc) (hrc : rm.cells = mc) (hrs : rm.slots = ms)
    (hframes : rm.frames + 1 ≤ R.frames) (hlocals : W9 + (maxL + 11) + rm.locals ≤ R.locals)
    (hws : ∀ w ∈ ws, ∀ a' U, s.WarmedH U.vm → w.before a' U = true) (hcode : Cond.code y bytes maxL ret ∈ ws) (hinit : ∀ a' U, s.WarmedH U.vm → (Cond.initialized y.cls).before a' U = true) :
    vx_Back l R p e below s sargs y len W9 (PreOf R mc ms Pc) (PostOf Qc mc ms free) (vx_Post XC mc ms free) := by
  intro m meth c A g ig mk a X hg hsize hdg hW hn hp
  have h1 : (headSpec ws rm).pre.before a A.U = true := atoms_intro fun w hw => hws w hw _ _ X.warmed
  have h2 : (Cond.code y bytes maxL ret).before a A.U = true := hws _ hcode _ _ X.warmed
  have h3 : (Cond.initialized y.cls).before a A.U = true := hinit _ _ X.warmed
  have h4 : A.cells + (headSpec ws rm).room.cells ≤ R.cells := by rw [show (headSpec ws rm).room.cells = mc from hrc]; exact hp.1
  have h5 : A.slots + (headSpec ws rm).room.slots ≤ R.slots := by rw [show (headSpec ws rm).room.slots = ms from hrs]; exact hp.2.1
  have hPc : Pc a (A.U.calling g mk a) := hblind _ _ _ _ hp.2.2
  obtain ⟨U, Ls, c0, s0⟩ := A
  dsimp only [Pt.U, Pt.locs, Pt.cells, Pt.slots] at h1 h2 h3 h4 h5 X hn hPc ⊢
  obtain ⟨methY, cY, hmY, hcY, -, hlY, -, -, -, -⟩ := Cond.code_spec hn h2
  obtain ⟨kY, hkY, -⟩ := className_of_methodNamed hn
  have hinitY : kY.init = .initialized := Cond.initialized_spec (findClass_of_methodNamed hn) hkY h3
  have h : At U g.method c below := by rw [hg]; exact X.here
  have hlocals9 : W9 + (maxL + 11) + (headSpec ws rm).room.locals ≤ R.locals := hlocals
  have happ : (headSpec ws rm).appliesLoose y e.platform (U.calling g mk a) = true :=
    Spec.appliesLoose_calling (g := g) h hdg hn hkY hinitY
      (X.room_calling (g := g) (R' := (headSpec ws rm).room) hsize hmY hcY hframes (by rw [hlY]; omega) h4 h5) h1
  obtain ⟨mid, hmid⟩ := h.above
  have hfr : (U.setTop g).frames = (.java g :: mid) ++ below := by rw [State.frames_setTop' g h.top, hmid]; rfl
  obtain ⟨o, s₂, hsteps, -, hend, hq⟩ := Steps.callFree hM p X.admits X.cas X.clock (acts := []) hfr happ hPc trivial
  have hq' : vx_Q Qc XC mc ms free a (U.calling g mk a) o s₂ := hq
  rw [State.frames_setTop' g h.top] at hend
  obtain ⟨g₀, hg0⟩ := Option.isSome_iff_exists.mp h.top
  obtain ⟨r, hr⟩ := State.topJava?_eq_some.mp hg0
  have hr' : (({ U with heap := s₂.heap, slotsUsed := s₂.slotsUsed } : State).setVm s₂.vm).frames = .java g₀ :: r := hr
  rcases hq' with ⟨hqc, L, hfe, hL⟩ | ⟨q, rfl, E, ce, L, hx, hce, hcv, hcl, hW₂, hsm, hL⟩
  · obtain ⟨⟨v, rfl⟩, hW₂, e2, q2, q3, q4, q5, q6⟩ := id hfe
    have e3 : s₂ = ({ (U.calling g mk a).setFrames s₂.frames with heap := s₂.heap, slotsUsed := s₂.slotsUsed } : State).setVm s₂.vm := by
      have : s₂ = ({ s₂ with vm := (U.calling g mk a).vm } : State).setVm s₂.vm := rfl
      rw [e2] at this
      exact this
    obtain ⟨c₂, i₂, len₂, hc₂, hd₂, hf₂⟩ := hend
    have hW' : U.WarmedH s₂.vm := hW₂
    have hcc : c₂ = c := by
      have h1 : s₂.code? g.method = U.code? g.method := by
        rw [State.code?_eq, State.code?_eq, hW'.alike.method?]
      exact Option.some.inj (hc₂.symm.trans (h1.trans h.code))
    subst hcc
    have hlen : len₂ = len := by rw [hdg] at hd₂; cases hd₂; rfl
    subst hlen
    have hs₂ : s₂ = (({ U with heap := s₂.heap, slotsUsed := s₂.slotsUsed } : State).setVm s₂.vm).setTop { g with pc := g.pc + len₂, stack := v.toList ++ g.stack } := by
      refine e3.trans ?_
      rw [hf₂, State.calling_eq h.top, State.setFrames_setFrames, State.setTop_of_frames _ hr', hr]
      rfl
    have hsame : U.sameButNew ({ U with heap := s₂.heap, slotsUsed := s₂.slotsUsed } : State) L mc ms := by
      refine ⟨?_, q2, q3, q4, q5, q6⟩
      obtain ⟨t, ht, -⟩ := State.frames_cons hr
      show ({ U with heap := s₂.heap, slotsUsed := s₂.slotsUsed } : State) = { U.setFrames U.frames with heap := s₂.heap, slotsUsed := s₂.slotsUsed }
      rw [State.setFrames_self ht]
    subst hg
    refine Or.inl ⟨v, ⟨(({ U with heap := s₂.heap, slotsUsed := s₂.slotsUsed } : State).setVm s₂.vm), Ls ++ L, c0 + mc, s0 + ms⟩,
      ⟨X.admits, X.cas, X.clock, X.frames, X.room, X.hears, X.method, X.code, (X.here.setHeapUsed s₂.heap s₂.slotsUsed).setVm hW'.alike, X.tail, State.WarmedH.trans X.warmed hW', X.limits, X.bytes, X.same.trans (hsame.setVm s.vm)⟩,
      ⟨g, mk, s₂, L, rfl, rfl, hqc, rfl, hL, rfl, rfl⟩, ?_⟩
    show Steps p.tables e below _ ((({ U with heap := s₂.heap, slotsUsed := s₂.slotsUsed } : State).setVm s₂.vm).setTop { g with pc := g.pc + len₂, stack := v.toList ++ g.stack })
    rw [← hs₂]
    exact hsteps
  · obtain ⟨e2, q2, q3, q4, q5, q6⟩ := id hsm
    have e3 : s₂ = ({ (U.calling g mk a).setFrames s₂.frames with heap := s₂.heap, slotsUsed := s₂.slotsUsed } : State).setVm s₂.vm := by
      have : s₂ = ({ s₂ with vm := (U.calling g mk a).vm } : State).setVm s₂.vm := rfl
      rw [e2] at this
      exact this
    have hf₂ : s₂.frames = .throwing q :: .java g :: U.frames.tail := hend
    have hW' : U.WarmedH s₂.vm := hW₂
    have hs₂ : s₂ = ((({ U with heap := s₂.heap, slotsUsed := s₂.slotsUsed } : State).setVm s₂.vm).setTop g).pushFrame (.throwing q) := by
      refine e3.trans ?_
      rw [hf₂, State.calling_eq h.top, State.setFrames_setFrames, State.pushFrame, State.frames_setTop _ hr', State.setTop_of_frames _ hr', State.setFrames_setFrames, hr]
      rfl
    have hsame : U.sameButNew ({ U with heap := s₂.heap, slotsUsed := s₂.slotsUsed } : State) L mc ms := by
      refine ⟨?_, q2, q3, q4, q5, q6⟩
      obtain ⟨t, ht, -⟩ := State.frames_cons hr
      show ({ U with heap := s₂.heap, slotsUsed := s₂.slotsUsed } : State) = { U.setFrames U.frames with heap := s₂.heap, slotsUsed := s₂.slotsUsed }
      rw [State.setFrames_self ht]
    subst hg
    refine Or.inr ⟨q, ⟨(({ U with heap := s₂.heap, slotsUsed := s₂.slotsUsed } : State).setVm s₂.vm), Ls ++ L, c0 + mc, s0 + ms⟩,
      ⟨X.admits, X.cas, X.clock, X.frames, X.room, X.hears, X.method, X.code, (X.here.setHeapUsed s₂.heap s₂.slotsUsed).setVm hW'.alike, X.tail, State.WarmedH.trans X.warmed hW', X.limits, X.bytes, X.same.trans (hsame.setVm s.vm)⟩,
      ⟨g, mk, s₂, L, E, ce, rfl, rfl, hx, hce, hcv, hcl, rfl, hL, rfl, rfl⟩, ?_⟩
    show Steps p.tables e below _ (((({ U with heap := s₂.heap, slotsUsed := s₂.slotsUsed } : State).setVm s₂.vm).setTop g).pushFrame (.throwing q))
    rw [← hs₂]
    exact hsteps
end Payer
section Calls
variable {p : Program} {l : Launch} {e : Env} {R : Room} {s : State} {m : MethodId} {args : Array Value} {below : List Frame} {meth : Method} {c : Code} {T : State} {locs : List Loc} {cells slots : Nat}
theorem vx_callV (X : Stand p l e R s m args below meth c T locs cells slots) (hexec : p.tables.exec = Jvm.exec) {own C : String} {index : Nat} {y : MethodName} {bytes : ByteArray} {maxL : Nat} {ret : Option FieldType}
    (hown : s.vm.findClass own = some m.cls) (hlink : (Cond.methodLink own index y).before args s = true) (hinst : (Cond.instanceMethod y).before args s = true) (hsel : (Cond.selects C y y).before args s = true)
    (hcode : (Cond.code y bytes maxL ret).before args s = true) (hy : y.cls ≠ "java/lang/invoke/MethodHandle" ∧ y.cls ≠ "java/lang/invoke/VarHandle")
    {W9 : Nat} {Pre : Pt → Array Value → Prop} {Post : Pt → Array Value → Option Value → Pt → Prop} {PostX : Pt → Array Value → Addr → Pt → Prop} (hK : vx_Back l R p e below s args y 3 W9 Pre Post PostX)
    {b : Addr} {cellB : Cell} (hcell : T.heap[b]? = some cellB) (hobj : cellB.vm.isStatics = false) (hcls : s.vm.findClass C = some cellB.cls)
    {g : JFrame} (hg : g.method = m) (hsize : g.locals.size = c.maxLocals) {argsL rest : List Value} (hlen : ∀ sig, parseMethodDescriptor y.desc = some sig → argsL.length = sig.parameters.length)
    (hstack : g.stack = argsL.reverse ++ .ref b :: rest) (hW : 2 * g.monitorRoom + (rest.map fun v => v.category).sum ≤ W9) (hdg : decode c.code g.pc = .ok (.invokevirtual index, 3))
    (hpre : ∀ vm₁, s.WarmedH vm₁ → Pre ⟨T.setVm vm₁, locs, cells, slots⟩ (Value.ref b :: argsL).toArray) :
    (∃ (v : Option Value) (vm₁ : Vm) (B : Pt), s.WarmedH vm₁ ∧ Stand p l e R s m args below meth c B.U B.locs B.cells B.slots ∧ Post ⟨T.setVm vm₁, locs, cells, slots⟩ (Value.ref b :: argsL).toArray v B ∧
      ∀ target, Steps p.tables e below (B.U.setTop { g with pc := g.pc + 3, stack := v.toList ++ rest }) target → Steps p.tables e below (T.setTop g) target) ∨
    (∃ (q : Addr) (vm₁ : Vm) (B : Pt), s.WarmedH vm₁ ∧ Stand p l e R s m args below meth c B.U B.locs B.cells B.slots ∧ PostX ⟨T.setVm vm₁, locs, cells, slots⟩ (Value.ref b :: argsL).toArray q B ∧
      Steps p.tables e below (T.setTop g) ((B.U.setTop { g with stack := rest }).pushFrame (.throwing q))) := by
  obtain ⟨mk, methM, hnamed, hmethM, hstM, habM⟩ := Cond.instanceMethod_spec hinst
  obtain ⟨methM', cM, hmethM', -, -, -, -, -, -, hsigM⟩ := Cond.code_spec hnamed hcode
  cases hmethM.symm.trans hmethM'
  obtain ⟨c2, r2, m2, q1, q2, q3, q4, kP, hkP, hkPi⟩ := Cond.selects_spec hsel
  cases hcls.symm.trans q1
  cases (State.methodFound?_of_named hnamed hy).symm.trans q2
  cases hnamed.symm.trans q3
  have hselP : selectMethod e.platform s.vm cellB.cls mk = .method mk := by rw [Launch.admits_selectMethod X.admits]; exact q4
  obtain ⟨vm₁, X₁, hstep₁⟩ := X.invokevirtual hexec hown hlink hnamed hmethM hstM hkP hkPi hy (a := b) (cell := cellB) hcell
    (fun z h => by rw [h] at hobj; cases hobj) hselP hmethM habM hkP hkPi (g := g) hg (argsL := argsL) (rest := rest) (hlen _ hsigM) hstack hdg
  rcases hK m meth c ⟨T.setVm vm₁, locs, cells, slots⟩ { g with stack := rest } (.invokevirtual index) mk (Value.ref b :: argsL).toArray X₁ hg hsize hdg hW (X₁.named hnamed) (hpre vm₁ X₁.warmed) with ⟨v, B, X', hpost, hsteps⟩ | ⟨q, B, X', hpost, hsteps⟩
  · exact Or.inl ⟨v, vm₁, B, X₁.warmed, X', hpost, fun target h => hstep₁ _ fun acts => by rw [doInvoke_state]; exact hsteps.trans h⟩
  · exact Or.inr ⟨q, vm₁, B, X₁.warmed, X', hpost, hstep₁ _ fun acts => by rw [doInvoke_state]; exact hsteps⟩
theorem vx_callS (X : Stand p l e R s m args below meth c T locs cells slots) (hexec : p.tables.exec = Jvm.exec) {own : String} {index : Nat} {y : MethodName} {bytes : ByteArray} {maxL : Nat} {ret : Option FieldType}
    (hown : s.vm.findClass own = some m.cls) (hlink : (Cond.methodLink own index y).before args s = true) (hstat : (Cond.static y).before args s = true) (hinit : (Cond.initialized y.cls).before args s = true)
    (hcode : (Cond.code y bytes maxL ret).before args s = true) (hy : y.cls ≠ "java/lang/invoke/MethodHandle" ∧ y.cls ≠ "java/lang/invoke/VarHandle")
    {W9 : Nat} {Pre : Pt → Array Value → Prop} {Post : Pt → Array Value → Option Value → Pt → Prop} {PostX : Pt → Array Value → Addr → Pt → Prop} (hK : vx_Back l R p e below s args y 3 W9 Pre Post PostX)
    {g : JFrame} (hg : g.method = m) (hsize : g.locals.size = c.maxLocals) {argsL rest : List Value} (hlen : ∀ sig, parseMethodDescriptor y.desc = some sig → argsL.length = sig.parameters.length)
    (hstack : g.stack = argsL.reverse ++ rest) (hW : 2 * g.monitorRoom + (rest.map fun v => v.category).sum ≤ W9) (hdg : decode c.code g.pc = .ok (.invokestatic index, 3))
    (hpre : ∀ vm₁, s.WarmedH vm₁ → Pre ⟨T.setVm vm₁, locs, cells, slots⟩ argsL.toArray) :
    (∃ (v : Option Value) (vm₁ : Vm) (B : Pt), s.WarmedH vm₁ ∧ Stand p l e R s m args below meth c B.U B.locs B.cells B.slots ∧ Post ⟨T.setVm vm₁, locs, cells, slots⟩ argsL.toArray v B ∧
      ∀ target, Steps p.tables e below (B.U.setTop { g with pc := g.pc + 3, stack := v.toList ++ rest }) target → Steps p.tables e below (T.setTop g) target) ∨
    (∃ (q : Addr) (vm₁ : Vm) (B : Pt), s.WarmedH vm₁ ∧ Stand p l e R s m args below meth c B.U B.locs B.cells B.slots ∧ PostX ⟨T.setVm vm₁, locs, cells, slots⟩ argsL.toArray q B ∧
      Steps p.tables e below (T.setTop g) ((B.U.setTop { g with stack := rest }).pushFrame (.throwing q))) := by
  obtain ⟨mk, hnamed⟩ := Cond.code_named hcode
  obtain ⟨methM, cM, hmethM, -, -, -, -, -, -, hsigM⟩ := Cond.code_spec hnamed hcode
  have hstatic : methM.isStatic = true := Cond.static_spec hnamed hmethM hstat
  obtain ⟨kP, hkP, -⟩ := className_of_methodNamed hnamed
  have hinitP : kP.init = .initialized := Cond.initialized_spec (findClass_of_methodNamed hnamed) hkP hinit
  obtain ⟨vm₁, X₁, hstep₁⟩ := X.invokestatic hexec hown hlink hnamed hmethM hstatic hkP hinitP hy (g := g) hg (argsL := argsL) (rest := rest) (hlen _ hsigM) hstack hdg
  rcases hK m meth c ⟨T.setVm vm₁, locs, cells, slots⟩ { g with stack := rest } (.invokestatic index) mk argsL.toArray X₁ hg hsize hdg hW (X₁.named hnamed) (hpre vm₁ X₁.warmed) with ⟨v, B, X', hpost, hsteps⟩ | ⟨q, B, X', hpost, hsteps⟩
  · exact Or.inl ⟨v, vm₁, B, X₁.warmed, X', hpost, fun target h => hstep₁ _ fun acts => by rw [doInvoke_state]; exact hsteps.trans h⟩
  · exact Or.inr ⟨q, vm₁, B, X₁.warmed, X', hpost, hstep₁ _ fun acts => by rw [doInvoke_state]; exact hsteps⟩
end Calls
theorem vx_cls {s : State} {T : State} {vm₁ : Vm} {E : String} {k : ClassId} (hW : s.WarmedH vm₁) (h : (T.setVm vm₁).vm.findClass E = some k) : s.vm.findClass E = some k := by
  have h1 : vm₁.findClass E = some k := h
  rw [hW.alike.findClass] at h1
  exact h1
/-- the method's frame g, with q thrown over it -/
def vx_W (p : Program) (l : Launch) (e : Env) (R : Room) (s : State) (m : MethodId) (args : Array Value) (below : List Frame) (meth : Method) (c : Code) (H : Heap) (locs : List Loc) (cells slots : Nat) (Q : State → Prop) (g : JFrame) (q : Addr) : Prop :=
  ∀ T : State, T.heap = H → Stand p l e R s m args below meth c T locs cells slots → ∃ t, Steps p.tables e below ((T.setTop g).pushFrame (.throwing q)) t ∧ Q t
def vx_Run (p : Program) (l : Launch) (e : Env) (R : Room) (s : State) (m : MethodId) (args : Array Value) (below : List Frame) (meth : Method) (c : Code) (H : Heap) (locs : List Loc) (cells slots mc ms : Nat) (g : JFrame) (rest : List Value) (Qa : State → Outcome → State → Prop) (XC : String → State → State → Prop) (free : Addr → Prop) : Prop :=
  ∀ T : State, T.heap = H → Stand p l e R s m args below meth c T locs cells slots →
    (∃ (v : Option Value) (st₀ t T' : State) (L : List Loc), st₀.heap = H ∧ Stand p l e R s m args below meth c T' (locs ++ L) (cells + mc) (slots + ms) ∧ (∀ q ∈ L, free q.base) ∧ T'.heap = t.heap ∧ T'.vm = t.vm ∧ Qa st₀ (.returned v) t ∧
      Goes p e below T g T' { g with pc := g.pc + 3, stack := v.toList ++ rest }) ∨
    (∃ (q : Addr) (st₀ t T' : State) (L : List Loc) (E : String) (ce : Cell), st₀.heap = H ∧ Stand p l e R s m args below meth c T' (locs ++ L) (cells + mc) (slots + ms) ∧ (∀ z ∈ L, free z.base) ∧ T'.heap = t.heap ∧ T'.vm = t.vm ∧ XC E st₀ t ∧ t.heap[q]? = some ce ∧ ce.vm = .none ∧ s.vm.findClass E = some ce.cls ∧
      Steps p.tables e below (T.setTop g) ((T'.setTop { g with stack := rest }).pushFrame (.throwing q)))
def vx_X {S : Type} (px : S → Prop) (B : String → S → State → Prop) (A : Nat → Prop) : String → State → State → Prop := fun E st t => ∃ u : S, px u ∧ B E u t ∧ va_F A st t
section Runs
variable {p : Program} {l : Launch} {e : Env} {R : Room} {s : State} {m : MethodId} {args : Array Value} {below : List Frame} {meth : Method} {c : Code} {H : Heap} {locs : List Loc} {cells slots : Nat}
variable {y : MethodName} {bytes cc : ByteArray} {maxL nL mc ms n index : Nat} {ret : Option FieldType} {ws : List Cond} {rm : Room} {Pc : Array Value → State → Prop} {Qc : Array Value → State → Outcome → State → Prop} {XC : String → State → State → Prop} {free : Addr → Prop} {Ts : List Cond} {own C : String} {b : Addr} {As rest : List Value} {g : JFrame}
theorem vx_callBack (cb : CallB R s args own index y bytes maxL ret ws rm mc ms n) (hM : vx_Met l y ws rm Pc Qc XC mc ms free) (hbl : FrameBlind Pc) : vx_Back l R p e below s args y 3 8 (PreOf R mc ms Pc) (PostOf Qc mc ms free) (vx_Post XC mc ms free) := by
  obtain ⟨hrc, hrs, hfr, hlo, hws, hcw, -, hini, -⟩ := cb
  exact vx_back (bytes := bytes) (maxL := maxL) (ret := ret) hM hbl hrc hrs hfr hlo hws hcw (fun a' U hW => word_at hW (Or.inl (by first | rfl | simp [Cond.onTables, Cond.keeps, Cond.steady])) hini)
theorem vx_runV (S : CallFix p m c cc nL s args Ts own) (hM : vx_Met l y ws rm Pc Qc XC mc ms free) (cw : CallW R s args own C index y bytes maxL ret ws rm mc ms n) (hp : PreV s H C b Pc As)
    (hg : g.method = m) (hn : As.length = n) (hsize : g.locals.size = nL) (hstack : g.stack = As.reverse ++ .ref b :: rest) (hW : 2 * g.monitorRoom + (rest.map fun v => v.category).sum ≤ 8) (hdg : decode cc g.pc = .ok (.invokevirtual index, 3)) (hf : cells + mc ≤ R.cells ∧ slots + ms ≤ R.slots) :
    vx_Run p l e R s m args below meth c H locs cells slots mc ms g rest (Qc (Value.ref b :: As).toArray) XC free := by
  have hK : vx_Back l R p e below s args y 3 8 (PreOf R mc ms Pc) (PostOf Qc mc ms free) (vx_Post XC mc ms free) := vx_callBack cw.1 hM hp.1
  obtain ⟨⟨-, -, -, -, -, -, hcode, -, hy, hlen, hl⟩, hin, hse⟩ := cw
  obtain ⟨hx, hb, hml, ho, -⟩ := S
  obtain ⟨-, ⟨cellB, hcB, hoB, hclB⟩, hPc⟩ := hp
  intro T hT X
  rcases vx_callV X hx (C := C) (bytes := bytes) (maxL := maxL) (ret := ret) ho hl hin hse hcode hy hK (by rw [hT]; exact hcB) hoB hclB hg (hsize.trans hml.symm) (argsL := As) (rest := rest) (fun sig h => hn.trans (hlen sig h)) hstack hW (by rw [hb]; exact hdg)
    (fun vm₁ hW₁ => ⟨hf.1, hf.2, hPc (T.setVm vm₁) hT hW₁⟩) with ⟨v, vm₁, ⟨U', l2, c2, s2⟩, hW₁, X', ⟨g', mk, t, L, e1, e2, hq, h1, hL, h2, h3⟩, st⟩ | ⟨q, vm₁, ⟨U', l2, c2, s2⟩, hW₁, X', ⟨g', mk, t, L, E, ce, e1, e2, hq, hce, hcv, hcl, h1, hL, h2, h3⟩, st⟩
  · dsimp only [Pt.U, Pt.locs, Pt.cells, Pt.slots] at X' e1 e2 h1 h2 h3 st
    subst h1; subst h2; subst h3
    exact Or.inl ⟨v, (T.setVm vm₁).calling g' mk (Value.ref b :: As).toArray, t, U', L, hT, X', hL, e1, e2, hq, st⟩
  · dsimp only [Pt.U, Pt.locs, Pt.cells, Pt.slots] at X' e1 e2 h1 h2 h3 st hcl
    subst h1; subst h2; subst h3
    exact Or.inr ⟨q, (T.setVm vm₁).calling g' mk (Value.ref b :: As).toArray, t, U', L, E, ce, hT, X', hL, e1, e2, hq, hce, hcv, vx_cls hW₁ hcl, st⟩
theorem vx_runS (S : CallFix p m c cc nL s args Ts own) (hM : vx_Met l y ws rm Pc Qc XC mc ms free) (cw : CallB R s args own index y bytes maxL ret ws rm mc ms n ∧ (Cond.static y).before args s = true) (hp : PreS s H Pc As)
    (hg : g.method = m) (hn : As.length = n) (hsize : g.locals.size = nL) (hstack : g.stack = As.reverse ++ rest) (hW : 2 * g.monitorRoom + (rest.map fun v => v.category).sum ≤ 8) (hdg : decode cc g.pc = .ok (.invokestatic index, 3)) (hf : cells + mc ≤ R.cells ∧ slots + ms ≤ R.slots) :
    vx_Run p l e R s m args below meth c H locs cells slots mc ms g rest (Qc As.toArray) XC free := by
  have hK : vx_Back l R p e below s args y 3 8 (PreOf R mc ms Pc) (PostOf Qc mc ms free) (vx_Post XC mc ms free) := vx_callBack cw.1 hM hp.1
  obtain ⟨⟨-, -, -, -, -, -, hcode, hini, hy, hlen, hl⟩, hstt⟩ := cw
  obtain ⟨hx, hb, hml, ho, -⟩ := S
  intro T hT X
  rcases vx_callS X hx (bytes := bytes) (maxL := maxL) (ret := ret) ho hl hstt hini hcode hy hK hg (hsize.trans hml.symm) (argsL := As) (rest := rest) (fun sig h => hn.trans (hlen sig h)) hstack hW (by rw [hb]; exact hdg)
    (fun vm₁ hW₁ => ⟨hf.1, hf.2, hp.2 (T.setVm vm₁) hT hW₁⟩) with ⟨v, vm₁, ⟨U', l2, c2, s2⟩, hW₁, X', ⟨g', mk, t, L, e1, e2, hq, h1, hL, h2, h3⟩, st⟩ | ⟨q, vm₁, ⟨U', l2, c2, s2⟩, hW₁, X', ⟨g', mk, t, L, E, ce, e1, e2, hq, hce, hcv, hcl, h1, hL, h2, h3⟩, st⟩
  · dsimp only [Pt.U, Pt.locs, Pt.cells, Pt.slots] at X' e1 e2 h1 h2 h3 st
    subst h1; subst h2; subst h3
    exact Or.inl ⟨v, (T.setVm vm₁).calling g' mk As.toArray, t, U', L, hT, X', hL, e1, e2, hq, st⟩
  · dsimp only [Pt.U, Pt.locs, Pt.cells, Pt.slots] at X' e1 e2 h1 h2 h3 st hcl
    subst h1; subst h2; subst h3
    exact Or.inr ⟨q, (T.setVm vm₁).calling g' mk As.toArray, t, U', L, E, ce, hT, X', hL, e1, e2, hq, hce, hcv, vx_cls hW₁ hcl, st⟩
end Runs
section Rows
variable {p : Program} {l : Launch} {e : Env} {R : Room} {s : State} {m : MethodId} {args : Array Value} {below : List Frame} {meth : Method} {c : Code} {H : Heap} {locs : List Loc} {cells slots : Nat} {Q : State → Prop}
variable {mc ms : Nat} {free : Addr → Prop} {A0 A1 : Nat → Prop} {H0 : Heap} {a : Array Value} {pc : Nat} {ls : Array Slot} {st0 rest : List Value}
theorem vx_keep {st₀ t T' : State} {L : List Loc} (h0 : st₀.heap = H) (e1 : T'.heap = t.heap) (hS : va_S A0 H0 H locs) (hA : ∀ q, q < H.size → A1 q → A0 q) (hf : ∀ q, free q → A0 q) (hL : ∀ q ∈ L, free q.base) (hF : va_F A1 st₀ t) :
    H.size ≤ T'.heap.size ∧ (∀ q : Nat, q < H.size → ¬ A1 q → T'.heap[q]? = H[q]?) ∧ va_S A0 H0 T'.heap (locs ++ L) := by
  obtain ⟨hz, hk⟩ := hF
  rw [h0] at hz hk
  exact ⟨by rw [e1]; exact hz, fun q h1 h2 => by rw [e1]; exact hk q h1 h2,
    ⟨Nat.le_trans hS.1 (by rw [e1]; exact hz), fun q h1 h2 => by rw [e1, hk q (Nat.lt_of_lt_of_le h1 hS.1) (fun z => h2 (hA q (Nat.lt_of_lt_of_le h1 hS.1) z))]; exact hS.2.1 q h1 h2, fun q hq => by
      rcases List.mem_append.mp hq with h | h
      · exact hS.2.2 q h
      · exact hf _ (hL q h)⟩⟩
theorem vx_calli {S SX : Type} {post : Int32 → S → Prop} {px : SX → Prop} {B : S → State → Prop} {BX : String → SX → State → Prop} {AX : Nat → Prop} (hr : vx_Run p l e R s m args below meth c H locs cells slots mc ms (F0 m pc ls st0) rest (va_Qi post B A1 a) (vx_X px BX AX) free) (hS : va_S A0 H0 H locs) (hA : ∀ q, q < H.size → A1 q → A0 q) (hf : ∀ q, free q → A0 q) (hAX : ∀ q, q < H.size → AX q → A0 q)
    (kx : ∀ (E : String) (ce : Cell) (q9 : Addr) (u : SX) (t : State) (H1 : Heap) (locs1 : List Loc), t.heap = H1 → s.vm.Alike t.vm → px u → BX E u t → H.size ≤ H1.size → (∀ q : Nat, q < H.size → ¬ AX q → H1[q]? = H[q]?) → va_S A0 H0 H1 locs1 → H1[q9]? = some ce → ce.vm = .none → s.vm.findClass E = some ce.cls → vx_W p l e R s m args below meth c H1 locs1 (cells + mc) (slots + ms) Q (F0 m pc ls rest) q9)
    (kk : ∀ (r : Int32) (u : S) (t : State) (H1 : Heap) (locs1 : List Loc), t.heap = H1 → s.vm.Alike t.vm → post r u → B u t → H.size ≤ H1.size → (∀ q : Nat, q < H.size → ¬ A1 q → H1[q]? = H[q]?) → va_S A0 H0 H1 locs1 → W p l e R s m args below meth c H1 locs1 (cells + mc) (slots + ms) Q (F0 m (pc + 3) ls (.int r :: rest))) : W p l e R s m args below meth c H locs cells slots Q (F0 m pc ls st0) := by
  intro T hT X
  rcases hr T hT X with ⟨v, st₀, t, T', L, h0, X', hL, e1, e2, ⟨⟨r, u, hv, hp, hb⟩, hF⟩, st⟩ | ⟨q, st₀, t, T', L, E, ce, h0, X', hL, e1, e2, ⟨u, hp, hb, hF⟩, hce, hcv, hcl, st⟩
  · cases hv
    obtain ⟨k1, k2, k3⟩ := vx_keep h0 e1 hS hA hf hL hF
    obtain ⟨t2, a1, b1⟩ := kk r u t T'.heap (locs ++ L) e1.symm (by rw [← e2]; exact X'.warmed.alike) hp hb k1 k2 k3 T' rfl X'
    exact ⟨t2, st t2 a1, b1⟩
  · obtain ⟨k1, k2, k3⟩ := vx_keep h0 e1 hS hAX hf hL hF
    obtain ⟨t2, a1, b1⟩ := kx E ce q u t T'.heap (locs ++ L) e1.symm (by rw [← e2]; exact X'.warmed.alike) hp hb k1 k2 k3 (by rw [e1]; exact hce) hcv hcl T' rfl X'
    exact ⟨t2, st.trans a1, b1⟩
theorem vx_calll {S SX : Type} {post : Int64 → S → Prop} {px : SX → Prop} {B : S → State → Prop} {BX : String → SX → State → Prop} {AX : Nat → Prop} (hr : vx_Run p l e R s m args below meth c H locs cells slots mc ms (F0 m pc ls st0) rest (va_Ql post B A1 a) (vx_X px BX AX) free) (hS : va_S A0 H0 H locs) (hA : ∀ q, q < H.size → A1 q → A0 q) (hf : ∀ q, free q → A0 q) (hAX : ∀ q, q < H.size → AX q → A0 q)
    (kx : ∀ (E : String) (ce : Cell) (q9 : Addr) (u : SX) (t : State) (H1 : Heap) (locs1 : List Loc), t.heap = H1 → s.vm.Alike t.vm → px u → BX E u t → H.size ≤ H1.size → (∀ q : Nat, q < H.size → ¬ AX q → H1[q]? = H[q]?) → va_S A0 H0 H1 locs1 → H1[q9]? = some ce → ce.vm = .none → s.vm.findClass E = some ce.cls → vx_W p l e R s m args below meth c H1 locs1 (cells + mc) (slots + ms) Q (F0 m pc ls rest) q9)
    (kk : ∀ (r : Int64) (u : S) (t : State) (H1 : Heap) (locs1 : List Loc), t.heap = H1 → s.vm.Alike t.vm → post r u → B u t → H.size ≤ H1.size → (∀ q : Nat, q < H.size → ¬ A1 q → H1[q]? = H[q]?) → va_S A0 H0 H1 locs1 → W p l e R s m args below meth c H1 locs1 (cells + mc) (slots + ms) Q (F0 m (pc + 3) ls (.long r :: rest))) : W p l e R s m args below meth c H locs cells slots Q (F0 m pc ls st0) := by
  intro T hT X
  rcases hr T hT X with ⟨v, st₀, t, T', L, h0, X', hL, e1, e2, ⟨⟨r, u, hv, hp, hb⟩, hF⟩, st⟩ | ⟨q, st₀, t, T', L, E, ce, h0, X', hL, e1, e2, ⟨u, hp, hb, hF⟩, hce, hcv, hcl, st⟩
  · cases hv
    obtain ⟨k1, k2, k3⟩ := vx_keep h0 e1 hS hA hf hL hF
    obtain ⟨t2, a1, b1⟩ := kk r u t T'.heap (locs ++ L) e1.symm (by rw [← e2]; exact X'.warmed.alike) hp hb k1 k2 k3 T' rfl X'
    exact ⟨t2, st t2 a1, b1⟩
  · obtain ⟨k1, k2, k3⟩ := vx_keep h0 e1 hS hAX hf hL hF
    obtain ⟨t2, a1, b1⟩ := kx E ce q u t T'.heap (locs ++ L) e1.symm (by rw [← e2]; exact X'.warmed.alike) hp hb k1 k2 k3 (by rw [e1]; exact hce) hcv hcl T' rfl X'
    exact ⟨t2, st.trans a1, b1⟩
theorem vx_callf {S SX : Type} {post : UInt32 → S → Prop} {px : SX → Prop} {B : S → State → Prop} {BX : String → SX → State → Prop} {AX : Nat → Prop} (hr : vx_Run p l e R s m args below meth c H locs cells slots mc ms (F0 m pc ls st0) rest (va_Qf post B A1 a) (vx_X px BX AX) free) (hS : va_S A0 H0 H locs) (hA : ∀ q, q < H.size → A1 q → A0 q) (hf : ∀ q, free q → A0 q) (hAX : ∀ q, q < H.size → AX q → A0 q)
    (kx : ∀ (E : String) (ce : Cell) (q9 : Addr) (u : SX) (t : State) (H1 : Heap) (locs1 : List Loc), t.heap = H1 → s.vm.Alike t.vm → px u → BX E u t → H.size ≤ H1.size → (∀ q : Nat, q < H.size → ¬ AX q → H1[q]? = H[q]?) → va_S A0 H0 H1 locs1 → H1[q9]? = some ce → ce.vm = .none → s.vm.findClass E = some ce.cls → vx_W p l e R s m args below meth c H1 locs1 (cells + mc) (slots + ms) Q (F0 m pc ls rest) q9)
    (kk : ∀ (r : UInt32) (u : S) (t : State) (H1 : Heap) (locs1 : List Loc), t.heap = H1 → s.vm.Alike t.vm → post r u → B u t → H.size ≤ H1.size → (∀ q : Nat, q < H.size → ¬ A1 q → H1[q]? = H[q]?) → va_S A0 H0 H1 locs1 → W p l e R s m args below meth c H1 locs1 (cells + mc) (slots + ms) Q (F0 m (pc + 3) ls (.float r :: rest))) : W p l e R s m args below meth c H locs cells slots Q (F0 m pc ls st0) := by
  intro T hT X
  rcases hr T hT X with ⟨v, st₀, t, T', L, h0, X', hL, e1, e2, ⟨⟨r, u, hv, hp, hb⟩, hF⟩, st⟩ | ⟨q, st₀, t, T', L, E, ce, h0, X', hL, e1, e2, ⟨u, hp, hb, hF⟩, hce, hcv, hcl, st⟩
  · cases hv
    obtain ⟨k1, k2, k3⟩ := vx_keep h0 e1 hS hA hf hL hF
    obtain ⟨t2, a1, b1⟩ := kk r u t T'.heap (locs ++ L) e1.symm (by rw [← e2]; exact X'.warmed.alike) hp hb k1 k2 k3 T' rfl X'
    exact ⟨t2, st t2 a1, b1⟩
  · obtain ⟨k1, k2, k3⟩ := vx_keep h0 e1 hS hAX hf hL hF
    obtain ⟨t2, a1, b1⟩ := kx E ce q u t T'.heap (locs ++ L) e1.symm (by rw [← e2]; exact X'.warmed.alike) hp hb k1 k2 k3 (by rw [e1]; exact hce) hcv hcl T' rfl X'
    exact ⟨t2, st.trans a1, b1⟩
theorem vx_calld {S SX : Type} {post : UInt64 → S → Prop} {px : SX → Prop} {B : S → State → Prop} {BX : String → SX → State → Prop} {AX : Nat → Prop} (hr : vx_Run p l e R s m args below meth c H locs cells slots mc ms (F0 m pc ls st0) rest (va_Qd post B A1 a) (vx_X px BX AX) free) (hS : va_S A0 H0 H locs) (hA : ∀ q, q < H.size → A1 q → A0 q) (hf : ∀ q, free q → A0 q) (hAX : ∀ q, q < H.size → AX q → A0 q)
    (kx : ∀ (E : String) (ce : Cell) (q9 : Addr) (u : SX) (t : State) (H1 : Heap) (locs1 : List Loc), t.heap = H1 → s.vm.Alike t.vm → px u → BX E u t → H.size ≤ H1.size → (∀ q : Nat, q < H.size → ¬ AX q → H1[q]? = H[q]?) → va_S A0 H0 H1 locs1 → H1[q9]? = some ce → ce.vm = .none → s.vm.findClass E = some ce.cls → vx_W p l e R s m args below meth c H1 locs1 (cells + mc) (slots + ms) Q (F0 m pc ls rest) q9)
    (kk : ∀ (r : UInt64) (u : S) (t : State) (H1 : Heap) (locs1 : List Loc), t.heap = H1 → s.vm.Alike t.vm → post r u → B u t → H.size ≤ H1.size → (∀ q : Nat, q < H.size → ¬ A1 q → H1[q]? = H[q]?) → va_S A0 H0 H1 locs1 → W p l e R s m args below meth c H1 locs1 (cells + mc) (slots + ms) Q (F0 m (pc + 3) ls (.double r :: rest))) : W p l e R s m args below meth c H locs cells slots Q (F0 m pc ls st0) := by
  intro T hT X
  rcases hr T hT X with ⟨v, st₀, t, T', L, h0, X', hL, e1, e2, ⟨⟨r, u, hv, hp, hb⟩, hF⟩, st⟩ | ⟨q, st₀, t, T', L, E, ce, h0, X', hL, e1, e2, ⟨u, hp, hb, hF⟩, hce, hcv, hcl, st⟩
  · cases hv
    obtain ⟨k1, k2, k3⟩ := vx_keep h0 e1 hS hA hf hL hF
    obtain ⟨t2, a1, b1⟩ := kk r u t T'.heap (locs ++ L) e1.symm (by rw [← e2]; exact X'.warmed.alike) hp hb k1 k2 k3 T' rfl X'
    exact ⟨t2, st t2 a1, b1⟩
  · obtain ⟨k1, k2, k3⟩ := vx_keep h0 e1 hS hAX hf hL hF
    obtain ⟨t2, a1, b1⟩ := kx E ce q u t T'.heap (locs ++ L) e1.symm (by rw [← e2]; exact X'.warmed.alike) hp hb k1 k2 k3 (by rw [e1]; exact hce) hcv hcl T' rfl X'
    exact ⟨t2, st.trans a1, b1⟩
theorem vx_callv {S SX : Type} {post : S → Prop} {px : SX → Prop} {B : S → State → Prop} {BX : String → SX → State → Prop} {AX : Nat → Prop} (hr : vx_Run p l e R s m args below meth c H locs cells slots mc ms (F0 m pc ls st0) rest (va_Qv post B A1 a) (vx_X px BX AX) free) (hS : va_S A0 H0 H locs) (hA : ∀ q, q < H.size → A1 q → A0 q) (hf : ∀ q, free q → A0 q) (hAX : ∀ q, q < H.size → AX q → A0 q)
    (kx : ∀ (E : String) (ce : Cell) (q9 : Addr) (u : SX) (t : State) (H1 : Heap) (locs1 : List Loc), t.heap = H1 → s.vm.Alike t.vm → px u → BX E u t → H.size ≤ H1.size → (∀ q : Nat, q < H.size → ¬ AX q → H1[q]? = H[q]?) → va_S A0 H0 H1 locs1 → H1[q9]? = some ce → ce.vm = .none → s.vm.findClass E = some ce.cls → vx_W p l e R s m args below meth c H1 locs1 (cells + mc) (slots + ms) Q (F0 m pc ls rest) q9)
    (kk : ∀ (u : S) (t : State) (H1 : Heap) (locs1 : List Loc), t.heap = H1 → s.vm.Alike t.vm → post u → B u t → H.size ≤ H1.size → (∀ q : Nat, q < H.size → ¬ A1 q → H1[q]? = H[q]?) → va_S A0 H0 H1 locs1 → W p l e R s m args below meth c H1 locs1 (cells + mc) (slots + ms) Q (F0 m (pc + 3) ls (rest))) : W p l e R s m args below meth c H locs cells slots Q (F0 m pc ls st0) := by
  intro T hT X
  rcases hr T hT X with ⟨v, st₀, t, T', L, h0, X', hL, e1, e2, ⟨⟨u, hv, hp, hb⟩, hF⟩, st⟩ | ⟨q, st₀, t, T', L, E, ce, h0, X', hL, e1, e2, ⟨u, hp, hb, hF⟩, hce, hcv, hcl, st⟩
  · cases hv
    obtain ⟨k1, k2, k3⟩ := vx_keep h0 e1 hS hA hf hL hF
    obtain ⟨t2, a1, b1⟩ := kk u t T'.heap (locs ++ L) e1.symm (by rw [← e2]; exact X'.warmed.alike) hp hb k1 k2 k3 T' rfl X'
    exact ⟨t2, st t2 a1, b1⟩
  · obtain ⟨k1, k2, k3⟩ := vx_keep h0 e1 hS hAX hf hL hF
    obtain ⟨t2, a1, b1⟩ := kx E ce q u t T'.heap (locs ++ L) e1.symm (by rw [← e2]; exact X'.warmed.alike) hp hb k1 k2 k3 (by rw [e1]; exact hce) hcv hcl T' rfl X'
    exact ⟨t2, st.trans a1, b1⟩
/-- caught by the row x of this method's table; the rows ahead don't take it -/
theorem vx_catch {own name : String} {E : String} {ce : Cell} {q : Addr} (hown : s.vm.findClass own = some m.cls) (pre : List ExceptionTableEntry) (x : ExceptionTableEntry) (suf : List ExceptionTableEntry) (hsplit : c.exceptionTable.toList = pre ++ x :: suf)
    (hpass : ∀ z ∈ pre, covers z pc = false ∨ (z.catchType ≠ 0 ∧ ∃ nm : String, (Cond.classLink own z.catchType nm).before args s = true ∧ va_Nc E nm s)) (hx : covers x pc = true) (h0 : x.catchType ≠ 0)
    (hlink : (Cond.classLink own x.catchType name).before args s = true) (hcast : (Cond.castable E name).before args s = true) (hcell : H[q]? = some ce) (hv : ce.vm = .none) (hcl : s.vm.findClass E = some ce.cls)
    (kk : W p l e R s m args below meth c H locs cells slots Q (F0 m x.handlerPc ls [.ref q])) : vx_W p l e R s m args below meth c H locs cells slots Q (F0 m pc ls rest) q := by
  intro T hT X
  have hpl : e.platform.magicAccessors = ({} : Platform).magicAccessors := by rw [X.admits.platform]
  obtain ⟨c3, c4, hc3, hc4, hasg⟩ := Cond.castable_spec hcast
  cases Option.some.inj (hc3.symm.trans hcl)
  obtain ⟨c5, hc5, hcl5⟩ := Cond.classLink_spec hown hlink e.platform hpl
  cases Option.some.inj (hc4.symm.trans hc5)
  obtain ⟨vm', X', st⟩ := X.thenCaughtThrough q (g := F0 m pc ls rest) rfl (Steps.refl _) (by rw [hT]; exact hcell) (by rw [hv]; rfl) (by obtain ⟨k9, h9, -⟩ := Vm.findClass_spec hcl; exact ⟨k9, h9⟩) pre x suf hsplit
    (fun z hz => by
      rcases hpass z hz with h | ⟨hz0, nm, hl1, hn1⟩
      · exact Or.inl h
      · obtain ⟨c6, hc6, hcl6⟩ := Cond.classLink_spec hown hl1 e.platform hpl
        obtain ⟨a8, b8, h1, h2, h3⟩ := hn1
        cases Option.some.inj (h1.symm.trans hcl)
        cases Option.some.inj (h2.symm.trans hc6)
        exact Or.inr ⟨hz0, _, hcl6, h3⟩) hx (Or.inr ⟨h0, c4, hcl5, hasg⟩)
  obtain ⟨t, a1, b1⟩ := kk (T.setVm vm') hT X'
  exact ⟨t, st.trans a1, b1⟩
end Rows
section Ends
variable {p : Program} {l : Launch} {e : Env} {R : Room} {s : State} {m : MethodId} {args : Array Value} {below : List Frame} {meth : Method} {c : Code} {H : Heap} {locs : List Loc} {cells slots : Nat} {Q : State → Prop}
variable {mc ms : Nat} {free : Addr → Prop} {A0 A1 : Nat → Prop} {H0 : Heap} {a : Array Value} {ls : Array Slot} {st0 rest : List Value}
variable {Qc : Array Value → State → Outcome → State → Prop} {XC : String → State → State → Prop}
/-- what a body that may throw owes at its end -/
def vx_MQ (below : List Frame) (Qc : Array Value → State → Outcome → State → Prop) (XC : String → State → State → Prop) (a : Array Value) (s : State) (mc ms : Nat) (free : Addr → Prop) : State → Prop := fun t =>
  ∃ o, t.status = .running ∧ Ended t below o ∧ vx_Q Qc XC mc ms free a s o t
theorem vx_ret {g : JFrame} {mc ms : Nat} (k : W p l e R s m args below meth c H locs cells slots (MQ below Qc args s mc ms free) g) : W p l e R s m args below meth c H locs cells slots (vx_MQ below Qc XC args s mc ms free) g := by
  intro T hT X
  obtain ⟨t, a1, o, b1, b2, b3, b4⟩ := k T hT X
  exact ⟨t, a1, o, b1, b2, Or.inl ⟨b3, b4⟩⟩
/-- not caught here: it goes on to the caller -/
theorem vx_widen {g : JFrame} {q : Addr} {k n : Nat} (h1 : cells ≤ k) (h2 : slots ≤ n) (kk : vx_W p l e R s m args below meth c H locs k n Q g q) : vx_W p l e R s m args below meth c H locs cells slots Q g q := fun T hT X => kk T hT (stand_widen X h1 h2)
theorem vx_out {pc : Nat} {E : String} {ce : Cell} {q : Addr} {mc ms : Nat} (hout : ∀ x ∈ c.exceptionTable.toList, covers x pc = false) (hlocks : meth.locks = false) (hcell : H[q]? = some ce) (hv : ce.vm = .none) (hcl : s.vm.findClass E = some ce.cls)
    (hx : ∀ t : State, t.heap = H → s.vm.Alike t.vm → XC E s t) (hf : ∀ z ∈ locs, free z.base) (hc : cells ≤ mc) (hs : slots ≤ ms) :
    vx_W p l e R s m args below meth c H locs cells slots (vx_MQ below Qc XC args s mc ms free) (F0 m pc ls rest) q := by
  intro T hT X
  obtain ⟨st1, hrun, hend, hW, hsm⟩ := X.leaveThrown q (g := F0 m pc ls rest) rfl rfl rfl hout hlocks
  have hcell9 : (T.setFrames (.throwing q :: below)).heap[q]? = some ce := by
    show T.heap[q]? = some ce
    rw [hT]; exact hcell
  exact ⟨_, st1, .threw q, hrun, hend, Or.inr ⟨q, rfl, E, ce, locs, hx _ hT hW.alike, hcell9, hv, hcl, hW, hsm.mono hc hs, hf⟩⟩
theorem vx_frame {U : State} {k n : Nat} (h : s.sameButNew ({ U with vm := s.vm } : State) locs k n) : s.heap.size ≤ U.heap.size ∧ ∀ q : Nat, q < s.heap.size → (∀ z ∈ locs, z.base ≠ q) → U.heap[q]? = s.heap[q]? := by
  obtain ⟨-, h2, -, -, -, h6⟩ := h
  refine ⟨h2, fun q hq hz => ?_⟩
  obtain ⟨c9, e1, e2, e3, e4⟩ := h6 q _ (Array.getElem?_eq_getElem hq)
  have hs : c9.slots = (s.heap[q]).slots := Array.ext_getElem? fun i => e4 i fun hm => hz _ hm rfl
  have h9 : c9 = s.heap[q] := by
    rw [hs] at e2
    exact e2
  have e5 : U.heap[q]? = some c9 := e1
  rw [e5, h9, Array.getElem?_eq_getElem hq]
/-- the words of a throw but the four that speak of the heap -/
def vx_no (w : Cond) : Bool := decide (w ≠ .isRef (.static Bundle.tN "UNASSIGNED_STACK" Bundle.steD)) && decide (w ≠ .isRef (.static Bundle.tN "SUPPRESSED_SENTINEL" Bundle.listD)) && decide (w ≠ .laysStatic Bundle.tN "UNASSIGNED_STACK" Bundle.steD) && decide (w ≠ .laysStatic Bundle.tN "SUPPRESSED_SENTINEL" Bundle.listD)
def vx_at0 (own : String) (ic : Nat) (X : String) (names : List String) : List Cond := (Bundle.ownAtoms0 own ic X names).filter vx_no
def vx_atS (own : String) (ic : Nat) (X : String) (names : List String) : List Cond := (Bundle.ownAtoms own ic X names).filter vx_no
/-- a word that the tables alone decide, or a good one -/
def vx_ot (w : Cond) : Bool := w.onTables || goodWord w
theorem vx_ot_at {args a' : Array Value} {s U : State} {w : Cond} (hW : s.WarmedH U.vm) (hvm : s.vm = U.vm) (hg : vx_ot w = true) (h : w.before args s = true) : w.before a' U = true := by
  simp only [vx_ot, Bool.or_eq_true] at hg
  rcases hg with hg | hg
  · exact va_tabs hg hvm h
  · exact word_at hW (good_of_word hg) h
/-- a list's words: the good ones out of the method's own list, the others by premises of their own -/
theorem vx_hat {args : Array Value} {s : State} {L B : List Cond} (h1 : ∀ w ∈ L.filter goodWord, w.before args s = true) (h2 : ∀ w ∈ L.filter (fun w => !goodWord w), w ∈ B) (h3 : ∀ w ∈ B, w.before args s = true) : ∀ w ∈ L, w.before args s = true := by
  intro w hw
  by_cases g : goodWord w = true
  · exact h1 w (List.mem_filter.mpr ⟨hw, g⟩)
  · refine h3 w (h2 w (List.mem_filter.mpr ⟨hw, ?_⟩))
    show (!goodWord w) = true
    cases hgw : goodWord w
    · rfl
    · exact absurd hgw g
theorem vx_c {args : Array Value} {s : State} {w : Cond} {B : List Cond} (h : w.before args s = true) (t : ∀ w ∈ B, w.before args s = true) : ∀ w' ∈ w :: B, w'.before args s = true := fun w' h' => (List.mem_cons.mp h').elim (fun e => by rw [e]; exact h) (t w')
theorem vx_n {args : Array Value} {s : State} : ∀ w ∈ ([] : List Cond), w.before args s = true := fun _ h => nomatch h
theorem vx_own {args : Array Value} {s : State} {L : List Cond} (h1 : ∀ w ∈ L.filter vx_no, w.before args s = true)
    (hU : (Cond.isRef (.static Bundle.tN "UNASSIGNED_STACK" Bundle.steD)).before args s = true) (hN : (Cond.isRef (.static Bundle.tN "SUPPRESSED_SENTINEL" Bundle.listD)).before args s = true)
    (lU : (Cond.laysStatic Bundle.tN "UNASSIGNED_STACK" Bundle.steD).before args s = true) (lN : (Cond.laysStatic Bundle.tN "SUPPRESSED_SENTINEL" Bundle.listD).before args s = true) : ∀ w ∈ L, w.before args s = true := by
  intro w hw
  by_cases e1 : w = .isRef (.static Bundle.tN "UNASSIGNED_STACK" Bundle.steD)
  · rw [e1]; exact hU
  · by_cases e2 : w = .isRef (.static Bundle.tN "SUPPRESSED_SENTINEL" Bundle.listD)
    · rw [e2]; exact hN
    · by_cases e3 : w = .laysStatic Bundle.tN "UNASSIGNED_STACK" Bundle.steD
      · rw [e3]; exact lU
      · by_cases e4 : w = .laysStatic Bundle.tN "SUPPRESSED_SENTINEL" Bundle.listD
        · rw [e4]; exact lN
        · exact h1 w (List.mem_filter.mpr ⟨hw, by unfold vx_no; rw [decide_eq_true e1, decide_eq_true e2, decide_eq_true e3, decide_eq_true e4]; rfl⟩)
/-- where a static field lies, its class's statics cell in H -/
def vx_L (C n d : String) (A : Nat → Prop) (U : State) (H : Heap) : Prop := ∃ (c : ClassId) (k : Class) (i : Nat) (f : Field) (a : Nat) (cell : Cell), U.vm.findClass C = some c ∧ U.fieldFound? C n d = some (c, k, i, f) ∧ f.isStatic = true ∧ k.statics = some a ∧ H[a]? = some cell ∧ cell.vm.isStatics = true ∧ cell.cls = c ∧ f.slot < cell.slots.size ∧ k.staticTypes[f.slot]? = some f.type ∧ ¬ A a
theorem vx_L.moved {C n d : String} {A : Nat → Prop} {u U : State} {H : Heap} (hvm : u.vm.Alike U.vm) (h : vx_L C n d A u H) : vx_L C n d A U H := by
  obtain ⟨c, k, i, f, a, cell, h1, h2, h3, h4, h5, h6, h7, h8, h9, h10⟩ := h
  obtain ⟨k', hi', he⟩ := State.fieldFound?_setVm hvm h2
  exact ⟨c, k', i, f, a, cell, by rw [hvm.findClass]; exact h1, hi', h3, by rw [he]; exact h4, h5, h6, h7, h8, by rw [he]; exact h9, h10⟩
theorem vx_L.kept {C n d : String} {A : Nat → Prop} {U : State} {H H1 : Heap} (h : vx_L C n d A U H) (hq : ∀ a : Nat, a < H.size → ¬ A a → H1[a]? = H[a]?) : vx_L C n d A U H1 := by
  obtain ⟨c, k, i, f, a, cell, h1, h2, h3, h4, h5, h6, h7, h8, h9, h10⟩ := h
  exact ⟨c, k, i, f, a, cell, h1, h2, h3, h4, by rw [hq a (Array.getElem?_eq_some_iff.mp h5).1 h10]; exact h5, h6, h7, h8, h9, h10⟩
theorem vx_L.narrow {C n d : String} {A B : Nat → Prop} {U : State} {H : Heap} (h : vx_L C n d A U H) (hAB : ∀ q, B q → A q) : vx_L C n d B U H := by
  obtain ⟨c, k, i, f, a, cell, h1, h2, h3, h4, h5, h6, h7, h8, h9, h10⟩ := h
  exact ⟨c, k, i, f, a, cell, h1, h2, h3, h4, h5, h6, h7, h8, h9, fun z => h10 (hAB _ z)⟩
theorem vx_L.word {C n d : String} {A : Nat → Prop} {s : State} {args : Array Value} (h : vx_L C n d A s s.heap) : (Cond.laysStatic C n d).before args s = true := by
  obtain ⟨c, k, i, f, a, cell, h1, h2, h3, h4, h5, h6, h7, h8, h9, -⟩ := h
  show (Cond.laysStatic C n d).holds args s none s [] = true
  exact Cond.laysStatic_of h1 h2 h3 h4 h5 h6 h7 h8 h9
/-- .. and what it holds: null or some reference -/
def vx_Zq (C n d : String) (A : Nat → Prop) (U : State) (H : Heap) : Prop := va_Zq C n d A U H ∧ vx_L C n d A U H
theorem vx_Zq.moved {C n d : String} {A : Nat → Prop} {u U : State} {H : Heap} (hvm : u.vm.Alike U.vm) (h : vx_Zq C n d A u H) : vx_Zq C n d A U H := ⟨va_Zq.moved hvm h.1, vx_L.moved hvm h.2⟩
theorem vx_Zq.kept {C n d : String} {A : Nat → Prop} {U : State} {H H1 : Heap} (h : vx_Zq C n d A U H) (hq : ∀ a : Nat, a < H.size → ¬ A a → H1[a]? = H[a]?) : vx_Zq C n d A U H1 := ⟨va_Zq.kept h.1 hq, vx_L.kept h.2 hq⟩
theorem vx_Zq.narrow {C n d : String} {A B : Nat → Prop} {U : State} {H : Heap} (h : vx_Zq C n d A U H) (hAB : ∀ q, B q → A q) : vx_Zq C n d B U H := ⟨va_Zq.narrow h.1 hAB, vx_L.narrow h.2 hAB⟩
theorem vx_Zqof {args : Array Value} {s : State} {C n d : String} {A : Nat → Prop} (hl : (Cond.laysStatic C n d).before args s = true) (hini : (Cond.initialized C).before args s = true) (h : (Cond.isRef (.static C n d)).before args s = true) (hA : ∀ a : Nat, a < s.heap.size → ¬ A a) : vx_Zq C n d A s s.heap := by
  refine ⟨va_Zqof hl hini h hA, ?_⟩
  obtain ⟨c, k, i, f, a, cell, h1, h2, h3, h4, h5, h6, h7, h8, h9⟩ := Cond.laysStatic_spec hl
  exact ⟨c, k, i, f, a, cell, h1, h2, h3, h4, h5, h6, h7, h8, h9, hA a (Array.getElem?_eq_some_iff.mp h5).1⟩
theorem vx_isRef {C n d : String} {v : Value} {A : Nat → Prop} {s : State} {args : Array Value} (h : va_Z C n d v A s s.heap) (hv : v.isRef = true) : (Cond.isRef (.static C n d)).before args s = true := by
  obtain ⟨cf, kf, fi, f, a, cell, h1, h2, h3, h4, h5, h6, h7, -⟩ := h
  have he : (Term.static C n d).eval args s none [] s = some v := by
    simp [Term.eval, State.fieldNamed?, h1, h2, h4, h5, h6, h7]
  simp only [Cond.before, Cond.holds, Cond.value, he]
  cases v <;> simp_all [Value.isRef]
theorem vx_isRefq {C n d : String} {A : Nat → Prop} {s : State} {args : Array Value} (h : va_Zq C n d A s s.heap) : (Cond.isRef (.static C n d)).before args s = true := by
  rcases h with h | ⟨t, h⟩
  · exact vx_isRef h rfl
  · exact vx_isRef h rfl
/-- the same frame, seen from here: as if the method were called anew in this heap -/
theorem vx_rebase {T : State} (X : Stand p l e R s m args below meth c T locs cells slots) {R' : Room} (hf : R'.frames ≤ R.frames) (hl : R'.locals ≤ R.locals) (hc : cells + R'.cells ≤ R.cells) (hs : slots + R'.slots ≤ R.slots) :
    Stand p l e R' ((T.setVm s.vm).setFrames (.invoking m args :: below)) m args below meth c T [] 0 0 := by
  have htop : (T.setVm s.vm).topJava?.isSome := X.here.top
  have hF : ((T.setVm s.vm).setFrames (.invoking m args :: below)).frames = .invoking m args :: below := State.frames_setFrames _ (State.cur_lt_of_top htop)
  obtain ⟨g₀, hg0⟩ := Option.isSome_iff_exists.mp htop
  obtain ⟨r, hr⟩ := State.topJava?_eq_some.mp hg0
  have hl9 : e.platform.stackLimits (T.setVm s.vm).me = e.platform.stackLimits s.me := X.limits
  have hb9 : (T.setVm s.vm).me.stackBytes = s.me.stackBytes := X.bytes
  refine ⟨X.admits, X.cas, X.clock, hF, ?_, X.hears, X.method, X.code, X.here, X.tail, X.warmed, ?_, ?_, ?_⟩
  · have h := X.room
    have hU : ((T.setVm s.vm).setFrames (.invoking m args :: below)).localsInUse = s.localsInUse := by
      rw [State.localsInUse_invoking hF (meth := meth) (c := c) X.method X.code, State.localsInUse_invoking X.frames X.method X.code]
    simp only [State.hasRoom, Bool.and_eq_true, decide_eq_true_eq] at h ⊢
    obtain ⟨⟨⟨⟨h1, h2, h3, h4, h5, h6⟩, h7⟩, h8⟩, h9⟩ := h
    rw [X.frames, List.length_cons] at h2 h3
    have q1 := X.heapSize
    have q2 := X.used
    simp only [hF, hU, List.length_cons, State.stackLimits_setFrames, State.stackBytes_setFrames, hl9, hb9]
    refine ⟨⟨⟨⟨by omega, by omega, by omega, by omega, by omega, h6⟩, ?_⟩, ?_⟩, X.book⟩
    · show T.heap.size + R'.cells ≤ e.platform.maxCells
      omega
    · show T.slotsUsed + R'.slots ≤ e.platform.maxSlots
      omega
  · rw [State.stackLimits_setFrames]; rfl
  · rw [State.stackBytes_setFrames]; rfl
  · refine ⟨?_, Nat.le_refl _, Nat.le_refl _, ?_, ?_, fun a c9 h9 => ⟨c9, h9, rfl, rfl, fun _ _ => rfl⟩⟩
    · obtain ⟨t, ht, -⟩ := State.frames_cons hr
      show T.setVm s.vm = { ((T.setVm s.vm).setFrames (.invoking m args :: below)).setFrames (T.setVm s.vm).frames with heap := T.heap, slotsUsed := T.slotsUsed }
      rw [State.setFrames_setFrames, State.setFrames_self ht]
      rfl
    · show T.slotsUsed = T.slotsUsed + ((T.heap.toList.drop T.heap.size).map (·.slots.size)).sum
      rw [List.drop_eq_nil_of_le (Nat.le_of_eq Array.length_toList)]
      rfl
    · show ((T.heap.toList.drop T.heap.size).map (·.slots.size)).sum ≤ 0
      rw [List.drop_eq_nil_of_le (Nat.le_of_eq Array.length_toList)]
      exact Nat.le_refl _
/-- 'throw new E()': new; dup; invokespecial; athrow -/
theorem vx_throw0 {cc : ByteArray} {pc : Nat} (hexec : p.tables.exec = Jvm.exec) (hb : c.code = cc) (hl : l.stackTraces = false) {own cls : String} {names : List String} {ik ic mc ms : Nat} {A : Nat → Prop}
    (hown : s.vm.findClass own = some m.cls) (hcls : Bundle.fit cls = true) (hnames : ∀ n ∈ names, Bundle.fit n = true)
    (hk : (Cond.classLink own ik cls).before args s = true) (hini : (Cond.initialized cls).before args s = true) (hat : ∀ w ∈ vx_at0 own ic cls names, w.before args s = true)
    (hgood : ∀ w ∈ Cond.classLink own ik cls :: Cond.initialized cls :: vx_at0 own ic cls names, vx_ot w = true)
    (hU : vx_Zq Bundle.tN "UNASSIGNED_STACK" Bundle.steD A s s.heap) (hN : vx_Zq Bundle.tN "SUPPRESSED_SENTINEL" Bundle.listD A s s.heap) (hS : va_S A s.heap H locs) (hsize : ls.size = c.maxLocals)
    (d0 : decode cc pc = .ok (.new ik, 3)) (d3 : decode cc (pc + 3) = .ok (.dup, 1)) (d4 : decode cc (pc + 4) = .ok (.invokespecial ic, 3)) (d7 : decode cc (pc + 7) = .ok (.athrow, 1))
    (hout : ∀ x ∈ c.exceptionTable.toList, covers x (pc + 7) = false)
    (hRframes : names.length + 3 < R.frames) (hRlocals : (rest.map fun v => v.category).sum + (13 * (names.length + 1) + 42) ≤ R.locals) (hRcells : cells + 1 ≤ R.cells) (hRslots : slots + 6 ≤ R.slots) (hlocks : meth.locks = false)
    (hx : ∀ t : State, s.vm.Alike t.vm → H.size ≤ t.heap.size → (∀ q : Nat, q < H.size → t.heap[q]? = H[q]?) → XC cls s t)
    (hf : ∀ z ∈ locs, free z.base) (hc : cells + 1 ≤ mc) (hs : slots + 6 ≤ ms) :
    W p l e R s m args below meth c H locs cells slots (vx_MQ below Qc XC args s mc ms free) (F0 m pc ls rest) := by
  intro T hT X
  have htr : e.platform.stackTraces = false := (show e.platform.stackTraces = l.stackTraces by rw [X.admits.platform]).trans hl
  have Y := vx_rebase X (R' := { frames := R.frames, locals := R.locals, cells := 1, slots := 6 }) (Nat.le_refl _) (Nat.le_refl _) hRcells hRslots
  obtain ⟨s', hA⟩ : ∃ z, z = (T.setVm s.vm).setFrames (.invoking m args :: below) := ⟨_, rfl⟩
  rw [← hA] at Y
  have hvm : s'.vm = s.vm := by rw [hA]; rfl
  have hhp : s'.heap = H := by rw [hA]; exact hT
  have hW0 : s.WarmedH s'.vm := by rw [hvm]; exact State.WarmedH.refl s
  have hat' : ∀ w ∈ vx_at0 own ic cls names, w.before args s' = true := fun w hw => vx_ot_at hW0 hvm.symm (hgood w (List.mem_cons_of_mem _ (List.mem_cons_of_mem _ hw))) (hat w hw)
  have hk' : (Cond.classLink own ik cls).before args s' = true := vx_ot_at hW0 hvm.symm (hgood _ List.mem_cons_self) hk
  have hini' : (Cond.initialized cls).before args s' = true := vx_ot_at hW0 hvm.symm (hgood _ (List.mem_cons_of_mem _ List.mem_cons_self)) hini
  have hU' : vx_Zq Bundle.tN "UNASSIGNED_STACK" Bundle.steD A s' s'.heap := by rw [hhp]; exact vx_Zq.moved hW0.alike (hU.kept hS.2.1)
  have hN' : vx_Zq Bundle.tN "SUPPRESSED_SENTINEL" Bundle.listD A s' s'.heap := by rw [hhp]; exact vx_Zq.moved hW0.alike (hN.kept hS.2.1)
  have h : ∀ w ∈ Bundle.ownAtoms0 own ic cls names, w.before args s' = true := vx_own hat' (vx_isRefq hU'.1) (vx_isRefq hN'.1) hU'.2.word hN'.2.word
  have hown' : s'.vm.findClass own = some m.cls := by rw [hvm]; exact hown
  have hins : (Cond.instantiable cls 6).before args s' = true := h _ (by simp [Bundle.ownAtoms0])
  obtain ⟨vm₁, cX, kX, hfX, hkX, -, -, X₁, st1⟩ := Y.newCold hexec (own := own) (C := cls) (index := ik) (n := 6) hown' hk' hins hini'
    (g := F0 m pc ls rest) rfl (by rw [hb]; exact d0) (Nat.le_refl _) (Nat.le_refl _)
  generalize hT1 : (T.setVm vm₁).pushCell { cls := cX, slots := kX.instanceTypes.map defaultValue, vm := .none } = T1 at X₁ st1
  have hcat : (Value.ref T.heap.size).category = 1 := rfl
  have hcellA : T1.heap[T.heap.size]? = some (freshCell cX kX) := by rw [← hT1]; exact State.heap_pushCell_size _ _
  have d3' : decode c.code (pc + 3) = .ok (.dup, 1) := by rw [hb]; exact d3
  obtain ⟨U, hsteps, hrun, hend, hW, hsame, ce, hce, hO⟩ := X₁.ctorThrow0 hexec htr (own := own) (cls := cls) (names := names) (ic := ic) hown' hcls hnames h (fun x hx => nomatch hx) hfX hkX hcellA (by rw [hhp, hT]; exact Nat.le_refl _)
    (g := { method := m, pc := pc + 4, locals := ls, stack := .ref T.heap.size :: .ref T.heap.size :: rest, locked := none }) rfl hsize rfl rfl (rest := rest) rfl
    (by rw [hb]; exact d4) (by rw [hb]; exact d7) hout hRframes (by simp only [List.map_cons, List.sum_cons, hcat]; omega) hlocks
  obtain ⟨f1, f2⟩ := vx_frame hsame
  rw [hhp] at f1 f2
  have hWs : s.WarmedH U.vm := State.WarmedH.trans hW0 hW
  have hcl : s.vm.findClass cls = some ce.cls := by
    have h9 := hO.cls
    rw [hvm] at h9
    exact h9
  have hall : s.sameButNew ({ U with vm := s.vm } : State) locs mc ms := by
    subst hA
    obtain ⟨e1, e2⟩ := hsame
    rw [State.setFrames_setFrames] at e1
    have h2 : (T.setVm s.vm).sameButNew ({ U with vm := s.vm } : State) [] (0 + 1) (0 + 6) := ⟨e1, e2⟩
    have h3 := X.same.trans h2
    rw [List.append_nil] at h3
    exact h3.mono hc hs
  refine ⟨U, ?_, .threw T.heap.size, hrun, hend, Or.inr ⟨T.heap.size, rfl, cls, ce, locs, hx U hWs.alike f1 (fun q hq => f2 q hq (fun z hz => nomatch hz)), hce, hO.vm, hcl, hWs, hall, hf⟩⟩
  refine st1 _ ?_
  show Steps p.tables e below (T1.setTop { method := m, pc := pc + 3, locals := ls, stack := .ref T.heap.size :: rest, locked := none }) _
  jvm_step X₁.here [X₁.here.top, hexec, d3', Value.category]
  exact hsteps
/-- 'throw new E("text")': new; dup; ldc; invokespecial; athrow -/
theorem vx_throwS {cc : ByteArray} {pc : Nat} (hexec : p.tables.exec = Jvm.exec) (hb : c.code = cc) (hl : l.stackTraces = false) {own cls text : String} {names : List String} {ik is ic mc ms sa : Nat} {A : Nat → Prop}
    (hown : s.vm.findClass own = some m.cls) (hcls : Bundle.fit cls = true) (hnames : ∀ n ∈ names, Bundle.fit n = true)
    (hk : (Cond.classLink own ik cls).before args s = true) (hini : (Cond.initialized cls).before args s = true) (hstr : vk_R own is text sa s) (hat : ∀ w ∈ vx_atS own ic cls names, w.before args s = true)
    (hgood : ∀ w ∈ Cond.classLink own ik cls :: Cond.initialized cls :: vx_atS own ic cls names, vx_ot w = true)
    (hU : vx_Zq Bundle.tN "UNASSIGNED_STACK" Bundle.steD A s s.heap) (hN : vx_Zq Bundle.tN "SUPPRESSED_SENTINEL" Bundle.listD A s s.heap) (hS : va_S A s.heap H locs) (hsize : ls.size = c.maxLocals)
    (d0 : decode cc pc = .ok (.new ik, 3)) (d3 : decode cc (pc + 3) = .ok (.dup, 1)) (d4 : decode cc (pc + 4) = .ok (.ldc is, 2)) (d6 : decode cc (pc + 6) = .ok (.invokespecial ic, 3)) (d9 : decode cc (pc + 9) = .ok (.athrow, 1))
    (hout : ∀ x ∈ c.exceptionTable.toList, covers x (pc + 9) = false)
    (hRframes : names.length + 3 < R.frames) (hRlocals : (rest.map fun v => v.category).sum + (13 * (names.length + 1) + 43) ≤ R.locals) (hRcells : cells + 1 ≤ R.cells) (hRslots : slots + 6 ≤ R.slots) (hlocks : meth.locks = false)
    (hx : ∀ t : State, s.vm.Alike t.vm → H.size ≤ t.heap.size → (∀ q : Nat, q < H.size → t.heap[q]? = H[q]?) → XC cls s t)
    (hf : ∀ z ∈ locs, free z.base) (hc : cells + 1 ≤ mc) (hs : slots + 6 ≤ ms) :
    W p l e R s m args below meth c H locs cells slots (vx_MQ below Qc XC args s mc ms free) (F0 m pc ls rest) := by
  intro T hT X
  have htr : e.platform.stackTraces = false := (show e.platform.stackTraces = l.stackTraces by rw [X.admits.platform]).trans hl
  have Y := vx_rebase X (R' := { frames := R.frames, locals := R.locals, cells := 1, slots := 6 }) (Nat.le_refl _) (Nat.le_refl _) hRcells hRslots
  obtain ⟨s', hA⟩ : ∃ z, z = (T.setVm s.vm).setFrames (.invoking m args :: below) := ⟨_, rfl⟩
  rw [← hA] at Y
  have hvm : s'.vm = s.vm := by rw [hA]; rfl
  have hhp : s'.heap = H := by rw [hA]; exact hT
  have hW0 : s.WarmedH s'.vm := by rw [hvm]; exact State.WarmedH.refl s
  have hat' : ∀ w ∈ vx_atS own ic cls names, w.before args s' = true := fun w hw => vx_ot_at hW0 hvm.symm (hgood w (List.mem_cons_of_mem _ (List.mem_cons_of_mem _ hw))) (hat w hw)
  have hk' : (Cond.classLink own ik cls).before args s' = true := vx_ot_at hW0 hvm.symm (hgood _ List.mem_cons_self) hk
  have hini' : (Cond.initialized cls).before args s' = true := vx_ot_at hW0 hvm.symm (hgood _ (List.mem_cons_of_mem _ List.mem_cons_self)) hini
  have hU' : vx_Zq Bundle.tN "UNASSIGNED_STACK" Bundle.steD A s' s'.heap := by rw [hhp]; exact vx_Zq.moved hW0.alike (hU.kept hS.2.1)
  have hN' : vx_Zq Bundle.tN "SUPPRESSED_SENTINEL" Bundle.listD A s' s'.heap := by rw [hhp]; exact vx_Zq.moved hW0.alike (hN.kept hS.2.1)
  have h : ∀ w ∈ Bundle.ownAtoms own ic cls names, w.before args s' = true := vx_own hat' (vx_isRefq hU'.1) (vx_isRefq hN'.1) hU'.2.word hN'.2.word
  have hown' : s'.vm.findClass own = some m.cls := by rw [hvm]; exact hown
  have hins : (Cond.instantiable cls 6).before args s' = true := h _ (by simp [Bundle.ownAtoms])
  obtain ⟨vm₁, cX, kX, hfX, hkX, -, -, X₁, st1⟩ := Y.newCold hexec (own := own) (C := cls) (index := ik) (n := 6) hown' hk' hins hini'
    (g := F0 m pc ls rest) rfl (by rw [hb]; exact d0) (Nat.le_refl _) (Nat.le_refl _)
  generalize hT1 : (T.setVm vm₁).pushCell { cls := cX, slots := kX.instanceTypes.map defaultValue, vm := .none } = T1 at X₁ st1
  have hcat : (Value.ref T.heap.size).category = 1 := rfl
  have hcellA : T1.heap[T.heap.size]? = some (freshCell cX kX) := by rw [← hT1]; exact State.heap_pushCell_size _ _
  have d3' : decode c.code (pc + 3) = .ok (.dup, 1) := by rw [hb]; exact d3
  have d4' : decode c.code (pc + 4) = .ok (.ldc is, 2) := by rw [hb]; exact d4
  have hstr' : vk_R own is text sa s' := vk_R.warm hW0 hstr
  obtain ⟨U, hsteps, hrun, hend, hW, hsame, ce, hce, hO⟩ := X₁.ctorThrowS hexec htr (own := own) (cls := cls) (names := names) (ic := ic) hown' hcls hnames h (fun x hx => nomatch hx) hfX hkX hcellA (by rw [hhp, hT]; exact Nat.le_refl _) (msg := .ref sa) rfl
    (g := { method := m, pc := pc + 6, locals := ls, stack := .ref sa :: .ref T.heap.size :: .ref T.heap.size :: rest, locked := none }) rfl hsize rfl rfl (rest := rest) rfl
    (by rw [hb]; exact d6) (by rw [hb]; exact d9) hout hRframes (by simp only [List.map_cons, List.sum_cons, hcat]; omega) hlocks
  obtain ⟨f1, f2⟩ := vx_frame hsame
  rw [hhp] at f1 f2
  have hWs : s.WarmedH U.vm := State.WarmedH.trans hW0 hW
  have hcl : s.vm.findClass cls = some ce.cls := by
    have h9 := hO.cls
    rw [hvm] at h9
    exact h9
  have hall : s.sameButNew ({ U with vm := s.vm } : State) locs mc ms := by
    subst hA
    obtain ⟨e1, e2⟩ := hsame
    rw [State.setFrames_setFrames] at e1
    have h2 : (T.setVm s.vm).sameButNew ({ U with vm := s.vm } : State) [] (0 + 1) (0 + 6) := ⟨e1, e2⟩
    have h3 := X.same.trans h2
    rw [List.append_nil] at h3
    exact h3.mono hc hs
  refine ⟨U, ?_, .threw T.heap.size, hrun, hend, Or.inr ⟨T.heap.size, rfl, cls, ce, locs, hx U hWs.alike f1 (fun q hq => f2 q hq (fun z hz => nomatch hz)), hce, hO.vm, hcl, hWs, hall, hf⟩⟩
  refine st1 _ ?_
  show Steps p.tables e below (T1.setTop { method := m, pc := pc + 3, locals := ls, stack := .ref T.heap.size :: rest, locked := none }) _
  jvm_step X₁.here [X₁.here.top, hexec, d3', Value.category]
  exact X₁.ldcString hexec (own := own) (text := text) (index := is) (a := sa) hown' hstr'.1 hstr'.2
    (g := { method := m, pc := pc + 4, locals := ls, stack := .ref T.heap.size :: .ref T.heap.size :: rest, locked := none }) rfl d4' _ hsteps
/-- 'throw new E("text")', the text by a wide index -/
theorem vx_throwSW {cc : ByteArray} {pc : Nat} (hexec : p.tables.exec = Jvm.exec) (hb : c.code = cc) (hl : l.stackTraces = false) {own cls text : String} {names : List String} {ik is ic mc ms sa : Nat} {A : Nat → Prop}
    (hown : s.vm.findClass own = some m.cls) (hcls : Bundle.fit cls = true) (hnames : ∀ n ∈ names, Bundle.fit n = true)
    (hk : (Cond.classLink own ik cls).before args s = true) (hini : (Cond.initialized cls).before args s = true) (hstr : vk_R own is text sa s) (hat : ∀ w ∈ vx_atS own ic cls names, w.before args s = true)
    (hgood : ∀ w ∈ Cond.classLink own ik cls :: Cond.initialized cls :: vx_atS own ic cls names, vx_ot w = true)
    (hU : vx_Zq Bundle.tN "UNASSIGNED_STACK" Bundle.steD A s s.heap) (hN : vx_Zq Bundle.tN "SUPPRESSED_SENTINEL" Bundle.listD A s s.heap) (hS : va_S A s.heap H locs) (hsize : ls.size = c.maxLocals)
    (d0 : decode cc pc = .ok (.new ik, 3)) (d3 : decode cc (pc + 3) = .ok (.dup, 1)) (d4 : decode cc (pc + 4) = .ok (.ldc_w is, 3)) (d7 : decode cc (pc + 7) = .ok (.invokespecial ic, 3)) (d10 : decode cc (pc + 10) = .ok (.athrow, 1))
    (hout : ∀ x ∈ c.exceptionTable.toList, covers x (pc + 10) = false)
    (hRframes : names.length + 3 < R.frames) (hRlocals : (rest.map fun v => v.category).sum + (13 * (names.length + 1) + 43) ≤ R.locals) (hRcells : cells + 1 ≤ R.cells) (hRslots : slots + 6 ≤ R.slots) (hlocks : meth.locks = false)
    (hx : ∀ t : State, s.vm.Alike t.vm → H.size ≤ t.heap.size → (∀ q : Nat, q < H.size → t.heap[q]? = H[q]?) → XC cls s t)
    (hf : ∀ z ∈ locs, free z.base) (hc : cells + 1 ≤ mc) (hs : slots + 6 ≤ ms) :
    W p l e R s m args below meth c H locs cells slots (vx_MQ below Qc XC args s mc ms free) (F0 m pc ls rest) := by
  intro T hT X
  have htr : e.platform.stackTraces = false := (show e.platform.stackTraces = l.stackTraces by rw [X.admits.platform]).trans hl
  have Y := vx_rebase X (R' := { frames := R.frames, locals := R.locals, cells := 1, slots := 6 }) (Nat.le_refl _) (Nat.le_refl _) hRcells hRslots
  obtain ⟨s', hA⟩ : ∃ z, z = (T.setVm s.vm).setFrames (.invoking m args :: below) := ⟨_, rfl⟩
  rw [← hA] at Y
  have hvm : s'.vm = s.vm := by rw [hA]; rfl
  have hhp : s'.heap = H := by rw [hA]; exact hT
  have hW0 : s.WarmedH s'.vm := by rw [hvm]; exact State.WarmedH.refl s
  have hat' : ∀ w ∈ vx_atS own ic cls names, w.before args s' = true := fun w hw => vx_ot_at hW0 hvm.symm (hgood w (List.mem_cons_of_mem _ (List.mem_cons_of_mem _ hw))) (hat w hw)
  have hk' : (Cond.classLink own ik cls).before args s' = true := vx_ot_at hW0 hvm.symm (hgood _ List.mem_cons_self) hk
  have hini' : (Cond.initialized cls).before args s' = true := vx_ot_at hW0 hvm.symm (hgood _ (List.mem_cons_of_mem _ List.mem_cons_self)) hini
  have hU' : vx_Zq Bundle.tN "UNASSIGNED_STACK" Bundle.steD A s' s'.heap := by rw [hhp]; exact vx_Zq.moved hW0.alike (hU.kept hS.2.1)
  have hN' : vx_Zq Bundle.tN "SUPPRESSED_SENTINEL" Bundle.listD A s' s'.heap := by rw [hhp]; exact vx_Zq.moved hW0.alike (hN.kept hS.2.1)
  have h : ∀ w ∈ Bundle.ownAtoms own ic cls names, w.before args s' = true := vx_own hat' (vx_isRefq hU'.1) (vx_isRefq hN'.1) hU'.2.word hN'.2.word
  have hown' : s'.vm.findClass own = some m.cls := by rw [hvm]; exact hown
  have hins : (Cond.instantiable cls 6).before args s' = true := h _ (by simp [Bundle.ownAtoms])
  obtain ⟨vm₁, cX, kX, hfX, hkX, -, -, X₁, st1⟩ := Y.newCold hexec (own := own) (C := cls) (index := ik) (n := 6) hown' hk' hins hini'
    (g := F0 m pc ls rest) rfl (by rw [hb]; exact d0) (Nat.le_refl _) (Nat.le_refl _)
  generalize hT1 : (T.setVm vm₁).pushCell { cls := cX, slots := kX.instanceTypes.map defaultValue, vm := .none } = T1 at X₁ st1
  have hcat : (Value.ref T.heap.size).category = 1 := rfl
  have hcellA : T1.heap[T.heap.size]? = some (freshCell cX kX) := by rw [← hT1]; exact State.heap_pushCell_size _ _
  have d3' : decode c.code (pc + 3) = .ok (.dup, 1) := by rw [hb]; exact d3
  have d4' : decode c.code (pc + 4) = .ok (.ldc_w is, 3) := by rw [hb]; exact d4
  have hstr' : vk_R own is text sa s' := vk_R.warm hW0 hstr
  obtain ⟨U, hsteps, hrun, hend, hW, hsame, ce, hce, hO⟩ := X₁.ctorThrowS hexec htr (own := own) (cls := cls) (names := names) (ic := ic) hown' hcls hnames h (fun x hx => nomatch hx) hfX hkX hcellA (by rw [hhp, hT]; exact Nat.le_refl _) (msg := .ref sa) rfl
    (g := { method := m, pc := pc + 7, locals := ls, stack := .ref sa :: .ref T.heap.size :: .ref T.heap.size :: rest, locked := none }) rfl hsize rfl rfl (rest := rest) rfl
    (by rw [hb]; exact d7) (by rw [hb]; exact d10) hout hRframes (by simp only [List.map_cons, List.sum_cons, hcat]; omega) hlocks
  obtain ⟨f1, f2⟩ := vx_frame hsame
  rw [hhp] at f1 f2
  have hWs : s.WarmedH U.vm := State.WarmedH.trans hW0 hW
  have hcl : s.vm.findClass cls = some ce.cls := by
    have h9 := hO.cls
    rw [hvm] at h9
    exact h9
  have hall : s.sameButNew ({ U with vm := s.vm } : State) locs mc ms := by
    subst hA
    obtain ⟨e1, e2⟩ := hsame
    rw [State.setFrames_setFrames] at e1
    have h2 : (T.setVm s.vm).sameButNew ({ U with vm := s.vm } : State) [] (0 + 1) (0 + 6) := ⟨e1, e2⟩
    have h3 := X.same.trans h2
    rw [List.append_nil] at h3
    exact h3.mono hc hs
  refine ⟨U, ?_, .threw T.heap.size, hrun, hend, Or.inr ⟨T.heap.size, rfl, cls, ce, locs, hx U hWs.alike f1 (fun q hq => f2 q hq (fun z hz => nomatch hz)), hce, hO.vm, hcl, hWs, hall, hf⟩⟩
  refine st1 _ ?_
  show Steps p.tables e below (T1.setTop { method := m, pc := pc + 3, locals := ls, stack := .ref T.heap.size :: rest, locked := none }) _
  jvm_step X₁.here [X₁.here.top, hexec, d3', Value.category]
  exact X₁.ldcStringW hexec (own := own) (text := text) (index := is) (a := sa) hown' hstr'.1 hstr'.2
    (g := { method := m, pc := pc + 4, locals := ls, stack := .ref T.heap.size :: .ref T.heap.size :: rest, locked := none }) rfl d4' _ hsteps
end Ends
section Bodies
variable {l : Launch}
theorem vx_ofW {y : MethodName} {ws ws' : List Cond} {rm : Room} {Pc : Array Value → State → Prop} {Qc : Array Value → State → Outcome → State → Prop} {XC : String → State → State → Prop} {mc ms : Nat} {free : Addr → Prop} {cc : ByteArray} {maxL : Nat} {ret : Option FieldType}
    (hy : plainName y.cls = true) (hw : ws = Cond.code y cc maxL ret :: ws')
    (body : ∀ p e s m args below meth c s₁, BodyLoose p l y (headSpec ws rm) cc maxL ret e s m args below meth c s₁ → c.maxLocals = maxL → (∀ x ∈ c.exceptionTable.toList, False) → Pc args s →
      W p l e (headSpec ws rm).room s m args below meth c s.heap [] 0 0 (vx_MQ below Qc XC args s mc ms free) (entryFrame m args maxL)) : vx_Met l y ws rm Pc Qc XC mc ms free := by
  refine MetFree.of_bodyS (code := cc) (maxLocals := maxL) (ret := ret) hy ?_ ?_
  · intro args s m h hn
    obtain ⟨meth, c, h1, h2, h3, h4, h5, h6, -, -⟩ := Cond.code_spec hn (atoms_spec (ws := ws) h _ (by rw [hw]; exact List.mem_cons_self))
    exact ⟨meth, c, h1, h2, h3, h4, h5, h6⟩
  · intro p e s m args below meth c s₁ B hml hP _
    have hh0 : s₁.heap = s.heap := by rw [B.state]; rfl
    have ht : ∀ x ∈ c.exceptionTable.toList, False := by
      obtain ⟨meth9, c9, h1, h2, -, -, -, -, h7, -⟩ := Cond.code_spec B.named (atoms_spec (ws := ws) B.pre _ (by rw [hw]; exact List.mem_cons_self))
      cases Option.some.inj (h1.symm.trans B.method)
      cases Option.some.inj (h2.symm.trans (Stand.of_body B).code)
      intro x hx
      rw [Array.isEmpty_iff.mp h7] at hx
      cases hx
    obtain ⟨t, a1, o, b1, b2, b3⟩ := body p e s m args below meth c s₁ B hml ht hP s₁ hh0 (Stand.of_body B)
    exact ⟨t, o, a1, b1, b2, b3⟩
/-- the table of a body with handlers -/
theorem vx_table {p : Program} {x y : MethodName} {S : Spec} {cc bytes : ByteArray} {maxL maxL' : Nat} {ret ret' : Option FieldType} {e : Env} {s s₁ : State} {m : MethodId} {args : Array Value} {below : List Frame} {meth : Method} {c : Code} {hh : List (Nat × Nat × Nat × Nat)}
    (B : BodyLoose p l y S cc maxL ret e s m args below meth c s₁) (h : (Cond.codeWith y bytes maxL' ret' hh).before args s = true) : c.exceptionTable.toList = tableOf hh := by
  obtain ⟨m9, meth9, c9, hn9, h1, h2, -, -, h6, -⟩ := Cond.codeWith_spec h
  cases Option.some.inj (hn9.symm.trans B.named)
  cases Option.some.inj (h1.symm.trans B.method)
  cases Option.some.inj (h2.symm.trans (Stand.of_body B).code)
  rw [← h6, table_eq]
end Bodies
end VXA
/-! ===== END ===== -/
/-! ===== BEGIN a static call of a method with an exception table ===== -/
section VXS
variable {p : Program} {l : Launch} {e : Env} {R : Room} {s : State} {m : MethodId} {args : Array Value} {below : List Frame} {meth : Method} {c : Code} {T : State} {H : Heap} {locs : List Loc} {cells slots : Nat}
abbrev vx_CSW (R : Room) (s : State) (args : Array Value) (own : String) (index : Nat) (y : MethodName) (bytes : ByteArray) (maxL : Nat) (ret : Option FieldType) (hh : List (Nat × Nat × Nat × Nat)) (ws : List Cond) (rm : Room) (mc ms n : Nat) : Prop :=
  (rm.cells = mc ∧ rm.slots = ms ∧ rm.frames + 1 ≤ R.frames ∧ 8 + (maxL + 11) + rm.locals ≤ R.locals ∧ (∀ w ∈ ws, ∀ (a' : Array Value) (U : State), s.WarmedH U.vm → w.before a' U = true) ∧ Cond.codeWith y bytes maxL ret hh ∈ ws) ∧
  (Cond.codeWith y bytes maxL ret hh).before args s = true ∧ (Cond.initialized y.cls).before args s = true ∧ (y.cls ≠ "java/lang/invoke/MethodHandle" ∧ y.cls ≠ "java/lang/invoke/VarHandle") ∧
  (∀ sig, parseMethodDescriptor y.desc = some sig → n = sig.parameters.length) ∧ (Cond.methodLink own index y).before args s = true ∧ (Cond.static y).before args s = true
theorem vx_cwSW {own : String} {index maxL mc ms : Nat} {y : MethodName} {bytes : ByteArray} {ret : Option FieldType} {hh : List (Nat × Nat × Nat × Nat)} {Ts ws ws' : List Cond} {rm : Room} (n : Nat) (ht : ∀ w ∈ Ts, w.before args s = true) (hT : GoodIn Ts (va_wsS own index y ws)) (hw : ws = Cond.codeWith y bytes maxL ret hh :: ws') (hrc : rm.cells = mc) (hrs : rm.slots = ms)
    (hd : y.cls ≠ "java/lang/invoke/MethodHandle" ∧ y.cls ≠ "java/lang/invoke/VarHandle" ∧ (parseMethodDescriptor y.desc).map (fun d => d.parameters.length) = some n) (hR : rm.frames + 1 ≤ R.frames ∧ 8 + (maxL + 11) + rm.locals ≤ R.locals) :
    vx_CSW R s args own index y bytes maxL ret hh ws rm mc ms n := by
  have ok : ∀ w ∈ va_wsS own index y ws, w.before args s = true := fun w h => ht w (hT w h).1
  have hG : GoodIn Ts ws := fun w h => hT w (by unfold va_wsS; exact List.mem_append_right _ h)
  have hc : Cond.codeWith y bytes maxL ret hh ∈ ws := by rw [hw]; exact List.mem_cons_self
  refine ⟨⟨hrc, hrs, hR.1, hR.2, pay_in ht hG, hc⟩, ht _ (hG _ hc).1, ok _ (by simp [va_wsS]), ⟨hd.1, hd.2.1⟩, fun sig h => ?_, ok _ (by simp [va_wsS]), ok _ (by simp [va_wsS])⟩
  have h2 := hd.2.2
  rw [h] at h2
  exact (Option.some.inj h2).symm
theorem vx_callSW (X : Stand p l e R s m args below meth c T locs cells slots) (hexec : p.tables.exec = Jvm.exec) {own : String} {index : Nat} {y : MethodName} {bytes : ByteArray} {maxL : Nat} {ret : Option FieldType} {hh : List (Nat × Nat × Nat × Nat)}
    (hown : s.vm.findClass own = some m.cls) (hlink : (Cond.methodLink own index y).before args s = true) (hstat : (Cond.static y).before args s = true) (hinit : (Cond.initialized y.cls).before args s = true)
    (hcode : (Cond.codeWith y bytes maxL ret hh).before args s = true) (hy : y.cls ≠ "java/lang/invoke/MethodHandle" ∧ y.cls ≠ "java/lang/invoke/VarHandle")
    {W9 : Nat} {Pre : Pt → Array Value → Prop} {Post : Pt → Array Value → Option Value → Pt → Prop} (hK : Back l R p e below s args y 3 W9 Pre Post)
    {g : JFrame} (hg : g.method = m) (hsize : g.locals.size = c.maxLocals) {argsL rest : List Value} (hlen : ∀ sig, parseMethodDescriptor y.desc = some sig → argsL.length = sig.parameters.length)
    (hstack : g.stack = argsL.reverse ++ rest) (hW : 2 * g.monitorRoom + (rest.map fun v => v.category).sum ≤ W9) (hdg : decode c.code g.pc = .ok (.invokestatic index, 3))
    (hpre : ∀ vm₁, s.WarmedH vm₁ → Pre ⟨T.setVm vm₁, locs, cells, slots⟩ argsL.toArray) :
    ∃ (v : Option Value) (vm₁ : Vm) (B : Pt), s.WarmedH vm₁ ∧ Stand p l e R s m args below meth c B.U B.locs B.cells B.slots ∧ Post ⟨T.setVm vm₁, locs, cells, slots⟩ argsL.toArray v B ∧
      ∀ target, Steps p.tables e below (B.U.setTop { g with pc := g.pc + 3, stack := v.toList ++ rest }) target → Steps p.tables e below (T.setTop g) target := by
  obtain ⟨mk, methM, cM, hnamed, hmethM, -, -, -, -, -, -, hsigM⟩ := Cond.codeWith_spec hcode
  have hstatic : methM.isStatic = true := Cond.static_spec hnamed hmethM hstat
  obtain ⟨kP, hkP, -⟩ := className_of_methodNamed hnamed
  have hinitP : kP.init = .initialized := Cond.initialized_spec (findClass_of_methodNamed hnamed) hkP hinit
  obtain ⟨vm₁, X₁, hstep₁⟩ := X.invokestatic hexec hown hlink hnamed hmethM hstatic hkP hinitP hy (g := g) hg (argsL := argsL) (rest := rest) (hlen _ hsigM) hstack hdg
  obtain ⟨v, B, X', hpost, hsteps⟩ := hK m meth c ⟨T.setVm vm₁, locs, cells, slots⟩ { g with stack := rest } (.invokestatic index) mk argsL.toArray X₁ hg hsize hdg hW (X₁.named hnamed) (hpre vm₁ X₁.warmed)
  exact ⟨v, vm₁, B, X₁.warmed, X', hpost, fun target h => hstep₁ _ fun acts => by rw [doInvoke_state]; exact hsteps.trans h⟩
theorem vx_runSW {y : MethodName} {bytes cc : ByteArray} {maxL nL mc ms n index : Nat} {ret : Option FieldType} {hh : List (Nat × Nat × Nat × Nat)} {ws : List Cond} {rm : Room} {Pc : Array Value → State → Prop} {Qc : Array Value → State → Outcome → State → Prop} {free : Addr → Prop} {Ts : List Cond} {own : String} {As rest : List Value} {g : JFrame}
    (S : CallFix p m c cc nL s args Ts own) (hM : Met l y ws rm Pc Qc mc ms free) (cw : vx_CSW R s args own index y bytes maxL ret hh ws rm mc ms n) (hp : PreS s H Pc As)
    (hg : g.method = m) (hn : As.length = n) (hsize : g.locals.size = nL) (hstack : g.stack = As.reverse ++ rest) (hW : 2 * g.monitorRoom + (rest.map fun v => v.category).sum ≤ 8) (hdg : decode cc g.pc = .ok (.invokestatic index, 3)) (hf : cells + mc ≤ R.cells ∧ slots + ms ≤ R.slots) :
    va_Run p l e R s m args below meth c H locs cells slots mc ms g rest (Qc As.toArray) (free) := by
  obtain ⟨⟨hrc, hrs, hfr, hlo, hws, hcw⟩, hcode, hini, hy, hlen, hl, hstt⟩ := cw
  have hK : Back l R p e below s args y 3 8 (PreOf R mc ms Pc) (PostOf Qc mc ms free) := va_backW (hh := hh) (bytes := bytes) (maxL := maxL) (ret := ret) hM hp.1 hrc hrs hfr hlo hws hcw (fun a' U hW => word_at hW (Or.inl (by first | rfl | simp [Cond.onTables, Cond.keeps, Cond.steady])) hini)
  obtain ⟨hx, hb, hml, ho, -⟩ := S
  intro T hT X
  obtain ⟨v, vm₁, ⟨U', l2, c2, s2⟩, hW₁, X', ⟨g', mk, t, L, e1, e2, hq, h1, hL, h2, h3⟩, st⟩ := vx_callSW X hx (hh := hh) (bytes := bytes) (maxL := maxL) (ret := ret) ho hl hstt hini hcode hy hK hg (hsize.trans hml.symm) (argsL := As) (rest := rest) (fun sig h => hn.trans (hlen sig h)) hstack hW (by rw [hb]; exact hdg)
    (fun vm₁ hW₁ => ⟨hf.1, hf.2, hp.2 (T.setVm vm₁) hT hW₁⟩)
  dsimp only [Pt.U, Pt.locs, Pt.cells, Pt.slots] at X' e1 e2 h1 h2 h3 st
  subst h1; subst h2; subst h3
  exact ⟨v, (T.setVm vm₁).calling g' mk As.toArray, t, U', L, hT, X', hL, e1, e2, hq, st⟩
/-- not caught here, past rows that name other classes: it goes on to the caller -/
theorem vx_outP {p : Program} {l : Launch} {e : Env} {R : Room} {s : State} {m : MethodId} {args : Array Value} {below : List Frame} {meth : Method} {c : Code} {H : Heap} {locs : List Loc} {cells slots : Nat} {free : Addr → Prop} {ls : Array Slot} {rest : List Value} {Qc : Array Value → State → Outcome → State → Prop} {XC : String → State → State → Prop}
    {pc : Nat} {own E : String} {ce : Cell} {q : Addr} {mc ms : Nat} (hown : s.vm.findClass own = some m.cls) (hlocks : meth.locks = false)
    (hpass : ∀ z ∈ c.exceptionTable.toList, covers z pc = false ∨ (z.catchType ≠ 0 ∧ ∃ nm : String, (Cond.classLink own z.catchType nm).before args s = true ∧ va_Nc E nm s)) (hcell : H[q]? = some ce) (hv : ce.vm = .none) (hcl : s.vm.findClass E = some ce.cls)
    (hx : ∀ t : State, t.heap = H → s.vm.Alike t.vm → XC E s t) (hf : ∀ z ∈ locs, free z.base) (hc : cells ≤ mc) (hs : slots ≤ ms) :
    vx_W p l e R s m args below meth c H locs cells slots (vx_MQ below Qc XC args s mc ms free) (F0 m pc ls rest) q := by
  intro T hT X
  have hpl : e.platform.magicAccessors = ({} : Platform).magicAccessors := by rw [X.admits.platform]
  obtain ⟨vm', hW', X', st⟩ := X.outThrough hlocks q (g := F0 m pc ls rest) rfl rfl rfl (cell := ce) (by rw [hT]; exact hcell) (by rw [hv]; rfl)
    (by obtain ⟨k9, h9, -⟩ := Vm.findClass_spec hcl; exact ⟨k9, h9⟩) (fun z hz => by
      rcases hpass z hz with h | ⟨hz0, nm, hl1, hn1⟩
      · exact Or.inl h
      · obtain ⟨c6, hc6, hcl6⟩ := Cond.classLink_spec hown hl1 e.platform hpl
        obtain ⟨a8, b8, h1, h2, h3⟩ := hn1
        cases Option.some.inj (h1.symm.trans hcl)
        cases Option.some.inj (h2.symm.trans hc6)
        exact Or.inr ⟨hz0, _, hcl6, h3⟩)
  obtain ⟨g₀, hfr⟩ := X'.frames_eq
  have hcell9 : ((T.setVm vm').setFrames (.throwing q :: below)).heap[q]? = some ce := by
    show T.heap[q]? = some ce
    rw [hT]; exact hcell
  have hend : Ended ((T.setVm vm').setFrames (.throwing q :: below)) below (.threw q) := State.frames_setFrames _ (State.cur_lt_of_frames hfr)
  refine ⟨(T.setVm vm').setFrames (.throwing q :: below), ?_, .threw q, X'.here.running, hend, Or.inr ⟨q, rfl, E, ce, locs, hx _ hT (X'.ends _).1.alike, hcell9, hv, hcl, (X'.ends _).1, (X'.ends _).2.mono hc hs, hf⟩⟩
  rw [X.pushThrowing_eq]
  exact st
/-- a thing of a world lies in the heap -/
theorem vx_lt {D : va_G} {cl : List vw_C} {ws : va_W} {H1 : Heap} (h : va_P D cl ws H1) {k : Nat} {q : Nat × va_E} (hk : ws[k]? = some q) : q.1 < H1.size := (h k q hk).lt
end VXS
/-! ===== END ===== -/
/-! ===== BEGIN methods with a table of their own: called by a name, returning or throwing ===== -/
section VXH
/-! vx_backW, vx_callVX, vx_callSX, vx_callVW, vx_runVW, vx_runVX, vx_runSX, vx_ofWH follow the same proofs as their sisters above (Free/Laws.lean, Shelf42/LK1.lean); vx_outP calls Shelf42/NT130.lean (outThrough). -/
section
variable {l : Launch} {R : Room} {p : Program} {e : Env} {below : List Frame} {s : State} {sargs : Array Value} {y : MethodName} {len W9 : Nat}
theorem vx_backW {ws : List Cond} {rm : Room} {Pc : Array Value → State → Prop} {Qc : Array Value → State → Outcome → State → Prop} {XC : String → State → State → Prop} {mc ms : Nat} {free : Addr → Prop} {bytes : ByteArray} {maxL : Nat} {ret : Option FieldType} {hh : List (Nat × Nat × Nat × Nat)}
    (hM : vx_Met l y ws rm Pc Qc XC mc ms free) (hblind : FrameBlind Pc) (hrc : rm.cells = mc) (hrs : rm.slots = ms)
    (hframes : rm.frames + 1 ≤ R.frames) (hlocals : W9 + (maxL + 11) + rm.locals ≤ R.locals)
    (hws : ∀ w ∈ ws, ∀ a' U, s.WarmedH U.vm → w.before a' U = true) (hcode : Cond.codeWith y bytes maxL ret hh ∈ ws) (hinit : ∀ a' U, s.WarmedH U.vm → (Cond.initialized y.cls).before a' U = true) :
    vx_Back l R p e below s sargs y len W9 (PreOf R mc ms Pc) (PostOf Qc mc ms free) (vx_Post XC mc ms free) := by
  intro m meth c A g ig mk a X hg hsize hdg hW hn hp
  have h1 : (headSpec ws rm).pre.before a A.U = true := atoms_intro fun w hw => hws w hw _ _ X.warmed
  have h2 : (Cond.codeWith y bytes maxL ret hh).before a A.U = true := hws _ hcode _ _ X.warmed
  have h3 : (Cond.initialized y.cls).before a A.U = true := hinit _ _ X.warmed
  have h4 : A.cells + (headSpec ws rm).room.cells ≤ R.cells := by rw [show (headSpec ws rm).room.cells = mc from hrc]; exact hp.1
  have h5 : A.slots + (headSpec ws rm).room.slots ≤ R.slots := by rw [show (headSpec ws rm).room.slots = ms from hrs]; exact hp.2.1
  have hPc : Pc a (A.U.calling g mk a) := hblind _ _ _ _ hp.2.2
  obtain ⟨U, Ls, c0, s0⟩ := A
  dsimp only [Pt.U, Pt.locs, Pt.cells, Pt.slots] at h1 h2 h3 h4 h5 X hn hPc ⊢
  obtain ⟨m9, methY, cY, hn9, hmY, hcY, -, hlY, -⟩ := Cond.codeWith_spec h2
  cases Option.some.inj (hn9.symm.trans hn)
  obtain ⟨kY, hkY, -⟩ := className_of_methodNamed hn
  have hinitY : kY.init = .initialized := Cond.initialized_spec (findClass_of_methodNamed hn) hkY h3
  have h : At U g.method c below := by rw [hg]; exact X.here
  have hlocals9 : W9 + (maxL + 11) + (headSpec ws rm).room.locals ≤ R.locals := hlocals
  have happ : (headSpec ws rm).appliesLoose y e.platform (U.calling g mk a) = true :=
    Spec.appliesLoose_calling (g := g) h hdg hn hkY hinitY
      (X.room_calling (g := g) (R' := (headSpec ws rm).room) hsize hmY hcY hframes (by rw [hlY]; omega) h4 h5) h1
  obtain ⟨mid, hmid⟩ := h.above
  have hfr : (U.setTop g).frames = (.java g :: mid) ++ below := by rw [State.frames_setTop' g h.top, hmid]; rfl
  obtain ⟨o, s₂, hsteps, -, hend, hq⟩ := Steps.callFree hM p X.admits X.cas X.clock (acts := []) hfr happ hPc trivial
  have hq' : vx_Q Qc XC mc ms free a (U.calling g mk a) o s₂ := hq
  rw [State.frames_setTop' g h.top] at hend
  obtain ⟨g₀, hg0⟩ := Option.isSome_iff_exists.mp h.top
  obtain ⟨r, hr⟩ := State.topJava?_eq_some.mp hg0
  have hr' : (({ U with heap := s₂.heap, slotsUsed := s₂.slotsUsed } : State).setVm s₂.vm).frames = .java g₀ :: r := hr
  rcases hq' with ⟨hqc, L, hfe, hL⟩ | ⟨q, rfl, E, ce, L, hx, hce, hcv, hcl, hW₂, hsm, hL⟩
  · obtain ⟨⟨v, rfl⟩, hW₂, e2, q2, q3, q4, q5, q6⟩ := id hfe
    have e3 : s₂ = ({ (U.calling g mk a).setFrames s₂.frames with heap := s₂.heap, slotsUsed := s₂.slotsUsed } : State).setVm s₂.vm := by
      have : s₂ = ({ s₂ with vm := (U.calling g mk a).vm } : State).setVm s₂.vm := rfl
      rw [e2] at this
      exact this
    obtain ⟨c₂, i₂, len₂, hc₂, hd₂, hf₂⟩ := hend
    have hW' : U.WarmedH s₂.vm := hW₂
    have hcc : c₂ = c := by
      have h1 : s₂.code? g.method = U.code? g.method := by
        rw [State.code?_eq, State.code?_eq, hW'.alike.method?]
      exact Option.some.inj (hc₂.symm.trans (h1.trans h.code))
    subst hcc
    have hlen : len₂ = len := by rw [hdg] at hd₂; cases hd₂; rfl
    subst hlen
    have hs₂ : s₂ = (({ U with heap := s₂.heap, slotsUsed := s₂.slotsUsed } : State).setVm s₂.vm).setTop { g with pc := g.pc + len₂, stack := v.toList ++ g.stack } := by
      refine e3.trans ?_
      rw [hf₂, State.calling_eq h.top, State.setFrames_setFrames, State.setTop_of_frames _ hr', hr]
      rfl
    have hsame : U.sameButNew ({ U with heap := s₂.heap, slotsUsed := s₂.slotsUsed } : State) L mc ms := by
      refine ⟨?_, q2, q3, q4, q5, q6⟩
      obtain ⟨t, ht, -⟩ := State.frames_cons hr
      show ({ U with heap := s₂.heap, slotsUsed := s₂.slotsUsed } : State) = { U.setFrames U.frames with heap := s₂.heap, slotsUsed := s₂.slotsUsed }
      rw [State.setFrames_self ht]
    subst hg
    refine Or.inl ⟨v, ⟨(({ U with heap := s₂.heap, slotsUsed := s₂.slotsUsed } : State).setVm s₂.vm), Ls ++ L, c0 + mc, s0 + ms⟩,
      ⟨X.admits, X.cas, X.clock, X.frames, X.room, X.hears, X.method, X.code, (X.here.setHeapUsed s₂.heap s₂.slotsUsed).setVm hW'.alike, X.tail, State.WarmedH.trans X.warmed hW', X.limits, X.bytes, X.same.trans (hsame.setVm s.vm)⟩,
      ⟨g, mk, s₂, L, rfl, rfl, hqc, rfl, hL, rfl, rfl⟩, ?_⟩
    show Steps p.tables e below _ ((({ U with heap := s₂.heap, slotsUsed := s₂.slotsUsed } : State).setVm s₂.vm).setTop { g with pc := g.pc + len₂, stack := v.toList ++ g.stack })
    rw [← hs₂]
    exact hsteps
  · obtain ⟨e2, q2, q3, q4, q5, q6⟩ := id hsm
    have e3 : s₂ = ({ (U.calling g mk a).setFrames s₂.frames with heap := s₂.heap, slotsUsed := s₂.slotsUsed } : State).setVm s₂.vm := by
      have : s₂ = ({ s₂ with vm := (U.calling g mk a).vm } : State).setVm s₂.vm := rfl
      rw [e2] at this
      exact this
    have hf₂ : s₂.frames = .throwing q :: .java g :: U.frames.tail := hend
    have hW' : U.WarmedH s₂.vm := hW₂
    have hs₂ : s₂ = ((({ U with heap := s₂.heap, slotsUsed := s₂.slotsUsed } : State).setVm s₂.vm).setTop g).pushFrame (.throwing q) := by
      refine e3.trans ?_
      rw [hf₂, State.calling_eq h.top, State.setFrames_setFrames, State.pushFrame, State.frames_setTop _ hr', State.setTop_of_frames _ hr', State.setFrames_setFrames, hr]
      rfl
    have hsame : U.sameButNew ({ U with heap := s₂.heap, slotsUsed := s₂.slotsUsed } : State) L mc ms := by
      refine ⟨?_, q2, q3, q4, q5, q6⟩
      obtain ⟨t, ht, -⟩ := State.frames_cons hr
      show ({ U with heap := s₂.heap, slotsUsed := s₂.slotsUsed } : State) = { U.setFrames U.frames with heap := s₂.heap, slotsUsed := s₂.slotsUsed }
      rw [State.setFrames_self ht]
    subst hg
    refine Or.inr ⟨q, ⟨(({ U with heap := s₂.heap, slotsUsed := s₂.slotsUsed } : State).setVm s₂.vm), Ls ++ L, c0 + mc, s0 + ms⟩,
      ⟨X.admits, X.cas, X.clock, X.frames, X.room, X.hears, X.method, X.code, (X.here.setHeapUsed s₂.heap s₂.slotsUsed).setVm hW'.alike, X.tail, State.WarmedH.trans X.warmed hW', X.limits, X.bytes, X.same.trans (hsame.setVm s.vm)⟩,
      ⟨g, mk, s₂, L, E, ce, rfl, rfl, hx, hce, hcv, hcl, rfl, hL, rfl, rfl⟩, ?_⟩
    show Steps p.tables e below _ (((({ U with heap := s₂.heap, slotsUsed := s₂.slotsUsed } : State).setVm s₂.vm).setTop g).pushFrame (.throwing q))
    rw [← hs₂]
    exact hsteps
end
variable {p : Program} {l : Launch} {e : Env} {R : Room} {s : State} {m : MethodId} {args : Array Value} {below : List Frame} {meth : Method} {c : Code} {T : State} {H : Heap} {locs : List Loc} {cells slots : Nat}
theorem vx_callVX (X : Stand p l e R s m args below meth c T locs cells slots) (hexec : p.tables.exec = Jvm.exec) {own C : String} {index : Nat} {y : MethodName} {bytes : ByteArray} {maxL : Nat} {ret : Option FieldType} {hh : List (Nat × Nat × Nat × Nat)}
    (hown : s.vm.findClass own = some m.cls) (hlink : (Cond.methodLink own index y).before args s = true) (hinst : (Cond.instanceMethod y).before args s = true) (hsel : (Cond.selects C y y).before args s = true)
    (hcode : (Cond.codeWith y bytes maxL ret hh).before args s = true) (hy : y.cls ≠ "java/lang/invoke/MethodHandle" ∧ y.cls ≠ "java/lang/invoke/VarHandle")
    {W9 : Nat} {Pre : Pt → Array Value → Prop} {Post : Pt → Array Value → Option Value → Pt → Prop} {PostX : Pt → Array Value → Addr → Pt → Prop} (hK : vx_Back l R p e below s args y 3 W9 Pre Post PostX)
    {b : Addr} {cellB : Cell} (hcell : T.heap[b]? = some cellB) (hobj : cellB.vm.isStatics = false) (hcls : s.vm.findClass C = some cellB.cls)
    {g : JFrame} (hg : g.method = m) (hsize : g.locals.size = c.maxLocals) {argsL rest : List Value} (hlen : ∀ sig, parseMethodDescriptor y.desc = some sig → argsL.length = sig.parameters.length)
    (hstack : g.stack = argsL.reverse ++ .ref b :: rest) (hW : 2 * g.monitorRoom + (rest.map fun v => v.category).sum ≤ W9) (hdg : decode c.code g.pc = .ok (.invokevirtual index, 3))
    (hpre : ∀ vm₁, s.WarmedH vm₁ → Pre ⟨T.setVm vm₁, locs, cells, slots⟩ (Value.ref b :: argsL).toArray) :
    (∃ (v : Option Value) (vm₁ : Vm) (B : Pt), s.WarmedH vm₁ ∧ Stand p l e R s m args below meth c B.U B.locs B.cells B.slots ∧ Post ⟨T.setVm vm₁, locs, cells, slots⟩ (Value.ref b :: argsL).toArray v B ∧
      ∀ target, Steps p.tables e below (B.U.setTop { g with pc := g.pc + 3, stack := v.toList ++ rest }) target → Steps p.tables e below (T.setTop g) target) ∨
    (∃ (q : Addr) (vm₁ : Vm) (B : Pt), s.WarmedH vm₁ ∧ Stand p l e R s m args below meth c B.U B.locs B.cells B.slots ∧ PostX ⟨T.setVm vm₁, locs, cells, slots⟩ (Value.ref b :: argsL).toArray q B ∧
      Steps p.tables e below (T.setTop g) ((B.U.setTop { g with stack := rest }).pushFrame (.throwing q))) := by
  obtain ⟨mk, methM, hnamed, hmethM, hstM, habM⟩ := Cond.instanceMethod_spec hinst
  obtain ⟨m8, methM', cM, hn8, hmethM', -, -, -, -, -, -, hsigM⟩ := Cond.codeWith_spec hcode
  cases Option.some.inj (hn8.symm.trans hnamed)
  cases hmethM.symm.trans hmethM'
  obtain ⟨c2, r2, m2, q1, q2, q3, q4, kP, hkP, hkPi⟩ := Cond.selects_spec hsel
  cases hcls.symm.trans q1
  cases (State.methodFound?_of_named hnamed hy).symm.trans q2
  cases hnamed.symm.trans q3
  have hselP : selectMethod e.platform s.vm cellB.cls mk = .method mk := by rw [Launch.admits_selectMethod X.admits]; exact q4
  obtain ⟨vm₁, X₁, hstep₁⟩ := X.invokevirtual hexec hown hlink hnamed hmethM hstM hkP hkPi hy (a := b) (cell := cellB) hcell
    (fun z h => by rw [h] at hobj; cases hobj) hselP hmethM habM hkP hkPi (g := g) hg (argsL := argsL) (rest := rest) (hlen _ hsigM) hstack hdg
  rcases hK m meth c ⟨T.setVm vm₁, locs, cells, slots⟩ { g with stack := rest } (.invokevirtual index) mk (Value.ref b :: argsL).toArray X₁ hg hsize hdg hW (X₁.named hnamed) (hpre vm₁ X₁.warmed) with ⟨v, B, X', hpost, hsteps⟩ | ⟨q, B, X', hpost, hsteps⟩
  · exact Or.inl ⟨v, vm₁, B, X₁.warmed, X', hpost, fun target h => hstep₁ _ fun acts => by rw [doInvoke_state]; exact hsteps.trans h⟩
  · exact Or.inr ⟨q, vm₁, B, X₁.warmed, X', hpost, hstep₁ _ fun acts => by rw [doInvoke_state]; exact hsteps⟩
theorem vx_callSX (X : Stand p l e R s m args below meth c T locs cells slots) (hexec : p.tables.exec = Jvm.exec) {own : String} {index : Nat} {y : MethodName} {bytes : ByteArray} {maxL : Nat} {ret : Option FieldType} {hh : List (Nat × Nat × Nat × Nat)}
    (hown : s.vm.findClass own = some m.cls) (hlink : (Cond.methodLink own index y).before args s = true) (hstat : (Cond.static y).before args s = true) (hinit : (Cond.initialized y.cls).before args s = true)
    (hcode : (Cond.codeWith y bytes maxL ret hh).before args s = true) (hy : y.cls ≠ "java/lang/invoke/MethodHandle" ∧ y.cls ≠ "java/lang/invoke/VarHandle")
    {W9 : Nat} {Pre : Pt → Array Value → Prop} {Post : Pt → Array Value → Option Value → Pt → Prop} {PostX : Pt → Array Value → Addr → Pt → Prop} (hK : vx_Back l R p e below s args y 3 W9 Pre Post PostX)
    {g : JFrame} (hg : g.method = m) (hsize : g.locals.size = c.maxLocals) {argsL rest : List Value} (hlen : ∀ sig, parseMethodDescriptor y.desc = some sig → argsL.length = sig.parameters.length)
    (hstack : g.stack = argsL.reverse ++ rest) (hW : 2 * g.monitorRoom + (rest.map fun v => v.category).sum ≤ W9) (hdg : decode c.code g.pc = .ok (.invokestatic index, 3))
    (hpre : ∀ vm₁, s.WarmedH vm₁ → Pre ⟨T.setVm vm₁, locs, cells, slots⟩ argsL.toArray) :
    (∃ (v : Option Value) (vm₁ : Vm) (B : Pt), s.WarmedH vm₁ ∧ Stand p l e R s m args below meth c B.U B.locs B.cells B.slots ∧ Post ⟨T.setVm vm₁, locs, cells, slots⟩ argsL.toArray v B ∧
      ∀ target, Steps p.tables e below (B.U.setTop { g with pc := g.pc + 3, stack := v.toList ++ rest }) target → Steps p.tables e below (T.setTop g) target) ∨
    (∃ (q : Addr) (vm₁ : Vm) (B : Pt), s.WarmedH vm₁ ∧ Stand p l e R s m args below meth c B.U B.locs B.cells B.slots ∧ PostX ⟨T.setVm vm₁, locs, cells, slots⟩ argsL.toArray q B ∧
      Steps p.tables e below (T.setTop g) ((B.U.setTop { g with stack := rest }).pushFrame (.throwing q))) := by
  obtain ⟨mk, methM, cM, hnamed, hmethM, -, -, -, -, -, -, hsigM⟩ := Cond.codeWith_spec hcode
  have hstatic : methM.isStatic = true := Cond.static_spec hnamed hmethM hstat
  obtain ⟨kP, hkP, -⟩ := className_of_methodNamed hnamed
  have hinitP : kP.init = .initialized := Cond.initialized_spec (findClass_of_methodNamed hnamed) hkP hinit
  obtain ⟨vm₁, X₁, hstep₁⟩ := X.invokestatic hexec hown hlink hnamed hmethM hstatic hkP hinitP hy (g := g) hg (argsL := argsL) (rest := rest) (hlen _ hsigM) hstack hdg
  rcases hK m meth c ⟨T.setVm vm₁, locs, cells, slots⟩ { g with stack := rest } (.invokestatic index) mk argsL.toArray X₁ hg hsize hdg hW (X₁.named hnamed) (hpre vm₁ X₁.warmed) with ⟨v, B, X', hpost, hsteps⟩ | ⟨q, B, X', hpost, hsteps⟩
  · exact Or.inl ⟨v, vm₁, B, X₁.warmed, X', hpost, fun target h => hstep₁ _ fun acts => by rw [doInvoke_state]; exact hsteps.trans h⟩
  · exact Or.inr ⟨q, vm₁, B, X₁.warmed, X', hpost, hstep₁ _ fun acts => by rw [doInvoke_state]; exact hsteps⟩
theorem vx_callVW (X : Stand p l e R s m args below meth c T locs cells slots) (hexec : p.tables.exec = Jvm.exec) {own C : String} {index : Nat} {y : MethodName} {bytes : ByteArray} {maxL : Nat} {ret : Option FieldType} {hh : List (Nat × Nat × Nat × Nat)}
    (hown : s.vm.findClass own = some m.cls) (hlink : (Cond.methodLink own index y).before args s = true) (hinst : (Cond.instanceMethod y).before args s = true) (hsel : (Cond.selects C y y).before args s = true)
    (hcode : (Cond.codeWith y bytes maxL ret hh).before args s = true) (hy : y.cls ≠ "java/lang/invoke/MethodHandle" ∧ y.cls ≠ "java/lang/invoke/VarHandle")
    {W9 : Nat} {Pre : Pt → Array Value → Prop} {Post : Pt → Array Value → Option Value → Pt → Prop} (hK : Back l R p e below s args y 3 W9 Pre Post)
    {b : Addr} {cellB : Cell} (hcell : T.heap[b]? = some cellB) (hobj : cellB.vm.isStatics = false) (hcls : s.vm.findClass C = some cellB.cls)
    {g : JFrame} (hg : g.method = m) (hsize : g.locals.size = c.maxLocals) {argsL rest : List Value} (hlen : ∀ sig, parseMethodDescriptor y.desc = some sig → argsL.length = sig.parameters.length)
    (hstack : g.stack = argsL.reverse ++ .ref b :: rest) (hW : 2 * g.monitorRoom + (rest.map fun v => v.category).sum ≤ W9) (hdg : decode c.code g.pc = .ok (.invokevirtual index, 3))
    (hpre : ∀ vm₁, s.WarmedH vm₁ → Pre ⟨T.setVm vm₁, locs, cells, slots⟩ (Value.ref b :: argsL).toArray) :
    ∃ (v : Option Value) (vm₁ : Vm) (B : Pt), s.WarmedH vm₁ ∧ Stand p l e R s m args below meth c B.U B.locs B.cells B.slots ∧ Post ⟨T.setVm vm₁, locs, cells, slots⟩ (Value.ref b :: argsL).toArray v B ∧
      ∀ target, Steps p.tables e below (B.U.setTop { g with pc := g.pc + 3, stack := v.toList ++ rest }) target → Steps p.tables e below (T.setTop g) target := by
  obtain ⟨mk, methM, hnamed, hmethM, hstM, habM⟩ := Cond.instanceMethod_spec hinst
  obtain ⟨m8, methM', cM, hn8, hmethM', -, -, -, -, -, -, hsigM⟩ := Cond.codeWith_spec hcode
  cases Option.some.inj (hn8.symm.trans hnamed)
  cases hmethM.symm.trans hmethM'
  obtain ⟨c2, r2, m2, q1, q2, q3, q4, kP, hkP, hkPi⟩ := Cond.selects_spec hsel
  cases hcls.symm.trans q1
  cases (State.methodFound?_of_named hnamed hy).symm.trans q2
  cases hnamed.symm.trans q3
  have hselP : selectMethod e.platform s.vm cellB.cls mk = .method mk := by rw [Launch.admits_selectMethod X.admits]; exact q4
  obtain ⟨vm₁, X₁, hstep₁⟩ := X.invokevirtual hexec hown hlink hnamed hmethM hstM hkP hkPi hy (a := b) (cell := cellB) hcell
    (fun z h => by rw [h] at hobj; cases hobj) hselP hmethM habM hkP hkPi (g := g) hg (argsL := argsL) (rest := rest) (hlen _ hsigM) hstack hdg
  obtain ⟨v, B, X', hpost, hsteps⟩ := hK m meth c ⟨T.setVm vm₁, locs, cells, slots⟩ { g with stack := rest } (.invokevirtual index) mk (Value.ref b :: argsL).toArray X₁ hg hsize hdg hW (X₁.named hnamed) (hpre vm₁ X₁.warmed)
  exact ⟨v, vm₁, B, X₁.warmed, X', hpost, fun target h => hstep₁ _ fun acts => by rw [doInvoke_state]; exact hsteps.trans h⟩
abbrev vx_CVW (R : Room) (s : State) (args : Array Value) (own C : String) (index : Nat) (y : MethodName) (bytes : ByteArray) (maxL : Nat) (ret : Option FieldType) (hh : List (Nat × Nat × Nat × Nat)) (ws : List Cond) (rm : Room) (mc ms n : Nat) : Prop :=
  (rm.cells = mc ∧ rm.slots = ms ∧ rm.frames + 1 ≤ R.frames ∧ 8 + (maxL + 11) + rm.locals ≤ R.locals ∧ (∀ w ∈ ws, ∀ (a' : Array Value) (U : State), s.WarmedH U.vm → w.before a' U = true) ∧ Cond.codeWith y bytes maxL ret hh ∈ ws) ∧
  (Cond.codeWith y bytes maxL ret hh).before args s = true ∧ (Cond.initialized y.cls).before args s = true ∧ (y.cls ≠ "java/lang/invoke/MethodHandle" ∧ y.cls ≠ "java/lang/invoke/VarHandle") ∧
  (∀ sig, parseMethodDescriptor y.desc = some sig → n = sig.parameters.length) ∧ (Cond.methodLink own index y).before args s = true ∧ (Cond.instanceMethod y).before args s = true ∧ (Cond.selects C y y).before args s = true
theorem vx_cwVW {own C : String} {index maxL mc ms : Nat} {y : MethodName} {bytes : ByteArray} {ret : Option FieldType} {hh : List (Nat × Nat × Nat × Nat)} {Ts ws ws' : List Cond} {rm : Room} (n : Nat) (ht : ∀ w ∈ Ts, w.before args s = true) (hT : GoodIn Ts (wsV own index C y ws)) (hw : ws = Cond.codeWith y bytes maxL ret hh :: ws') (hrc : rm.cells = mc) (hrs : rm.slots = ms)
    (hd : y.cls = C ∧ y.cls ≠ "java/lang/invoke/MethodHandle" ∧ y.cls ≠ "java/lang/invoke/VarHandle" ∧ (parseMethodDescriptor y.desc).map (fun d => d.parameters.length) = some n) (hR : rm.frames + 1 ≤ R.frames ∧ 8 + (maxL + 11) + rm.locals ≤ R.locals) :
    vx_CVW R s args own C index y bytes maxL ret hh ws rm mc ms n := by
  obtain ⟨hC, hd⟩ := hd
  subst hC
  have ok : ∀ w ∈ wsV own index y.cls y ws, w.before args s = true := fun w h => ht w (hT w h).1
  have hG : GoodIn Ts ws := fun w h => hT w (by unfold wsV; exact List.mem_append_right _ h)
  have hc : Cond.codeWith y bytes maxL ret hh ∈ ws := by rw [hw]; exact List.mem_cons_self
  refine ⟨⟨hrc, hrs, hR.1, hR.2, pay_in ht hG, hc⟩, ht _ (hG _ hc).1, ok _ (by simp [wsV]), ⟨hd.1, hd.2.1⟩, fun sig h => ?_, ok _ (by simp [wsV]), ok _ (by simp [wsV]), ok _ (by simp [wsV])⟩
  have h2 := hd.2.2
  rw [h] at h2
  exact (Option.some.inj h2).symm
theorem vx_runVW {y : MethodName} {bytes cc : ByteArray} {maxL nL mc ms n index : Nat} {ret : Option FieldType} {hh : List (Nat × Nat × Nat × Nat)} {ws : List Cond} {rm : Room} {Pc : Array Value → State → Prop} {Qc : Array Value → State → Outcome → State → Prop} {free : Addr → Prop} {Ts : List Cond} {own C : String} {b : Addr} {As rest : List Value} {g : JFrame}
    (S : CallFix p m c cc nL s args Ts own) (hM : Met l y ws rm Pc Qc mc ms free) (cw : vx_CVW R s args own C index y bytes maxL ret hh ws rm mc ms n) (hp : PreV s H C b Pc As)
    (hg : g.method = m) (hn : As.length = n) (hsize : g.locals.size = nL) (hstack : g.stack = As.reverse ++ .ref b :: rest) (hW : 2 * g.monitorRoom + (rest.map fun v => v.category).sum ≤ 8) (hdg : decode cc g.pc = .ok (.invokevirtual index, 3)) (hf : cells + mc ≤ R.cells ∧ slots + ms ≤ R.slots) :
    va_Run p l e R s m args below meth c H locs cells slots mc ms g rest (Qc (Value.ref b :: As).toArray) free := by
  obtain ⟨⟨hrc, hrs, hfr, hlo, hws, hcw⟩, hcode, hini, hy, hlen, hl, hin, hse⟩ := cw
  have hK : Back l R p e below s args y 3 8 (PreOf R mc ms Pc) (PostOf Qc mc ms free) := va_backW (hh := hh) (bytes := bytes) (maxL := maxL) (ret := ret) hM hp.1 hrc hrs hfr hlo hws hcw (fun a' U hW => word_at hW (Or.inl (by first | rfl | simp [Cond.onTables, Cond.keeps, Cond.steady])) hini)
  obtain ⟨hx, hb, hml, ho, -⟩ := S
  obtain ⟨-, ⟨cellB, hcB, hoB, hclB⟩, hPc⟩ := hp
  intro T hT X
  obtain ⟨v, vm₁, ⟨U', l2, c2, s2⟩, hW₁, X', ⟨g', mk, t, L, e1, e2, hq, h1, hL, h2, h3⟩, st⟩ := vx_callVW X hx (C := C) (hh := hh) (bytes := bytes) (maxL := maxL) (ret := ret) ho hl hin hse hcode hy hK (by rw [hT]; exact hcB) hoB hclB hg (hsize.trans hml.symm) (argsL := As) (rest := rest) (fun sig h => hn.trans (hlen sig h)) hstack hW (by rw [hb]; exact hdg)
    (fun vm₁ hW₁ => ⟨hf.1, hf.2, hPc (T.setVm vm₁) hT hW₁⟩)
  dsimp only [Pt.U, Pt.locs, Pt.cells, Pt.slots] at X' e1 e2 h1 h2 h3 st
  subst h1; subst h2; subst h3
  exact ⟨v, (T.setVm vm₁).calling g' mk (Value.ref b :: As).toArray, t, U', L, hT, X', hL, e1, e2, hq, st⟩
section
variable {y : MethodName} {bytes cc : ByteArray} {maxL nL mc ms n index : Nat} {ret : Option FieldType} {ws : List Cond} {rm : Room} {Pc : Array Value → State → Prop} {Qc : Array Value → State → Outcome → State → Prop} {XC : String → State → State → Prop} {free : Addr → Prop} {Ts : List Cond} {own C : String} {b : Addr} {As rest : List Value} {g : JFrame}
theorem vx_runVX {hh : List (Nat × Nat × Nat × Nat)} (S : CallFix p m c cc nL s args Ts own) (hM : vx_Met l y ws rm Pc Qc XC mc ms free) (cw : vx_CVW R s args own C index y bytes maxL ret hh ws rm mc ms n) (hp : PreV s H C b Pc As)
    (hg : g.method = m) (hn : As.length = n) (hsize : g.locals.size = nL) (hstack : g.stack = As.reverse ++ .ref b :: rest) (hW : 2 * g.monitorRoom + (rest.map fun v => v.category).sum ≤ 8) (hdg : decode cc g.pc = .ok (.invokevirtual index, 3)) (hf : cells + mc ≤ R.cells ∧ slots + ms ≤ R.slots) :
    vx_Run p l e R s m args below meth c H locs cells slots mc ms g rest (Qc (Value.ref b :: As).toArray) XC free := by
  obtain ⟨⟨hrc, hrs, hfr, hlo, hws, hcw⟩, hcode, hini, hy, hlen, hl, hin, hse⟩ := cw
  have hK : vx_Back l R p e below s args y 3 8 (PreOf R mc ms Pc) (PostOf Qc mc ms free) (vx_Post XC mc ms free) := vx_backW (hh := hh) (bytes := bytes) (maxL := maxL) (ret := ret) hM hp.1 hrc hrs hfr hlo hws hcw (fun a' U hW => word_at hW (Or.inl (by first | rfl | simp [Cond.onTables, Cond.keeps, Cond.steady])) hini)
  obtain ⟨hx, hb, hml, ho, -⟩ := S
  obtain ⟨-, ⟨cellB, hcB, hoB, hclB⟩, hPc⟩ := hp
  intro T hT X
  rcases vx_callVX X hx (C := C) (hh := hh) (bytes := bytes) (maxL := maxL) (ret := ret) ho hl hin hse hcode hy hK (by rw [hT]; exact hcB) hoB hclB hg (hsize.trans hml.symm) (argsL := As) (rest := rest) (fun sig h => hn.trans (hlen sig h)) hstack hW (by rw [hb]; exact hdg)
    (fun vm₁ hW₁ => ⟨hf.1, hf.2, hPc (T.setVm vm₁) hT hW₁⟩) with ⟨v, vm₁, ⟨U', l2, c2, s2⟩, hW₁, X', ⟨g', mk, t, L, e1, e2, hq, h1, hL, h2, h3⟩, st⟩ | ⟨q, vm₁, ⟨U', l2, c2, s2⟩, hW₁, X', ⟨g', mk, t, L, E, ce, e1, e2, hq, hce, hcv, hcl, h1, hL, h2, h3⟩, st⟩
  · dsimp only [Pt.U, Pt.locs, Pt.cells, Pt.slots] at X' e1 e2 h1 h2 h3 st
    subst h1; subst h2; subst h3
    exact Or.inl ⟨v, (T.setVm vm₁).calling g' mk (Value.ref b :: As).toArray, t, U', L, hT, X', hL, e1, e2, hq, st⟩
  · dsimp only [Pt.U, Pt.locs, Pt.cells, Pt.slots] at X' e1 e2 h1 h2 h3 st hcl
    subst h1; subst h2; subst h3
    exact Or.inr ⟨q, (T.setVm vm₁).calling g' mk (Value.ref b :: As).toArray, t, U', L, E, ce, hT, X', hL, e1, e2, hq, hce, hcv, vx_cls hW₁ hcl, st⟩
theorem vx_runSX {hh : List (Nat × Nat × Nat × Nat)} (S : CallFix p m c cc nL s args Ts own) (hM : vx_Met l y ws rm Pc Qc XC mc ms free) (cw : vx_CSW R s args own index y bytes maxL ret hh ws rm mc ms n) (hp : PreS s H Pc As)
    (hg : g.method = m) (hn : As.length = n) (hsize : g.locals.size = nL) (hstack : g.stack = As.reverse ++ rest) (hW : 2 * g.monitorRoom + (rest.map fun v => v.category).sum ≤ 8) (hdg : decode cc g.pc = .ok (.invokestatic index, 3)) (hf : cells + mc ≤ R.cells ∧ slots + ms ≤ R.slots) :
    vx_Run p l e R s m args below meth c H locs cells slots mc ms g rest (Qc As.toArray) XC free := by
  obtain ⟨⟨hrc, hrs, hfr, hlo, hws, hcw⟩, hcode, hini, hy, hlen, hl, hstt⟩ := cw
  have hK : vx_Back l R p e below s args y 3 8 (PreOf R mc ms Pc) (PostOf Qc mc ms free) (vx_Post XC mc ms free) := vx_backW (hh := hh) (bytes := bytes) (maxL := maxL) (ret := ret) hM hp.1 hrc hrs hfr hlo hws hcw (fun a' U hW => word_at hW (Or.inl (by first | rfl | simp [Cond.onTables, Cond.keeps, Cond.steady])) hini)
  obtain ⟨hx, hb, hml, ho, -⟩ := S
  intro T hT X
  rcases vx_callSX X hx (hh := hh) (bytes := bytes) (maxL := maxL) (ret := ret) ho hl hstt hini hcode hy hK hg (hsize.trans hml.symm) (argsL := As) (rest := rest) (fun sig h => hn.trans (hlen sig h)) hstack hW (by rw [hb]; exact hdg)
    (fun vm₁ hW₁ => ⟨hf.1, hf.2, hp.2 (T.setVm vm₁) hT hW₁⟩) with ⟨v, vm₁, ⟨U', l2, c2, s2⟩, hW₁, X', ⟨g', mk, t, L, e1, e2, hq, h1, hL, h2, h3⟩, st⟩ | ⟨q, vm₁, ⟨U', l2, c2, s2⟩, hW₁, X', ⟨g', mk, t, L, E, ce, e1, e2, hq, hce, hcv, hcl, h1, hL, h2, h3⟩, st⟩
  · dsimp only [Pt.U, Pt.locs, Pt.cells, Pt.slots] at X' e1 e2 h1 h2 h3 st
    subst h1; subst h2; subst h3
    exact Or.inl ⟨v, (T.setVm vm₁).calling g' mk As.toArray, t, U', L, hT, X', hL, e1, e2, hq, st⟩
  · dsimp only [Pt.U, Pt.locs, Pt.cells, Pt.slots] at X' e1 e2 h1 h2 h3 st hcl
    subst h1; subst h2; subst h3
    exact Or.inr ⟨q, (T.setVm vm₁).calling g' mk As.toArray, t, U', L, E, ce, hT, X', hL, e1, e2, hq, hce, hcv, vx_cls hW₁ hcl, st⟩
end
end VXH
theorem vx_ofWH {l : Launch} {y : MethodName} {ws ws' : List Cond} {rm : Room} {Pc : Array Value → State → Prop} {Qc : Array Value → State → Outcome → State → Prop} {XC : String → State → State → Prop} {mc ms : Nat} {free : Addr → Prop} {cc : ByteArray} {maxL : Nat} {ret : Option FieldType} {hh : List (Nat × Nat × Nat × Nat)}
    (hy : plainName y.cls = true) (hw : ws = Cond.codeWith y cc maxL ret hh :: ws')
    (body : ∀ p e s m args below meth c s₁, BodyLoose p l y (headSpec ws rm) cc maxL ret e s m args below meth c s₁ → c.maxLocals = maxL → Pc args s →
      W p l e (headSpec ws rm).room s m args below meth c s.heap [] 0 0 (vx_MQ below Qc XC args s mc ms free) (entryFrame m args maxL)) : vx_Met l y ws rm Pc Qc XC mc ms free := by
  refine MetFree.of_bodyS (code := cc) (maxLocals := maxL) (ret := ret) hy ?_ ?_
  · intro args s m h hn
    obtain ⟨m9, meth, c, hn9, h1, h2, h3, h4, -, h5, h6, -⟩ := Cond.codeWith_spec (atoms_spec (ws := ws) h _ (by rw [hw]; exact List.mem_cons_self))
    cases hn.symm.trans hn9
    exact ⟨meth, c, h1, h2, h3, h4, h5, h6⟩
  · intro p e s m args below meth c s₁ B hml hP _
    have hh0 : s₁.heap = s.heap := by rw [B.state]; rfl
    obtain ⟨t, a1, o, b1, b2, b3⟩ := body p e s m args below meth c s₁ B hml hP s₁ hh0 (Stand.of_body B)
    exact ⟨t, o, a1, b1, b2, b3⟩
/-! ===== END ===== -/

/-! ===== BEGIN printed: names, fields, word lists, decode rows ===== -/
def RX0 : String := "WireLoom$Machine"
def TX0 : u_T := fun k => match k with
  | 0 => ("WireLoom$Machine", "cells", "[I", true)
  | 1 => ("WireLoom$Machine", "latest", "[I", true)
  | 2 => ("WireLoom$Machine", "place", "I", false)
  | 3 => ("WireLoom$Machine", "count", "I", false)
  | 4 => ("WireLoom$Machine", "running", "Z", false)
  | 5 => ("WireLoom$Machine", "steps", "I", false)
  | _ => ("WireLoom$Machine", "tellings", "I", false)
def tyX0 : Nat → FieldType := fun k => match k with
  | 0 => .array .int
  | 1 => .array .int
  | 2 => .int
  | 3 => .int
  | 4 => .boolean
  | 5 => .int
  | _ => .int
abbrev wsX00 : List Cond := u_ws RX0 TX0 7
theorem nmX0 : ∀ a, a < 7 → ∀ b, b < 7 → a ≠ b → (TX0 a).2.1 ≠ (TX0 b).2.1 := by decide +kernel
theorem tyX0_ok : ∀ k, k < 7 → parseFieldDescriptor (TX0 k).2.2.1 = some (tyX0 k) := by decide +kernel
abbrev cX0_init : ByteArray := prog_2_method_1_code
def yX0_init : MethodName := ⟨RX0, "<init>", "()V"⟩
abbrev cX0_begin : ByteArray := prog_2_method_2_code
def yX0_begin : MethodName := ⟨RX0, "begin", "()V"⟩
abbrev cX0_becomeLike : ByteArray := prog_2_method_3_code
def yX0_becomeLike : MethodName := ⟨RX0, "becomeLike", "(LWireLoom$Machine;)V"⟩
abbrev cX0_obey : ByteArray := prog_2_method_4_code
def yX0_obey : MethodName := ⟨RX0, "obey", "(I)V"⟩
abbrev cX0_tellCount : ByteArray := prog_2_method_5_code
def yX0_tellCount : MethodName := ⟨RX0, "tellCount", "()V"⟩
def RX1 : String := "WireLoom$Past"
def TX1 : u_T := fun k => match k with
  | 0 => ("WireLoom$Past", "saved", "[LWireLoom$State;", true)
  | 1 => ("WireLoom$Past", "oldest", "I", false)
  | _ => ("WireLoom$Past", "size", "I", false)
def tyX1 : Nat → FieldType := fun k => match k with
  | 0 => .array (.object "WireLoom$State")
  | 1 => .int
  | _ => .int
abbrev wsX10 : List Cond := u_ws RX1 TX1 3
theorem nmX1 : ∀ a, a < 3 → ∀ b, b < 3 → a ≠ b → (TX1 a).2.1 ≠ (TX1 b).2.1 := by decide +kernel
theorem tyX1_ok : ∀ k, k < 3 → parseFieldDescriptor (TX1 k).2.2.1 = some (tyX1 k) := by decide +kernel
abbrev cX1_init : ByteArray := prog_3_method_1_code
def yX1_init : MethodName := ⟨RX1, "<init>", "()V"⟩
abbrev cX1_push : ByteArray := prog_3_method_2_code
def yX1_push : MethodName := ⟨RX1, "push", "(LWireLoom$State;)V"⟩
abbrev cX1_popInto : ByteArray := prog_3_method_3_code
def yX1_popInto : MethodName := ⟨RX1, "popInto", "(LWireLoom$State;)V"⟩
def RX2 : String := "WireLoom$State"
def TX2 : u_T := fun k => match k with
  | 0 => ("WireLoom$State", "rings", "[I", true)
  | 1 => ("WireLoom$State", "readings", "[I", true)
  | 2 => ("WireLoom$State", "wear", "[I", true)
  | 3 => ("WireLoom$State", "settings", "[I", true)
  | 4 => ("WireLoom$State", "machine", "LWireLoom$Machine;", true)
  | 5 => ("WireLoom$State", "guarded", "I", false)
  | 6 => ("WireLoom$State", "crossingsChanged", "I", false)
  | _ => ("WireLoom$State", "readingsDone", "I", false)
def tyX2 : Nat → FieldType := fun k => match k with
  | 0 => .array .int
  | 1 => .array .int
  | 2 => .array .int
  | 3 => .array .int
  | 4 => .object "WireLoom$Machine"
  | 5 => .int
  | 6 => .int
  | _ => .int
abbrev wsX20 : List Cond := u_ws RX2 TX2 8
theorem nmX2 : ∀ a, a < 8 → ∀ b, b < 8 → a ≠ b → (TX2 a).2.1 ≠ (TX2 b).2.1 := by decide +kernel
theorem tyX2_ok : ∀ k, k < 8 → parseFieldDescriptor (TX2 k).2.2.1 = some (tyX2 k) := by decide +kernel
abbrev cX2_init : ByteArray := prog_4_method_1_code
def yX2_init : MethodName := ⟨RX2, "<init>", "()V"⟩
abbrev cX2_become : ByteArray := prog_4_method_2_code
def yX2_become : MethodName := ⟨RX2, "become", "(LWireLoom$State;)V"⟩
abbrev cX2_asWord : ByteArray := prog_4_method_3_code
def yX2_asWord : MethodName := ⟨RX2, "asWord", "(I)I"⟩
abbrev cX2_means : ByteArray := prog_4_method_4_code
def yX2_means : MethodName := ⟨RX2, "means", "(I)I"⟩
abbrev cX2_tells : ByteArray := prog_4_method_5_code
def yX2_tells : MethodName := ⟨RX2, "tells", "(I)I"⟩
abbrev cX2_layThrough : ByteArray := prog_4_method_6_code
def yX2_layThrough : MethodName := ⟨RX2, "layThrough", "(II)I"⟩
abbrev cX2_renewRing : ByteArray := prog_4_method_7_code
def yX2_renewRing : MethodName := ⟨RX2, "renewRing", "(I)I"⟩
abbrev cX2_wearRings : ByteArray := prog_4_method_8_code
def yX2_wearRings : MethodName := ⟨RX2, "wearRings", "(II)V"⟩
abbrev cX2_takeReading : ByteArray := prog_4_method_9_code
def yX2_takeReading : MethodName := ⟨RX2, "takeReading", "(I)I"⟩
abbrev cX2_run : ByteArray := prog_4_method_10_code
def yX2_run : MethodName := ⟨RX2, "run", "(I)I"⟩
abbrev cX2_oneThreadOn : ByteArray := prog_4_method_11_code
def yX2_oneThreadOn : MethodName := ⟨RX2, "oneThreadOn", "(II)I"⟩
abbrev cX2_hops : ByteArray := prog_4_method_12_code
def yX2_hops : MethodName := ⟨RX2, "hops", "(II)I"⟩
abbrev cX2_strengthAt : ByteArray := prog_4_method_13_code
def yX2_strengthAt : MethodName := ⟨RX2, "strengthAt", "(II)I"⟩
abbrev cX2_answering : ByteArray := prog_4_method_14_code
def yX2_answering : MethodName := ⟨RX2, "answering", "(I)I"⟩
abbrev cX2_readingsUntilChange : ByteArray := prog_4_method_15_code
def yX2_readingsUntilChange : MethodName := ⟨RX2, "readingsUntilChange", "(I)I"⟩
abbrev cX2_threadsThrough : ByteArray := prog_4_method_16_code
def yX2_threadsThrough : MethodName := ⟨RX2, "threadsThrough", "(I)I"⟩
abbrev cX2_threadsAnswered : ByteArray := prog_4_method_17_code
def yX2_threadsAnswered : MethodName := ⟨RX2, "threadsAnswered", "(I)I"⟩
abbrev cX2_isWornOut : ByteArray := prog_4_method_18_code
def yX2_isWornOut : MethodName := ⟨RX2, "isWornOut", "(I)Z"⟩
abbrev cX2_threadsRight : ByteArray := prog_4_method_19_code
def yX2_threadsRight : MethodName := ⟨RX2, "threadsRight", "()I"⟩
abbrev cX2_crossingsByThreads : ByteArray := prog_4_method_20_code
def yX2_crossingsByThreads : MethodName := ⟨RX2, "crossingsByThreads", "()I"⟩
abbrev cX2_crossingsByRings : ByteArray := prog_4_method_21_code
def yX2_crossingsByRings : MethodName := ⟨RX2, "crossingsByRings", "()I"⟩
abbrev cX2_greatestWear : ByteArray := prog_4_method_22_code
def yX2_greatestWear : MethodName := ⟨RX2, "greatestWear", "()I"⟩
abbrev cX2_wearOfAll : ByteArray := prog_4_method_23_code
def yX2_wearOfAll : MethodName := ⟨RX2, "wearOfAll", "()I"⟩
abbrev cX2_fewestUnlikeBits : ByteArray := prog_4_method_24_code
def yX2_fewestUnlikeBits : MethodName := ⟨RX2, "fewestUnlikeBits", "()I"⟩
def RX3 : String := "WireLoom$Text"
def TX3 : u_T := fun k => match k with
  | 0 => ("WireLoom$Text", "codes", "[I", true)
  | 1 => ("WireLoom$Text", "words", "[I", true)
  | 2 => ("WireLoom$Text", "length", "I", false)
  | 3 => ("WireLoom$Text", "wordCount", "I", false)
  | _ => ("WireLoom$Text", "phase", "I", false)
def tyX3 : Nat → FieldType := fun k => match k with
  | 0 => .array .int
  | 1 => .array .int
  | 2 => .int
  | 3 => .int
  | _ => .int
abbrev wsX30 : List Cond := u_ws RX3 TX3 5
theorem nmX3 : ∀ a, a < 5 → ∀ b, b < 5 → a ≠ b → (TX3 a).2.1 ≠ (TX3 b).2.1 := by decide +kernel
theorem tyX3_ok : ∀ k, k < 5 → parseFieldDescriptor (TX3 k).2.2.1 = some (tyX3 k) := by decide +kernel
abbrev cX3_init : ByteArray := prog_5_method_1_code
def yX3_init : MethodName := ⟨RX3, "<init>", "()V"⟩
abbrev cX3_put : ByteArray := prog_5_method_2_code
def yX3_put : MethodName := ⟨RX3, "put", "(I)V"⟩
abbrev cX3_putWord : ByteArray := prog_5_method_3_code
def yX3_putWord : MethodName := ⟨RX3, "putWord", "(I)V"⟩
abbrev cX3_tellsProgram : ByteArray := prog_5_method_4_code
def yX3_tellsProgram : MethodName := ⟨RX3, "tellsProgram", "()Z"⟩
abbrev cX3_parse : ByteArray := prog_5_method_5_code
def yX3_parse : MethodName := ⟨RX3, "parse", "()I"⟩
abbrev cX3_takeCode : ByteArray := prog_5_method_6_code
def yX3_takeCode : MethodName := ⟨RX3, "takeCode", "(I)V"⟩
abbrev cX3_signOf : ByteArray := prog_5_method_7_code
def yX3_signOf : MethodName := ⟨RX3, "signOf", "(I)I"⟩
abbrev cX3_digitOf : ByteArray := prog_5_method_8_code
def yX3_digitOf : MethodName := ⟨RX3, "digitOf", "(I)I"⟩
def RX4 : String := "WireLoom"
def TX4 : u_T := fun k => match k with
  | 0 => ("WireLoom", "now", "LWireLoom$State;", true)
  | 1 => ("WireLoom", "trial", "LWireLoom$State;", true)
  | 2 => ("WireLoom", "past", "LWireLoom$Past;", true)
  | 3 => ("WireLoom", "snapshots", "[LWireLoom$State;", true)
  | 4 => ("WireLoom", "kept", "[Z", true)
  | 5 => ("WireLoom", "buffer", "LWireLoom$Text;", true)
  | _ => ("WireLoom", "wordsTold", "[I", true)
def tyX4 : Nat → FieldType := fun k => match k with
  | 0 => .object "WireLoom$State"
  | 1 => .object "WireLoom$State"
  | 2 => .object "WireLoom$Past"
  | 3 => .array (.object "WireLoom$State")
  | 4 => .array .boolean
  | 5 => .object "WireLoom$Text"
  | _ => .array .int
abbrev wsX40 : List Cond := u_ws RX4 TX4 7
theorem nmX4 : ∀ a, a < 7 → ∀ b, b < 7 → a ≠ b → (TX4 a).2.1 ≠ (TX4 b).2.1 := by decide +kernel
theorem tyX4_ok : ∀ k, k < 7 → parseFieldDescriptor (TX4 k).2.2.1 = some (tyX4 k) := by decide +kernel
abbrev cX4_init : ByteArray := prog_1_method_1_code
def yX4_init : MethodName := ⟨RX4, "<init>", "()V"⟩
abbrev cX4_cross : ByteArray := prog_1_method_2_code
def yX4_cross : MethodName := ⟨RX4, "cross", "(II)I"⟩
abbrev cX4_lay : ByteArray := prog_1_method_3_code
def yX4_lay : MethodName := ⟨RX4, "lay", "(II)I"⟩
abbrev cX4_guard : ByteArray := prog_1_method_4_code
def yX4_guard : MethodName := ⟨RX4, "guard", "(I)I"⟩
abbrev cX4_change : ByteArray := prog_1_method_5_code
def yX4_change : MethodName := ⟨RX4, "change", "(I)I"⟩
abbrev cX4_set : ByteArray := prog_1_method_6_code
def yX4_set : MethodName := ⟨RX4, "set", "(II)I"⟩
abbrev cX4_read : ByteArray := prog_1_method_7_code
def yX4_read : MethodName := ⟨RX4, "read", "(I)I"⟩
abbrev cX4_start : ByteArray := prog_1_method_8_code
def yX4_start : MethodName := ⟨RX4, "start", "()I"⟩
abbrev cX4_go : ByteArray := prog_1_method_9_code
def yX4_go : MethodName := ⟨RX4, "go", "(I)I"⟩
abbrev cX4_append : ByteArray := prog_1_method_10_code
def yX4_append : MethodName := ⟨RX4, "append", "(I)I"⟩
abbrev cX4_clearBuffer : ByteArray := prog_1_method_11_code
def yX4_clearBuffer : MethodName := ⟨RX4, "clearBuffer", "()I"⟩
abbrev cX4_firstError : ByteArray := prog_1_method_12_code
def yX4_firstError : MethodName := ⟨RX4, "firstError", "()I"⟩
abbrev cX4_load : ByteArray := prog_1_method_13_code
def yX4_load : MethodName := ⟨RX4, "load", "(I)I"⟩
abbrev cX4_write : ByteArray := prog_1_method_14_code
def yX4_write : MethodName := ⟨RX4, "write", "(II)I"⟩
abbrev cX4_keep : ByteArray := prog_1_method_15_code
def yX4_keep : MethodName := ⟨RX4, "keep", "(I)I"⟩
abbrev cX4_goBack : ByteArray := prog_1_method_16_code
def yX4_goBack : MethodName := ⟨RX4, "goBack", "(I)I"⟩
abbrev cX4_undo : ByteArray := prog_1_method_17_code
def yX4_undo : MethodName := ⟨RX4, "undo", "()I"⟩
abbrev cX4_threadOf : ByteArray := prog_1_method_18_code
def yX4_threadOf : MethodName := ⟨RX4, "threadOf", "(II)I"⟩
abbrev cX4_ringOf : ByteArray := prog_1_method_19_code
def yX4_ringOf : MethodName := ⟨RX4, "ringOf", "(II)I"⟩
abbrev cX4_strength : ByteArray := prog_1_method_20_code
def yX4_strength : MethodName := ⟨RX4, "strength", "(III)I"⟩
abbrev cX4_machine : ByteArray := prog_1_method_21_code
def yX4_machine : MethodName := ⟨RX4, "machine", "(I)I"⟩
abbrev cX4_told : ByteArray := prog_1_method_22_code
def yX4_told : MethodName := ⟨RX4, "told", "(I)I"⟩
abbrev cX4_count : ByteArray := prog_1_method_23_code
def yX4_count : MethodName := ⟨RX4, "count", "(I)I"⟩
abbrev cX4_setting : ByteArray := prog_1_method_24_code
def yX4_setting : MethodName := ⟨RX4, "setting", "(I)I"⟩
abbrev cX4_ifLoaded : ByteArray := prog_1_method_25_code
def yX4_ifLoaded : MethodName := ⟨RX4, "ifLoaded", "(I)I"⟩
abbrev cX4_bestPlace : ByteArray := prog_1_method_26_code
def yX4_bestPlace : MethodName := ⟨RX4, "bestPlace", "()I"⟩
abbrev cX4_bestGuard : ByteArray := prog_1_method_27_code
def yX4_bestGuard : MethodName := ⟨RX4, "bestGuard", "()I"⟩
abbrev cX4_lastsFor : ByteArray := prog_1_method_28_code
def yX4_lastsFor : MethodName := ⟨RX4, "lastsFor", "(I)I"⟩
abbrev cX4_ifGone : ByteArray := prog_1_method_29_code
def yX4_ifGone : MethodName := ⟨RX4, "ifGone", "(II)I"⟩
abbrev cX4_rightShare : ByteArray := prog_1_method_30_code
def yX4_rightShare : MethodName := ⟨RX4, "rightShare", "()D"⟩
abbrev cX4_meanWear : ByteArray := prog_1_method_31_code
def yX4_meanWear : MethodName := ⟨RX4, "meanWear", "()F"⟩
abbrev cX4_digest : ByteArray := prog_1_method_32_code
def yX4_digest : MethodName := ⟨RX4, "digest", "()J"⟩
abbrev cX4_digestThreads : ByteArray := prog_1_method_33_code
def yX4_digestThreads : MethodName := ⟨RX4, "digestThreads", "(J)J"⟩
abbrev cX4_digestRings : ByteArray := prog_1_method_34_code
def yX4_digestRings : MethodName := ⟨RX4, "digestRings", "(J)J"⟩
abbrev cX4_digestMachine : ByteArray := prog_1_method_35_code
def yX4_digestMachine : MethodName := ⟨RX4, "digestMachine", "(J)J"⟩
abbrev cX4_digestBuffer : ByteArray := prog_1_method_36_code
def yX4_digestBuffer : MethodName := ⟨RX4, "digestBuffer", "(J)J"⟩
abbrev cX4_bitsOfShare : ByteArray := prog_1_method_37_code
def yX4_bitsOfShare : MethodName := ⟨RX4, "bitsOfShare", "(IIII)J"⟩
abbrev cX4_changesOfProgramAt : ByteArray := prog_1_method_38_code
def yX4_changesOfProgramAt : MethodName := ⟨RX4, "changesOfProgramAt", "(I)I"⟩
abbrev cX4_pairsTellingTheSame : ByteArray := prog_1_method_39_code
def yX4_pairsTellingTheSame : MethodName := ⟨RX4, "pairsTellingTheSame", "()I"⟩
abbrev cX4_isWithin : ByteArray := prog_1_method_40_code
def yX4_isWithin : MethodName := ⟨RX4, "isWithin", "(III)Z"⟩
abbrev cX4_isThread : ByteArray := prog_1_method_41_code
def yX4_isThread : MethodName := ⟨RX4, "isThread", "(I)Z"⟩
abbrev cX4_isRing : ByteArray := prog_1_method_42_code
def yX4_isRing : MethodName := ⟨RX4, "isRing", "(I)Z"⟩
abbrev cX4_isSetting : ByteArray := prog_1_method_43_code
def yX4_isSetting : MethodName := ⟨RX4, "isSetting", "(I)Z"⟩
abbrev cX4_isSlot : ByteArray := prog_1_method_44_code
def yX4_isSlot : MethodName := ⟨RX4, "isSlot", "(I)Z"⟩
abbrev cX4_bit : ByteArray := prog_1_method_45_code
def yX4_bit : MethodName := ⟨RX4, "bit", "(II)I"⟩
def RX5 : String := "WireLoomModel"
def TX5 : u_T := fun k => match k with
  | 0 => ("WireLoomModel", "thrown", "I", false)
  | 1 => ("WireLoomModel", "s", "[I", true)
  | 2 => ("WireLoomModel", "saved", "I", false)
  | 3 => ("WireLoomModel", "isKept", "[Z", true)
  | 4 => ("WireLoomModel", "text", "[I", true)
  | 5 => ("WireLoomModel", "length", "I", false)
  | 6 => ("WireLoomModel", "words", "[I", true)
  | 7 => ("WireLoomModel", "many", "I", false)
  | 8 => ("WireLoomModel", "at", "I", false)
  | _ => ("WireLoomModel", "hash", "J", false)
def tyX5 : Nat → FieldType := fun k => match k with
  | 0 => .int
  | 1 => .array .int
  | 2 => .int
  | 3 => .array .boolean
  | 4 => .array .int
  | 5 => .int
  | 6 => .array .int
  | 7 => .int
  | 8 => .int
  | _ => .long
abbrev wsX50 : List Cond := u_ws RX5 TX5 10
theorem nmX5 : ∀ a, a < 10 → ∀ b, b < 10 → a ≠ b → (TX5 a).2.1 ≠ (TX5 b).2.1 := by decide +kernel
theorem tyX5_ok : ∀ k, k < 10 → parseFieldDescriptor (TX5 k).2.2.1 = some (tyX5 k) := by decide +kernel
abbrev cX5_init : ByteArray := prog_7_method_1_code
def yX5_init : MethodName := ⟨RX5, "<init>", "()V"⟩
abbrev cX5_thrown : ByteArray := prog_7_method_2_code
def yX5_thrown : MethodName := ⟨RX5, "thrown", "()I"⟩
abbrev cX5_in : ByteArray := prog_7_method_3_code
def yX5_in : MethodName := ⟨RX5, "in", "(III)Z"⟩
abbrev cX5_holds : ByteArray := prog_7_method_4_code
def yX5_holds : MethodName := ⟨RX5, "holds", "(I)Z"⟩
abbrev cX5_has : ByteArray := prog_7_method_5_code
def yX5_has : MethodName := ⟨RX5, "has", "(II)Z"⟩
abbrev cX5_ones : ByteArray := prog_7_method_6_code
def yX5_ones : MethodName := ⟨RX5, "ones", "(I)I"⟩
abbrev cX5_isThread : ByteArray := prog_7_method_7_code
def yX5_isThread : MethodName := ⟨RX5, "isThread", "(I)Z"⟩
abbrev cX5_isRing : ByteArray := prog_7_method_8_code
def yX5_isRing : MethodName := ⟨RX5, "isRing", "(I)Z"⟩
abbrev cX5_reached : ByteArray := prog_7_method_9_code
def yX5_reached : MethodName := ⟨RX5, "reached", "(III)I"⟩
abbrev cX5_hopsTo : ByteArray := prog_7_method_10_code
def yX5_hopsTo : MethodName := ⟨RX5, "hopsTo", "(III)I"⟩
abbrev cX5_strengthIn : ByteArray := prog_7_method_11_code
def yX5_strengthIn : MethodName := ⟨RX5, "strengthIn", "(III)I"⟩
abbrev cX5_answers : ByteArray := prog_7_method_12_code
def yX5_answers : MethodName := ⟨RX5, "answers", "(II)I"⟩
abbrev cX5_turned : ByteArray := prog_7_method_13_code
def yX5_turned : MethodName := ⟨RX5, "turned", "(II)I"⟩
abbrev cX5_wordOf : ByteArray := prog_7_method_14_code
def yX5_wordOf : MethodName := ⟨RX5, "wordOf", "(II)I"⟩
abbrev cX5_meant : ByteArray := prog_7_method_15_code
def yX5_meant : MethodName := ⟨RX5, "meant", "(II)I"⟩
abbrev cX5_wears : ByteArray := prog_7_method_16_code
def yX5_wears : MethodName := ⟨RX5, "wears", "(III)V"⟩
abbrev cX5_reads : ByteArray := prog_7_method_17_code
def yX5_reads : MethodName := ⟨RX5, "reads", "(II)I"⟩
abbrev cX5_lays : ByteArray := prog_7_method_18_code
def yX5_lays : MethodName := ⟨RX5, "lays", "(III)I"⟩
abbrev cX5_crossings : ByteArray := prog_7_method_19_code
def yX5_crossings : MethodName := ⟨RX5, "crossings", "(I)I"⟩
abbrev cX5_right : ByteArray := prog_7_method_20_code
def yX5_right : MethodName := ⟨RX5, "right", "(I)I"⟩
abbrev cX5_tells : ByteArray := prog_7_method_21_code
def yX5_tells : MethodName := ⟨RX5, "tells", "(I)V"⟩
abbrev cX5_steps : ByteArray := prog_7_method_22_code
def yX5_steps : MethodName := ⟨RX5, "steps", "(I)V"⟩
abbrev cX5_goes : ByteArray := prog_7_method_23_code
def yX5_goes : MethodName := ⟨RX5, "goes", "(II)I"⟩
abbrev cX5_copies : ByteArray := prog_7_method_24_code
def yX5_copies : MethodName := ⟨RX5, "copies", "(II)V"⟩
abbrev cX5_save : ByteArray := prog_7_method_25_code
def yX5_save : MethodName := ⟨RX5, "save", "()V"⟩
abbrev cX5_cross : ByteArray := prog_7_method_26_code
def yX5_cross : MethodName := ⟨RX5, "cross", "(II)I"⟩
abbrev cX5_lay : ByteArray := prog_7_method_27_code
def yX5_lay : MethodName := ⟨RX5, "lay", "(II)I"⟩
abbrev cX5_guard : ByteArray := prog_7_method_28_code
def yX5_guard : MethodName := ⟨RX5, "guard", "(I)I"⟩
abbrev cX5_threadsOf : ByteArray := prog_7_method_29_code
def yX5_threadsOf : MethodName := ⟨RX5, "threadsOf", "(I)I"⟩
abbrev cX5_change : ByteArray := prog_7_method_30_code
def yX5_change : MethodName := ⟨RX5, "change", "(I)I"⟩
abbrev cX5_set : ByteArray := prog_7_method_31_code
def yX5_set : MethodName := ⟨RX5, "set", "(II)I"⟩
abbrev cX5_read : ByteArray := prog_7_method_32_code
def yX5_read : MethodName := ⟨RX5, "read", "(I)I"⟩
abbrev cX5_start : ByteArray := prog_7_method_33_code
def yX5_start : MethodName := ⟨RX5, "start", "()I"⟩
abbrev cX5_go : ByteArray := prog_7_method_34_code
def yX5_go : MethodName := ⟨RX5, "go", "(I)I"⟩
abbrev cX5_append : ByteArray := prog_7_method_35_code
def yX5_append : MethodName := ⟨RX5, "append", "(I)I"⟩
abbrev cX5_clearBuffer : ByteArray := prog_7_method_36_code
def yX5_clearBuffer : MethodName := ⟨RX5, "clearBuffer", "()I"⟩
abbrev cX5_digit : ByteArray := prog_7_method_37_code
def yX5_digit : MethodName := ⟨RX5, "digit", "()I"⟩
abbrev cX5_isWord : ByteArray := prog_7_method_38_code
def yX5_isWord : MethodName := ⟨RX5, "isWord", "()Z"⟩
abbrev cX5_isProgram : ByteArray := prog_7_method_39_code
def yX5_isProgram : MethodName := ⟨RX5, "isProgram", "()Z"⟩
abbrev cX5_firstError : ByteArray := prog_7_method_40_code
def yX5_firstError : MethodName := ⟨RX5, "firstError", "()I"⟩
abbrev cX5_loads : ByteArray := prog_7_method_41_code
def yX5_loads : MethodName := ⟨RX5, "loads", "(II)I"⟩
abbrev cX5_load : ByteArray := prog_7_method_42_code
def yX5_load : MethodName := ⟨RX5, "load", "(I)I"⟩
abbrev cX5_sign : ByteArray := prog_7_method_43_code
def yX5_sign : MethodName := ⟨RX5, "sign", "(I)I"⟩
abbrev cX5_write : ByteArray := prog_7_method_44_code
def yX5_write : MethodName := ⟨RX5, "write", "(II)I"⟩
abbrev cX5_keep : ByteArray := prog_7_method_45_code
def yX5_keep : MethodName := ⟨RX5, "keep", "(I)I"⟩
abbrev cX5_goBack : ByteArray := prog_7_method_46_code
def yX5_goBack : MethodName := ⟨RX5, "goBack", "(I)I"⟩
abbrev cX5_undo : ByteArray := prog_7_method_47_code
def yX5_undo : MethodName := ⟨RX5, "undo", "()I"⟩
abbrev cX5_ofThread : ByteArray := prog_7_method_48_code
def yX5_ofThread : MethodName := ⟨RX5, "ofThread", "(II)I"⟩
abbrev cX5_threadOf : ByteArray := prog_7_method_49_code
def yX5_threadOf : MethodName := ⟨RX5, "threadOf", "(II)I"⟩
abbrev cX5_makers : ByteArray := prog_7_method_50_code
def yX5_makers : MethodName := ⟨RX5, "makers", "(I)I"⟩
abbrev cX5_ofRing : ByteArray := prog_7_method_51_code
def yX5_ofRing : MethodName := ⟨RX5, "ofRing", "(II)I"⟩
abbrev cX5_ringOf : ByteArray := prog_7_method_52_code
def yX5_ringOf : MethodName := ⟨RX5, "ringOf", "(II)I"⟩
abbrev cX5_strength : ByteArray := prog_7_method_53_code
def yX5_strength : MethodName := ⟨RX5, "strength", "(III)I"⟩
abbrev cX5_ofMachine : ByteArray := prog_7_method_54_code
def yX5_ofMachine : MethodName := ⟨RX5, "ofMachine", "(I)I"⟩
abbrev cX5_machine : ByteArray := prog_7_method_55_code
def yX5_machine : MethodName := ⟨RX5, "machine", "(I)I"⟩
abbrev cX5_toldAgo : ByteArray := prog_7_method_56_code
def yX5_toldAgo : MethodName := ⟨RX5, "toldAgo", "(I)I"⟩
abbrev cX5_told : ByteArray := prog_7_method_57_code
def yX5_told : MethodName := ⟨RX5, "told", "(I)I"⟩
abbrev cX5_byRings : ByteArray := prog_7_method_58_code
def yX5_byRings : MethodName := ⟨RX5, "byRings", "()I"⟩
abbrev cX5_greatestWear : ByteArray := prog_7_method_59_code
def yX5_greatestWear : MethodName := ⟨RX5, "greatestWear", "()I"⟩
abbrev cX5_pairs : ByteArray := prog_7_method_60_code
def yX5_pairs : MethodName := ⟨RX5, "pairs", "(Z)I"⟩
abbrev cX5_counted : ByteArray := prog_7_method_61_code
def yX5_counted : MethodName := ⟨RX5, "counted", "(I)I"⟩
abbrev cX5_count : ByteArray := prog_7_method_62_code
def yX5_count : MethodName := ⟨RX5, "count", "(I)I"⟩
abbrev cX5_setting : ByteArray := prog_7_method_63_code
def yX5_setting : MethodName := ⟨RX5, "setting", "(I)I"⟩
abbrev cX5_wouldLoad : ByteArray := prog_7_method_64_code
def yX5_wouldLoad : MethodName := ⟨RX5, "wouldLoad", "(I)I"⟩
abbrev cX5_ifLoaded : ByteArray := prog_7_method_65_code
def yX5_ifLoaded : MethodName := ⟨RX5, "ifLoaded", "(I)I"⟩
abbrev cX5_placeFound : ByteArray := prog_7_method_66_code
def yX5_placeFound : MethodName := ⟨RX5, "placeFound", "()I"⟩
abbrev cX5_bestPlace : ByteArray := prog_7_method_67_code
def yX5_bestPlace : MethodName := ⟨RX5, "bestPlace", "()I"⟩
abbrev cX5_guardFound : ByteArray := prog_7_method_68_code
def yX5_guardFound : MethodName := ⟨RX5, "guardFound", "()I"⟩
abbrev cX5_bestGuard : ByteArray := prog_7_method_69_code
def yX5_bestGuard : MethodName := ⟨RX5, "bestGuard", "()I"⟩
abbrev cX5_readingsLeft : ByteArray := prog_7_method_70_code
def yX5_readingsLeft : MethodName := ⟨RX5, "readingsLeft", "(I)I"⟩
abbrev cX5_lastsFor : ByteArray := prog_7_method_71_code
def yX5_lastsFor : MethodName := ⟨RX5, "lastsFor", "(I)I"⟩
abbrev cX5_gone : ByteArray := prog_7_method_72_code
def yX5_gone : MethodName := ⟨RX5, "gone", "(II)I"⟩
abbrev cX5_ifGone : ByteArray := prog_7_method_73_code
def yX5_ifGone : MethodName := ⟨RX5, "ifGone", "(II)I"⟩
abbrev cX5_share : ByteArray := prog_7_method_74_code
def yX5_share : MethodName := ⟨RX5, "share", "()D"⟩
abbrev cX5_rightShare : ByteArray := prog_7_method_75_code
def yX5_rightShare : MethodName := ⟨RX5, "rightShare", "()D"⟩
abbrev cX5_mean : ByteArray := prog_7_method_76_code
def yX5_mean : MethodName := ⟨RX5, "mean", "()F"⟩
abbrev cX5_meanWear : ByteArray := prog_7_method_77_code
def yX5_meanWear : MethodName := ⟨RX5, "meanWear", "()F"⟩
abbrev cX5_mix : ByteArray := prog_7_method_78_code
def yX5_mix : MethodName := ⟨RX5, "mix", "(J)V"⟩
abbrev cX5_bits : ByteArray := prog_7_method_79_code
def yX5_bits : MethodName := ⟨RX5, "bits", "(DJJ)J"⟩
abbrev cX5_mixThreads : ByteArray := prog_7_method_80_code
def yX5_mixThreads : MethodName := ⟨RX5, "mixThreads", "()V"⟩
abbrev cX5_digest : ByteArray := prog_7_method_81_code
def yX5_digest : MethodName := ⟨RX5, "digest", "()J"⟩
def RJ6 : String := "java/lang/Integer"
def TJ6 : u_T := fun k => match k with
  | _ => ("", "", "", false)
def tyJ6 : Nat → FieldType := fun k => match k with
  | _ => .int
abbrev wsJ60 : List Cond := u_ws RJ6 TJ6 0
theorem nmJ6 : ∀ a, a < 0 → ∀ b, b < 0 → a ≠ b → (TJ6 a).2.1 ≠ (TJ6 b).2.1 := by decide +kernel
theorem tyJ6_ok : ∀ k, k < 0 → parseFieldDescriptor (TJ6 k).2.2.1 = some (tyJ6 k) := by decide +kernel
abbrev cJ6_bitCount_0f7a4 : ByteArray := prog_12_method_49_code
def yJ6_bitCount_0f7a4 : MethodName := ⟨RJ6, "bitCount", "(I)I"⟩
def RJ9 : String := "java/lang/Math"
def TJ9 : u_T := fun k => match k with
  | _ => ("", "", "", false)
def tyJ9 : Nat → FieldType := fun k => match k with
  | _ => .int
abbrev wsJ90 : List Cond := u_ws RJ9 TJ9 0
theorem nmJ9 : ∀ a, a < 0 → ∀ b, b < 0 → a ≠ b → (TJ9 a).2.1 ≠ (TJ9 b).2.1 := by decide +kernel
theorem tyJ9_ok : ∀ k, k < 0 → parseFieldDescriptor (TJ9 k).2.2.1 = some (tyJ9 k) := by decide +kernel
abbrev cJ9_max_7cf53 : ByteArray := prog_13_method_65_code
def yJ9_max_7cf53 : MethodName := ⟨RJ9, "max", "(II)I"⟩
abbrev cJ9_min_7cf53 : ByteArray := prog_13_method_69_code
def yJ9_min_7cf53 : MethodName := ⟨RJ9, "min", "(II)I"⟩
def RJ0 : String := "java/lang/String"
def TJ0 : u_T := fun k => match k with
  | _ => ("", "", "", false)
def tyJ0 : Nat → FieldType := fun k => match k with
  | _ => .int
abbrev wsJ00 : List Cond := u_ws RJ0 TJ0 0
theorem nmJ0 : ∀ a, a < 0 → ∀ b, b < 0 → a ≠ b → (TJ0 a).2.1 ≠ (TJ0 b).2.1 := by decide +kernel
theorem tyJ0_ok : ∀ k, k < 0 → parseFieldDescriptor (TJ0 k).2.2.1 = some (tyJ0 k) := by decide +kernel
def RJ10 : String := "java/lang/System"
def TJ10 : u_T := fun k => match k with
  | _ => ("", "", "", false)
def tyJ10 : Nat → FieldType := fun k => match k with
  | _ => .int
abbrev wsJ100 : List Cond := u_ws RJ10 TJ10 0
theorem nmJ10 : ∀ a, a < 0 → ∀ b, b < 0 → a ≠ b → (TJ10 a).2.1 ≠ (TJ10 b).2.1 := by decide +kernel
theorem tyJ10_ok : ∀ k, k < 0 → parseFieldDescriptor (TJ10 k).2.2.1 = some (tyJ10 k) := by decide +kernel
def RL : String := "WireLoomLaw"
abbrev cL_cross : ByteArray := method_3_code
def yL_cross : MethodName := ⟨RL, "cross", "(LWireLoom;II[J)I"⟩
abbrev cL_lay : ByteArray := method_4_code
def yL_lay : MethodName := ⟨RL, "lay", "(LWireLoom;II[J)I"⟩
abbrev cL_guard : ByteArray := method_5_code
def yL_guard : MethodName := ⟨RL, "guard", "(LWireLoom;I[J)I"⟩
abbrev cL_change : ByteArray := method_6_code
def yL_change : MethodName := ⟨RL, "change", "(LWireLoom;I[J)I"⟩
abbrev cL_set : ByteArray := method_7_code
def yL_set : MethodName := ⟨RL, "set", "(LWireLoom;II[J)I"⟩
abbrev cL_read : ByteArray := method_8_code
def yL_read : MethodName := ⟨RL, "read", "(LWireLoom;I[J)I"⟩
abbrev cL_go : ByteArray := method_9_code
def yL_go : MethodName := ⟨RL, "go", "(LWireLoom;I[J)I"⟩
abbrev cL_append : ByteArray := method_10_code
def yL_append : MethodName := ⟨RL, "append", "(LWireLoom;I[J)I"⟩
abbrev cL_load : ByteArray := method_11_code
def yL_load : MethodName := ⟨RL, "load", "(LWireLoom;I[J)I"⟩
abbrev cL_write : ByteArray := method_12_code
def yL_write : MethodName := ⟨RL, "write", "(LWireLoom;II[J)I"⟩
abbrev cL_keep : ByteArray := method_13_code
def yL_keep : MethodName := ⟨RL, "keep", "(LWireLoom;I[J)I"⟩
abbrev cL_goBack : ByteArray := method_14_code
def yL_goBack : MethodName := ⟨RL, "goBack", "(LWireLoom;I[J)I"⟩
abbrev cL_undo : ByteArray := method_15_code
def yL_undo : MethodName := ⟨RL, "undo", "(LWireLoom;[J)I"⟩
abbrev cL_threadOf : ByteArray := method_16_code
def yL_threadOf : MethodName := ⟨RL, "threadOf", "(LWireLoom;II[J)I"⟩
abbrev cL_ringOf : ByteArray := method_17_code
def yL_ringOf : MethodName := ⟨RL, "ringOf", "(LWireLoom;II[J)I"⟩
abbrev cL_strength : ByteArray := method_18_code
def yL_strength : MethodName := ⟨RL, "strength", "(LWireLoom;III[J)I"⟩
abbrev cL_machine : ByteArray := method_19_code
def yL_machine : MethodName := ⟨RL, "machine", "(LWireLoom;I[J)I"⟩
abbrev cL_told : ByteArray := method_20_code
def yL_told : MethodName := ⟨RL, "told", "(LWireLoom;I[J)I"⟩
abbrev cL_count : ByteArray := method_21_code
def yL_count : MethodName := ⟨RL, "count", "(LWireLoom;I[J)I"⟩
abbrev cL_setting : ByteArray := method_22_code
def yL_setting : MethodName := ⟨RL, "setting", "(LWireLoom;I[J)I"⟩
abbrev cL_ifLoaded : ByteArray := method_23_code
def yL_ifLoaded : MethodName := ⟨RL, "ifLoaded", "(LWireLoom;I[J)I"⟩
abbrev cL_lastsFor : ByteArray := method_24_code
def yL_lastsFor : MethodName := ⟨RL, "lastsFor", "(LWireLoom;I[J)I"⟩
abbrev cL_ifGone : ByteArray := method_25_code
def yL_ifGone : MethodName := ⟨RL, "ifGone", "(LWireLoom;II[J)I"⟩
abbrev cL_law : ByteArray := code
def yL_law : MethodName := ⟨RL, "law", "([I)Z"⟩
def wsX0_begin : List Cond := .code yX0_begin cX0_begin 2 none :: ([.fieldLink RX0 11 "WireLoom$Machine" "cells" "[I", .fieldLink RX0 15 "WireLoom$Machine" "latest" "[I", .fieldLink RX0 21 "WireLoom$Machine" "place" "I", .fieldLink RX0 25 "WireLoom$Machine" "count" "I", .fieldLink RX0 28 "WireLoom$Machine" "running" "Z", .fieldLink RX0 32 "WireLoom$Machine" "steps" "I", .fieldLink RX0 35 "WireLoom$Machine" "tellings" "I"] ++ wsX00)
def wsX0_init : List Cond := .code yX0_init cX0_init 1 none :: ([.methodLink RX0 3 objectInit, .instanceMethod objectInit, .code objectInit ⟨#[0xb1]⟩ 1 none, .arrayClass .int, .fieldLink RX0 11 "WireLoom$Machine" "cells" "[I", .fieldLink RX0 15 "WireLoom$Machine" "latest" "[I", .methodLink RX0 18 yX0_begin, .instanceMethod yX0_begin, .selects RX0 yX0_begin yX0_begin, .initialized RX0, .code yX0_begin cX0_begin 2 none, .fieldLink RX0 21 "WireLoom$Machine" "place" "I", .fieldLink RX0 25 "WireLoom$Machine" "count" "I", .fieldLink RX0 28 "WireLoom$Machine" "running" "Z", .fieldLink RX0 32 "WireLoom$Machine" "steps" "I", .fieldLink RX0 35 "WireLoom$Machine" "tellings" "I"] ++ wsX00)
def wsX0_becomeLike : List Cond := .code yX0_becomeLike cX0_becomeLike 2 none :: ([.fieldLink RX0 11 "WireLoom$Machine" "cells" "[I", .methodLink RX0 38 arraycopyName, .native arraycopyName, .static arraycopyName, .initialized "java/lang/System", .fieldLink RX0 15 "WireLoom$Machine" "latest" "[I", .fieldLink RX0 21 "WireLoom$Machine" "place" "I", .fieldLink RX0 25 "WireLoom$Machine" "count" "I", .fieldLink RX0 28 "WireLoom$Machine" "running" "Z", .fieldLink RX0 32 "WireLoom$Machine" "steps" "I", .fieldLink RX0 35 "WireLoom$Machine" "tellings" "I"] ++ wsX00)
def wsX0_tellCount : List Cond := .code yX0_tellCount cX0_tellCount 2 none :: ([.fieldLink RX0 15 "WireLoom$Machine" "latest" "[I", .fieldLink RX0 25 "WireLoom$Machine" "count" "I", .fieldLink RX0 35 "WireLoom$Machine" "tellings" "I"] ++ wsX00)
def wsX0_obey : List Cond := .code yX0_obey cX0_obey 4 none :: ([.fieldLink RX0 32 "WireLoom$Machine" "steps" "I", .fieldLink RX0 21 "WireLoom$Machine" "place" "I", .fieldLink RX0 28 "WireLoom$Machine" "running" "Z", .fieldLink RX0 25 "WireLoom$Machine" "count" "I", .fieldLink RX0 11 "WireLoom$Machine" "cells" "[I", .methodLink RX0 44 yX0_tellCount, .instanceMethod yX0_tellCount, .selects RX0 yX0_tellCount yX0_tellCount, .initialized RX0, .code yX0_tellCount cX0_tellCount 2 none, .fieldLink RX0 15 "WireLoom$Machine" "latest" "[I", .fieldLink RX0 35 "WireLoom$Machine" "tellings" "I"] ++ wsX00)
def wsX2_init_r1 : List Cond := [Cond.methodLink RX2 3 objectInit, Cond.instanceMethod objectInit, Cond.code objectInit ⟨#[0xb1]⟩ 1 none, Cond.arrayClass .int, Cond.fieldLink RX2 9 "WireLoom$State" "rings" "[I", Cond.fieldLink RX2 15 "WireLoom$State" "readings" "[I", Cond.fieldLink RX2 18 "WireLoom$State" "wear" "[I", Cond.fieldLink RX2 21 "WireLoom$State" "settings" "[I", Cond.classLink RX2 24 RX0, Cond.instantiable RX0 7, Cond.initialized RX0, Cond.fieldLink RX2 27 "WireLoom$State" "machine" "LWireLoom$Machine;", Cond.methodLink RX2 26 yX0_init, Cond.instanceMethod yX0_init, Cond.code yX0_init cX0_init 1 none, Cond.methodLink RX0 3 objectInit, Cond.fieldLink RX0 11 "WireLoom$Machine" "cells" "[I", Cond.fieldLink RX0 15 "WireLoom$Machine" "latest" "[I", Cond.methodLink RX0 18 yX0_begin, Cond.instanceMethod yX0_begin, Cond.selects RX0 yX0_begin yX0_begin, Cond.code yX0_begin cX0_begin 2 none, Cond.fieldLink RX0 21 "WireLoom$Machine" "place" "I", Cond.fieldLink RX0 25 "WireLoom$Machine" "count" "I"]
def wsX2_init_r2 : List Cond := [Cond.fieldLink RX0 28 "WireLoom$Machine" "running" "Z", Cond.fieldLink RX0 32 "WireLoom$Machine" "steps" "I", Cond.fieldLink RX0 35 "WireLoom$Machine" "tellings" "I"]
def wsX2_init : List Cond := .code yX2_init cX2_init 1 none :: ((wsX2_init_r1 ++ wsX2_init_r2) ++ wsX20 ++ wsX00)
def wsX1_init_r1 : List Cond := [Cond.methodLink RX1 1 objectInit, Cond.instanceMethod objectInit, Cond.code objectInit ⟨#[0xb1]⟩ 1 none, Cond.classLink RX1 9 RX2, Cond.fieldLink RX1 11 "WireLoom$Past" "saved" "[LWireLoom$State;", Cond.instantiable RX2 8, Cond.initialized RX2, Cond.methodLink RX1 15 yX2_init, Cond.instanceMethod yX2_init, Cond.code yX2_init cX2_init 1 none, Cond.methodLink RX2 3 objectInit, Cond.arrayClass .int, Cond.fieldLink RX2 9 "WireLoom$State" "rings" "[I", Cond.fieldLink RX2 15 "WireLoom$State" "readings" "[I", Cond.fieldLink RX2 18 "WireLoom$State" "wear" "[I", Cond.fieldLink RX2 21 "WireLoom$State" "settings" "[I", Cond.classLink RX2 24 RX0, Cond.instantiable RX0 7, Cond.initialized RX0, Cond.fieldLink RX2 27 "WireLoom$State" "machine" "LWireLoom$Machine;", Cond.methodLink RX2 26 yX0_init, Cond.instanceMethod yX0_init, Cond.code yX0_init cX0_init 1 none, Cond.methodLink RX0 3 objectInit]
def wsX1_init_r2 : List Cond := [Cond.fieldLink RX0 11 "WireLoom$Machine" "cells" "[I", Cond.fieldLink RX0 15 "WireLoom$Machine" "latest" "[I", Cond.methodLink RX0 18 yX0_begin, Cond.instanceMethod yX0_begin, Cond.selects RX0 yX0_begin yX0_begin, Cond.code yX0_begin cX0_begin 2 none, Cond.fieldLink RX0 21 "WireLoom$Machine" "place" "I", Cond.fieldLink RX0 25 "WireLoom$Machine" "count" "I", Cond.fieldLink RX0 28 "WireLoom$Machine" "running" "Z", Cond.fieldLink RX0 32 "WireLoom$Machine" "steps" "I", Cond.fieldLink RX0 35 "WireLoom$Machine" "tellings" "I"]
def wsX1_init : List Cond := .code yX1_init cX1_init 2 none :: ((wsX1_init_r1 ++ wsX1_init_r2) ++ wsX10 ++ wsX20 ++ wsX00)
def wsX2_become_r1 : List Cond := [Cond.fieldLink RX2 9 "WireLoom$State" "rings" "[I", Cond.methodLink RX2 31 arraycopyName, Cond.native arraycopyName, Cond.static arraycopyName, Cond.initialized "java/lang/System", Cond.fieldLink RX2 15 "WireLoom$State" "readings" "[I", Cond.fieldLink RX2 18 "WireLoom$State" "wear" "[I", Cond.fieldLink RX2 21 "WireLoom$State" "settings" "[I", Cond.fieldLink RX2 27 "WireLoom$State" "machine" "LWireLoom$Machine;", Cond.fieldLink RX2 41 "WireLoom$State" "guarded" "I", Cond.fieldLink RX2 45 "WireLoom$State" "crossingsChanged" "I", Cond.fieldLink RX2 48 "WireLoom$State" "readingsDone" "I", Cond.methodLink RX2 37 yX0_becomeLike, Cond.instanceMethod yX0_becomeLike, Cond.selects RX0 yX0_becomeLike yX0_becomeLike, Cond.initialized RX0, Cond.code yX0_becomeLike cX0_becomeLike 2 none, Cond.fieldLink RX0 11 "WireLoom$Machine" "cells" "[I", Cond.methodLink RX0 38 arraycopyName, Cond.fieldLink RX0 15 "WireLoom$Machine" "latest" "[I", Cond.fieldLink RX0 21 "WireLoom$Machine" "place" "I", Cond.fieldLink RX0 25 "WireLoom$Machine" "count" "I", Cond.fieldLink RX0 28 "WireLoom$Machine" "running" "Z", Cond.fieldLink RX0 32 "WireLoom$Machine" "steps" "I"]
def wsX2_become_r2 : List Cond := [Cond.fieldLink RX0 35 "WireLoom$Machine" "tellings" "I"]
def wsX2_become : List Cond := .code yX2_become cX2_become 2 none :: ((wsX2_become_r1 ++ wsX2_become_r2) ++ wsX20 ++ wsX00)
def wsX1_push_r1 : List Cond := [Cond.fieldLink RX1 11 "WireLoom$Past" "saved" "[LWireLoom$State;", Cond.fieldLink RX1 16 "WireLoom$Past" "oldest" "I", Cond.fieldLink RX1 20 "WireLoom$Past" "size" "I", Cond.methodLink RX1 23 yX2_become, Cond.instanceMethod yX2_become, Cond.selects RX2 yX2_become yX2_become, Cond.initialized RX2, Cond.code yX2_become cX2_become 2 none, Cond.fieldLink RX2 9 "WireLoom$State" "rings" "[I", Cond.methodLink RX2 31 arraycopyName, Cond.native arraycopyName, Cond.static arraycopyName, Cond.initialized "java/lang/System", Cond.fieldLink RX2 15 "WireLoom$State" "readings" "[I", Cond.fieldLink RX2 18 "WireLoom$State" "wear" "[I", Cond.fieldLink RX2 21 "WireLoom$State" "settings" "[I", Cond.fieldLink RX2 27 "WireLoom$State" "machine" "LWireLoom$Machine;", Cond.fieldLink RX2 41 "WireLoom$State" "guarded" "I", Cond.fieldLink RX2 45 "WireLoom$State" "crossingsChanged" "I", Cond.fieldLink RX2 48 "WireLoom$State" "readingsDone" "I", Cond.methodLink RX2 37 yX0_becomeLike, Cond.instanceMethod yX0_becomeLike, Cond.selects RX0 yX0_becomeLike yX0_becomeLike, Cond.initialized RX0]
def wsX1_push_r2 : List Cond := [Cond.code yX0_becomeLike cX0_becomeLike 2 none, Cond.fieldLink RX0 11 "WireLoom$Machine" "cells" "[I", Cond.methodLink RX0 38 arraycopyName, Cond.fieldLink RX0 15 "WireLoom$Machine" "latest" "[I", Cond.fieldLink RX0 21 "WireLoom$Machine" "place" "I", Cond.fieldLink RX0 25 "WireLoom$Machine" "count" "I", Cond.fieldLink RX0 28 "WireLoom$Machine" "running" "Z", Cond.fieldLink RX0 32 "WireLoom$Machine" "steps" "I", Cond.fieldLink RX0 35 "WireLoom$Machine" "tellings" "I"]
def wsX1_push : List Cond := .code yX1_push cX1_push 2 none :: ((wsX1_push_r1 ++ wsX1_push_r2) ++ wsX10 ++ wsX20 ++ wsX00)
def wsX1_popInto_r1 : List Cond := [Cond.fieldLink RX1 20 "WireLoom$Past" "size" "I", Cond.fieldLink RX1 11 "WireLoom$Past" "saved" "[LWireLoom$State;", Cond.fieldLink RX1 16 "WireLoom$Past" "oldest" "I", Cond.methodLink RX1 23 yX2_become, Cond.instanceMethod yX2_become, Cond.selects RX2 yX2_become yX2_become, Cond.initialized RX2, Cond.code yX2_become cX2_become 2 none, Cond.fieldLink RX2 9 "WireLoom$State" "rings" "[I", Cond.methodLink RX2 31 arraycopyName, Cond.native arraycopyName, Cond.static arraycopyName, Cond.initialized "java/lang/System", Cond.fieldLink RX2 15 "WireLoom$State" "readings" "[I", Cond.fieldLink RX2 18 "WireLoom$State" "wear" "[I", Cond.fieldLink RX2 21 "WireLoom$State" "settings" "[I", Cond.fieldLink RX2 27 "WireLoom$State" "machine" "LWireLoom$Machine;", Cond.fieldLink RX2 41 "WireLoom$State" "guarded" "I", Cond.fieldLink RX2 45 "WireLoom$State" "crossingsChanged" "I", Cond.fieldLink RX2 48 "WireLoom$State" "readingsDone" "I", Cond.methodLink RX2 37 yX0_becomeLike, Cond.instanceMethod yX0_becomeLike, Cond.selects RX0 yX0_becomeLike yX0_becomeLike, Cond.initialized RX0]
def wsX1_popInto_r2 : List Cond := [Cond.code yX0_becomeLike cX0_becomeLike 2 none, Cond.fieldLink RX0 11 "WireLoom$Machine" "cells" "[I", Cond.methodLink RX0 38 arraycopyName, Cond.fieldLink RX0 15 "WireLoom$Machine" "latest" "[I", Cond.fieldLink RX0 21 "WireLoom$Machine" "place" "I", Cond.fieldLink RX0 25 "WireLoom$Machine" "count" "I", Cond.fieldLink RX0 28 "WireLoom$Machine" "running" "Z", Cond.fieldLink RX0 32 "WireLoom$Machine" "steps" "I", Cond.fieldLink RX0 35 "WireLoom$Machine" "tellings" "I"]
def wsX1_popInto : List Cond := .code yX1_popInto cX1_popInto 2 none :: ((wsX1_popInto_r1 ++ wsX1_popInto_r2) ++ wsX10 ++ wsX20 ++ wsX00)
def wsX2_asWord : List Cond := .code yX2_asWord cX2_asWord 2 (some .int) :: ([.fieldLink RX2 21 "WireLoom$State" "settings" "[I"] ++ wsX20)
def wsX2_means : List Cond := .code yX2_means cX2_means 2 (some .int) :: ([.fieldLink RX2 9 "WireLoom$State" "rings" "[I", .methodLink RX2 51 yX2_asWord, .instanceMethod yX2_asWord, .selects RX2 yX2_asWord yX2_asWord, .initialized RX2, .code yX2_asWord cX2_asWord 2 (some .int), .fieldLink RX2 21 "WireLoom$State" "settings" "[I"] ++ wsX20)
def wsX4_bit : List Cond := .code yX4_bit cX4_bit 2 (some .int) :: ([])
def wsX2_strengthAt : List Cond := .code yX2_strengthAt cX2_strengthAt 4 (some .int) :: ([.methodLink RX2 99 Lib.Math.max.name, .static Lib.Math.max.name, .initialized "java/lang/Math", .code Lib.Math.max.name Lib.Math.max.code 2 (some .int), .fieldLink RX2 18 "WireLoom$State" "wear" "[I"] ++ wsX20)
def wsX2_oneThreadOn : List Cond := .code yX2_oneThreadOn cX2_oneThreadOn 6 (some .int) :: ([.fieldLink RX2 9 "WireLoom$State" "rings" "[I", .fieldLink RX2 41 "WireLoom$State" "guarded" "I", .static yX4_bit, .initialized RX4, .code yX4_bit cX4_bit 2 (some .int)] ++ wsX20)
def wsX2_answering : List Cond := .code yX2_answering cX2_answering 8 (some .int) :: ([.fieldLink RX2 9 "WireLoom$State" "rings" "[I", .fieldLink RX2 21 "WireLoom$State" "settings" "[I", .static yX4_bit, .initialized RX4, .code yX4_bit cX4_bit 2 (some .int), .methodLink RX2 102 yX2_strengthAt, .instanceMethod yX2_strengthAt, .selects RX2 yX2_strengthAt yX2_strengthAt, .initialized RX2, .code yX2_strengthAt cX2_strengthAt 4 (some .int), .methodLink RX2 99 Lib.Math.max.name, .static Lib.Math.max.name, .initialized "java/lang/Math", .code Lib.Math.max.name Lib.Math.max.code 2 (some .int), .fieldLink RX2 18 "WireLoom$State" "wear" "[I", .methodLink RX2 96 yX2_oneThreadOn, .instanceMethod yX2_oneThreadOn, .selects RX2 yX2_oneThreadOn yX2_oneThreadOn, .code yX2_oneThreadOn cX2_oneThreadOn 6 (some .int), .fieldLink RX2 41 "WireLoom$State" "guarded" "I"] ++ wsX20)
def wsX2_tells_r1 : List Cond := [Cond.methodLink RX2 55 yX2_answering, Cond.instanceMethod yX2_answering, Cond.selects RX2 yX2_answering yX2_answering, Cond.initialized RX2, Cond.code yX2_answering cX2_answering 8 (some .int), Cond.fieldLink RX2 9 "WireLoom$State" "rings" "[I", Cond.fieldLink RX2 21 "WireLoom$State" "settings" "[I", Cond.static yX4_bit, Cond.initialized RX4, Cond.code yX4_bit cX4_bit 2 (some .int), Cond.methodLink RX2 102 yX2_strengthAt, Cond.instanceMethod yX2_strengthAt, Cond.selects RX2 yX2_strengthAt yX2_strengthAt, Cond.code yX2_strengthAt cX2_strengthAt 4 (some .int), Cond.methodLink RX2 99 Lib.Math.max.name, Cond.static Lib.Math.max.name, Cond.initialized "java/lang/Math", Cond.code Lib.Math.max.name Lib.Math.max.code 2 (some .int), Cond.fieldLink RX2 18 "WireLoom$State" "wear" "[I", Cond.methodLink RX2 96 yX2_oneThreadOn, Cond.instanceMethod yX2_oneThreadOn, Cond.selects RX2 yX2_oneThreadOn yX2_oneThreadOn, Cond.code yX2_oneThreadOn cX2_oneThreadOn 6 (some .int), Cond.fieldLink RX2 41 "WireLoom$State" "guarded" "I"]
def wsX2_tells_r2 : List Cond := [Cond.methodLink RX2 51 yX2_asWord, Cond.instanceMethod yX2_asWord, Cond.selects RX2 yX2_asWord yX2_asWord, Cond.code yX2_asWord cX2_asWord 2 (some .int)]
def wsX2_tells : List Cond := .code yX2_tells cX2_tells 2 (some .int) :: ((wsX2_tells_r1 ++ wsX2_tells_r2) ++ wsX20)
def wsX2_wearRings : List Cond := .code yX2_wearRings cX2_wearRings 4 none :: ([.fieldLink RX2 18 "WireLoom$State" "wear" "[I", .methodLink RX2 74 Lib.Math.min.name, .static Lib.Math.min.name, .initialized "java/lang/Math", .code Lib.Math.min.name Lib.Math.min.code 2 (some .int), .static yX4_bit, .initialized RX4, .code yX4_bit cX4_bit 2 (some .int)] ++ wsX20)
def wsJ6_bitCount_0f7a4 : List Cond := .code yJ6_bitCount_0f7a4 cJ6_bitCount_0f7a4 1 (some .int) :: ([.constant RJ6 265 (1431655765), .constant RJ6 266 (858993459), .constant RJ6 267 (252645135)])
def wsX2_layThrough : List Cond := .code yX2_layThrough cX2_layThrough 5 (some .int) :: ([.fieldLink RX2 9 "WireLoom$State" "rings" "[I", .fieldLink RX2 45 "WireLoom$State" "crossingsChanged" "I", .methodLink RX2 58 yX2_wearRings, .instanceMethod yX2_wearRings, .selects RX2 yX2_wearRings yX2_wearRings, .initialized RX2, .code yX2_wearRings cX2_wearRings 4 none, .fieldLink RX2 18 "WireLoom$State" "wear" "[I", .methodLink RX2 74 Lib.Math.min.name, .static Lib.Math.min.name, .initialized "java/lang/Math", .code Lib.Math.min.name Lib.Math.min.code 2 (some .int), .static yX4_bit, .initialized RX4, .code yX4_bit cX4_bit 2 (some .int), .methodLink RX2 62 yJ6_bitCount_0f7a4, .static yJ6_bitCount_0f7a4, .initialized RJ6, .code yJ6_bitCount_0f7a4 cJ6_bitCount_0f7a4 1 (some .int), .constant RJ6 265 (1431655765), .constant RJ6 266 (858993459), .constant RJ6 267 (252645135)] ++ wsX20)
def wsX2_threadsThrough : List Cond := .code yX2_threadsThrough cX2_threadsThrough 4 (some .int) :: ([.fieldLink RX2 9 "WireLoom$State" "rings" "[I", .static yX4_bit, .initialized RX4, .code yX4_bit cX4_bit 2 (some .int)] ++ wsX20)
def wsX2_renewRing : List Cond := .code yX2_renewRing cX2_renewRing 4 (some .int) :: ([.fieldLink RX2 9 "WireLoom$State" "rings" "[I", .fieldLink RX2 18 "WireLoom$State" "wear" "[I", .methodLink RX2 67 yX2_threadsThrough, .instanceMethod yX2_threadsThrough, .selects RX2 yX2_threadsThrough yX2_threadsThrough, .initialized RX2, .code yX2_threadsThrough cX2_threadsThrough 4 (some .int), .static yX4_bit, .initialized RX4, .code yX4_bit cX4_bit 2 (some .int), .methodLink RX2 62 yJ6_bitCount_0f7a4, .static yJ6_bitCount_0f7a4, .initialized RJ6, .code yJ6_bitCount_0f7a4 cJ6_bitCount_0f7a4 1 (some .int), .constant RJ6 265 (1431655765), .constant RJ6 266 (858993459), .constant RJ6 267 (252645135)] ++ wsX20)
def wsX2_takeReading_r1 : List Cond := [Cond.fieldLink RX2 9 "WireLoom$State" "rings" "[I", Cond.fieldLink RX2 15 "WireLoom$State" "readings" "[I", Cond.fieldLink RX2 48 "WireLoom$State" "readingsDone" "I", Cond.methodLink RX2 79 yX2_tells, Cond.instanceMethod yX2_tells, Cond.selects RX2 yX2_tells yX2_tells, Cond.initialized RX2, Cond.code yX2_tells cX2_tells 2 (some .int), Cond.methodLink RX2 55 yX2_answering, Cond.instanceMethod yX2_answering, Cond.selects RX2 yX2_answering yX2_answering, Cond.code yX2_answering cX2_answering 8 (some .int), Cond.fieldLink RX2 21 "WireLoom$State" "settings" "[I", Cond.static yX4_bit, Cond.initialized RX4, Cond.code yX4_bit cX4_bit 2 (some .int), Cond.methodLink RX2 102 yX2_strengthAt, Cond.instanceMethod yX2_strengthAt, Cond.selects RX2 yX2_strengthAt yX2_strengthAt, Cond.code yX2_strengthAt cX2_strengthAt 4 (some .int), Cond.methodLink RX2 99 Lib.Math.max.name, Cond.static Lib.Math.max.name, Cond.initialized "java/lang/Math", Cond.code Lib.Math.max.name Lib.Math.max.code 2 (some .int)]
def wsX2_takeReading_r2 : List Cond := [Cond.fieldLink RX2 18 "WireLoom$State" "wear" "[I", Cond.methodLink RX2 96 yX2_oneThreadOn, Cond.instanceMethod yX2_oneThreadOn, Cond.selects RX2 yX2_oneThreadOn yX2_oneThreadOn, Cond.code yX2_oneThreadOn cX2_oneThreadOn 6 (some .int), Cond.fieldLink RX2 41 "WireLoom$State" "guarded" "I", Cond.methodLink RX2 51 yX2_asWord, Cond.instanceMethod yX2_asWord, Cond.selects RX2 yX2_asWord yX2_asWord, Cond.code yX2_asWord cX2_asWord 2 (some .int), Cond.methodLink RX2 58 yX2_wearRings, Cond.instanceMethod yX2_wearRings, Cond.selects RX2 yX2_wearRings yX2_wearRings, Cond.code yX2_wearRings cX2_wearRings 4 none, Cond.methodLink RX2 74 Lib.Math.min.name, Cond.static Lib.Math.min.name, Cond.code Lib.Math.min.name Lib.Math.min.code 2 (some .int)]
def wsX2_takeReading : List Cond := .code yX2_takeReading cX2_takeReading 3 (some .int) :: ((wsX2_takeReading_r1 ++ wsX2_takeReading_r2) ++ wsX20)
def wsX2_run_r1 : List Cond := [Cond.fieldLink RX2 27 "WireLoom$State" "machine" "LWireLoom$Machine;", Cond.fieldLink RX2 82 "WireLoom$Machine" "running" "Z", Cond.fieldLink RX2 86 "WireLoom$Machine" "place" "I", Cond.methodLink RX2 89 yX2_takeReading, Cond.instanceMethod yX2_takeReading, Cond.selects RX2 yX2_takeReading yX2_takeReading, Cond.initialized RX2, Cond.code yX2_takeReading cX2_takeReading 3 (some .int), Cond.fieldLink RX2 9 "WireLoom$State" "rings" "[I", Cond.fieldLink RX2 15 "WireLoom$State" "readings" "[I", Cond.fieldLink RX2 48 "WireLoom$State" "readingsDone" "I", Cond.methodLink RX2 79 yX2_tells, Cond.instanceMethod yX2_tells, Cond.selects RX2 yX2_tells yX2_tells, Cond.code yX2_tells cX2_tells 2 (some .int), Cond.methodLink RX2 55 yX2_answering, Cond.instanceMethod yX2_answering, Cond.selects RX2 yX2_answering yX2_answering, Cond.code yX2_answering cX2_answering 8 (some .int), Cond.fieldLink RX2 21 "WireLoom$State" "settings" "[I", Cond.static yX4_bit, Cond.initialized RX4, Cond.code yX4_bit cX4_bit 2 (some .int), Cond.methodLink RX2 102 yX2_strengthAt]
def wsX2_run_r2 : List Cond := [Cond.instanceMethod yX2_strengthAt, Cond.selects RX2 yX2_strengthAt yX2_strengthAt, Cond.code yX2_strengthAt cX2_strengthAt 4 (some .int), Cond.methodLink RX2 99 Lib.Math.max.name, Cond.static Lib.Math.max.name, Cond.initialized "java/lang/Math", Cond.code Lib.Math.max.name Lib.Math.max.code 2 (some .int), Cond.fieldLink RX2 18 "WireLoom$State" "wear" "[I", Cond.methodLink RX2 96 yX2_oneThreadOn, Cond.instanceMethod yX2_oneThreadOn, Cond.selects RX2 yX2_oneThreadOn yX2_oneThreadOn, Cond.code yX2_oneThreadOn cX2_oneThreadOn 6 (some .int), Cond.fieldLink RX2 41 "WireLoom$State" "guarded" "I", Cond.methodLink RX2 51 yX2_asWord, Cond.instanceMethod yX2_asWord, Cond.selects RX2 yX2_asWord yX2_asWord, Cond.code yX2_asWord cX2_asWord 2 (some .int), Cond.methodLink RX2 58 yX2_wearRings, Cond.instanceMethod yX2_wearRings, Cond.selects RX2 yX2_wearRings yX2_wearRings, Cond.code yX2_wearRings cX2_wearRings 4 none, Cond.methodLink RX2 74 Lib.Math.min.name, Cond.static Lib.Math.min.name, Cond.code Lib.Math.min.name Lib.Math.min.code 2 (some .int)]
def wsX2_run_r3 : List Cond := [Cond.methodLink RX2 92 yX0_obey, Cond.instanceMethod yX0_obey, Cond.selects RX0 yX0_obey yX0_obey, Cond.initialized RX0, Cond.code yX0_obey cX0_obey 4 none, Cond.fieldLink RX0 32 "WireLoom$Machine" "steps" "I", Cond.fieldLink RX0 21 "WireLoom$Machine" "place" "I", Cond.fieldLink RX0 28 "WireLoom$Machine" "running" "Z", Cond.fieldLink RX0 25 "WireLoom$Machine" "count" "I", Cond.fieldLink RX0 11 "WireLoom$Machine" "cells" "[I", Cond.methodLink RX0 44 yX0_tellCount, Cond.instanceMethod yX0_tellCount, Cond.selects RX0 yX0_tellCount yX0_tellCount, Cond.code yX0_tellCount cX0_tellCount 2 none, Cond.fieldLink RX0 15 "WireLoom$Machine" "latest" "[I", Cond.fieldLink RX0 35 "WireLoom$Machine" "tellings" "I"]
def wsX2_run : List Cond := .code yX2_run cX2_run 4 (some .int) :: ((wsX2_run_r1 ++ (wsX2_run_r2 ++ wsX2_run_r3)) ++ wsX20 ++ wsX00)
def wsX2_hops : List Cond := .code yX2_hops cX2_hops 5 (some .int) :: ([.fieldLink RX2 9 "WireLoom$State" "rings" "[I", .static yX4_bit, .initialized RX4, .code yX4_bit cX4_bit 2 (some .int), .methodLink RX2 96 yX2_oneThreadOn, .instanceMethod yX2_oneThreadOn, .selects RX2 yX2_oneThreadOn yX2_oneThreadOn, .initialized RX2, .code yX2_oneThreadOn cX2_oneThreadOn 6 (some .int), .fieldLink RX2 41 "WireLoom$State" "guarded" "I"] ++ wsX20)
def wsX2_readingsUntilChange : List Cond := .code yX2_readingsUntilChange cX2_readingsUntilChange 6 (some .int) :: ([.fieldLink RX2 21 "WireLoom$State" "settings" "[I", .fieldLink RX2 18 "WireLoom$State" "wear" "[I", .fieldLink RX2 9 "WireLoom$State" "rings" "[I", .static yX4_bit, .initialized RX4, .code yX4_bit cX4_bit 2 (some .int)] ++ wsX20)
def wsX2_threadsAnswered : List Cond := .code yX2_threadsAnswered cX2_threadsAnswered 4 (some .int) :: ([.methodLink RX2 55 yX2_answering, .instanceMethod yX2_answering, .selects RX2 yX2_answering yX2_answering, .initialized RX2, .code yX2_answering cX2_answering 8 (some .int), .fieldLink RX2 9 "WireLoom$State" "rings" "[I", .fieldLink RX2 21 "WireLoom$State" "settings" "[I", .static yX4_bit, .initialized RX4, .code yX4_bit cX4_bit 2 (some .int), .methodLink RX2 102 yX2_strengthAt, .instanceMethod yX2_strengthAt, .selects RX2 yX2_strengthAt yX2_strengthAt, .code yX2_strengthAt cX2_strengthAt 4 (some .int), .methodLink RX2 99 Lib.Math.max.name, .static Lib.Math.max.name, .initialized "java/lang/Math", .code Lib.Math.max.name Lib.Math.max.code 2 (some .int), .fieldLink RX2 18 "WireLoom$State" "wear" "[I", .methodLink RX2 96 yX2_oneThreadOn, .instanceMethod yX2_oneThreadOn, .selects RX2 yX2_oneThreadOn yX2_oneThreadOn, .code yX2_oneThreadOn cX2_oneThreadOn 6 (some .int), .fieldLink RX2 41 "WireLoom$State" "guarded" "I"] ++ wsX20)
def wsX2_isWornOut : List Cond := .code yX2_isWornOut cX2_isWornOut 2 (some .boolean) :: ([.fieldLink RX2 21 "WireLoom$State" "settings" "[I", .methodLink RX2 67 yX2_threadsThrough, .instanceMethod yX2_threadsThrough, .selects RX2 yX2_threadsThrough yX2_threadsThrough, .initialized RX2, .code yX2_threadsThrough cX2_threadsThrough 4 (some .int), .fieldLink RX2 9 "WireLoom$State" "rings" "[I", .static yX4_bit, .initialized RX4, .code yX4_bit cX4_bit 2 (some .int), .methodLink RX2 102 yX2_strengthAt, .instanceMethod yX2_strengthAt, .selects RX2 yX2_strengthAt yX2_strengthAt, .code yX2_strengthAt cX2_strengthAt 4 (some .int), .methodLink RX2 99 Lib.Math.max.name, .static Lib.Math.max.name, .initialized "java/lang/Math", .code Lib.Math.max.name Lib.Math.max.code 2 (some .int), .fieldLink RX2 18 "WireLoom$State" "wear" "[I"] ++ wsX20)
def wsX2_threadsRight : List Cond := .code yX2_threadsRight cX2_threadsRight 3 (some .int) :: ([.fieldLink RX2 9 "WireLoom$State" "rings" "[I", .methodLink RX2 55 yX2_answering, .instanceMethod yX2_answering, .selects RX2 yX2_answering yX2_answering, .initialized RX2, .code yX2_answering cX2_answering 8 (some .int), .fieldLink RX2 21 "WireLoom$State" "settings" "[I", .static yX4_bit, .initialized RX4, .code yX4_bit cX4_bit 2 (some .int), .methodLink RX2 102 yX2_strengthAt, .instanceMethod yX2_strengthAt, .selects RX2 yX2_strengthAt yX2_strengthAt, .code yX2_strengthAt cX2_strengthAt 4 (some .int), .methodLink RX2 99 Lib.Math.max.name, .static Lib.Math.max.name, .initialized "java/lang/Math", .code Lib.Math.max.name Lib.Math.max.code 2 (some .int), .fieldLink RX2 18 "WireLoom$State" "wear" "[I", .methodLink RX2 96 yX2_oneThreadOn, .instanceMethod yX2_oneThreadOn, .selects RX2 yX2_oneThreadOn yX2_oneThreadOn, .code yX2_oneThreadOn cX2_oneThreadOn 6 (some .int), .fieldLink RX2 41 "WireLoom$State" "guarded" "I"] ++ wsX20)
def wsX2_crossingsByThreads : List Cond := .code yX2_crossingsByThreads cX2_crossingsByThreads 3 (some .int) :: ([.fieldLink RX2 9 "WireLoom$State" "rings" "[I", .methodLink RX2 62 yJ6_bitCount_0f7a4, .static yJ6_bitCount_0f7a4, .initialized RJ6, .code yJ6_bitCount_0f7a4 cJ6_bitCount_0f7a4 1 (some .int), .constant RJ6 265 (1431655765), .constant RJ6 266 (858993459), .constant RJ6 267 (252645135)] ++ wsX20)
def wsX2_crossingsByRings : List Cond := .code yX2_crossingsByRings cX2_crossingsByRings 3 (some .int) :: ([.methodLink RX2 67 yX2_threadsThrough, .instanceMethod yX2_threadsThrough, .selects RX2 yX2_threadsThrough yX2_threadsThrough, .initialized RX2, .code yX2_threadsThrough cX2_threadsThrough 4 (some .int), .fieldLink RX2 9 "WireLoom$State" "rings" "[I", .static yX4_bit, .initialized RX4, .code yX4_bit cX4_bit 2 (some .int), .methodLink RX2 62 yJ6_bitCount_0f7a4, .static yJ6_bitCount_0f7a4, .initialized RJ6, .code yJ6_bitCount_0f7a4 cJ6_bitCount_0f7a4 1 (some .int), .constant RJ6 265 (1431655765), .constant RJ6 266 (858993459), .constant RJ6 267 (252645135)] ++ wsX20)
def wsX2_greatestWear : List Cond := .code yX2_greatestWear cX2_greatestWear 3 (some .int) :: ([.fieldLink RX2 18 "WireLoom$State" "wear" "[I", .methodLink RX2 99 Lib.Math.max.name, .static Lib.Math.max.name, .initialized "java/lang/Math", .code Lib.Math.max.name Lib.Math.max.code 2 (some .int)] ++ wsX20)
def wsX2_wearOfAll : List Cond := .code yX2_wearOfAll cX2_wearOfAll 3 (some .int) :: ([.fieldLink RX2 18 "WireLoom$State" "wear" "[I"] ++ wsX20)
def wsX2_fewestUnlikeBits : List Cond := .code yX2_fewestUnlikeBits cX2_fewestUnlikeBits 4 (some .int) :: ([.fieldLink RX2 9 "WireLoom$State" "rings" "[I", .methodLink RX2 74 Lib.Math.min.name, .static Lib.Math.min.name, .initialized "java/lang/Math", .code Lib.Math.min.name Lib.Math.min.code 2 (some .int), .methodLink RX2 62 yJ6_bitCount_0f7a4, .static yJ6_bitCount_0f7a4, .initialized RJ6, .code yJ6_bitCount_0f7a4 cJ6_bitCount_0f7a4 1 (some .int), .constant RJ6 265 (1431655765), .constant RJ6 266 (858993459), .constant RJ6 267 (252645135)] ++ wsX20)
def wsX3_init : List Cond := .code yX3_init cX3_init 1 none :: ([.methodLink RX3 3 objectInit, .instanceMethod objectInit, .code objectInit ⟨#[0xb1]⟩ 1 none, .arrayClass .int, .fieldLink RX3 11 "WireLoom$Text" "codes" "[I", .fieldLink RX3 15 "WireLoom$Text" "words" "[I"] ++ wsX30)
def wsX3_put : List Cond := .code yX3_put cX3_put 2 none :: ([.fieldLink RX3 18 "WireLoom$Text" "length" "I", .fieldLink RX3 11 "WireLoom$Text" "codes" "[I"] ++ wsX30)
def wsX3_signOf : List Cond := .code yX3_signOf cX3_signOf 1 (some .int) :: ([])
def wsX3_putWord : List Cond := .code yX3_putWord cX3_putWord 2 none :: ([.methodLink RX3 22 yX3_signOf, .static yX3_signOf, .initialized RX3, .code yX3_signOf cX3_signOf 1 (some .int), .methodLink RX3 26 yX3_put, .instanceMethod yX3_put, .selects RX3 yX3_put yX3_put, .code yX3_put cX3_put 2 none, .fieldLink RX3 18 "WireLoom$Text" "length" "I", .fieldLink RX3 11 "WireLoom$Text" "codes" "[I"] ++ wsX30)
def wsX3_digitOf : List Cond := .code yX3_digitOf cX3_digitOf 1 (some .int) :: ([])
def wsX3_takeCode : List Cond := .code yX3_takeCode cX3_takeCode 4 none :: ([.fieldLink RX3 37 "WireLoom$Text" "wordCount" "I", .fieldLink RX3 34 "WireLoom$Text" "phase" "I", .fieldLink RX3 15 "WireLoom$Text" "words" "[I", .methodLink RX3 43 yX3_digitOf, .static yX3_digitOf, .initialized RX3, .code yX3_digitOf cX3_digitOf 1 (some .int)] ++ wsX30)
def wsX3_parse : List Cond := .code yX3_parse cX3_parse 2 (some .int) :: ([.fieldLink RX3 34 "WireLoom$Text" "phase" "I", .fieldLink RX3 37 "WireLoom$Text" "wordCount" "I", .fieldLink RX3 18 "WireLoom$Text" "length" "I", .fieldLink RX3 11 "WireLoom$Text" "codes" "[I", .methodLink RX3 40 yX3_takeCode, .instanceMethod yX3_takeCode, .selects RX3 yX3_takeCode yX3_takeCode, .initialized RX3, .code yX3_takeCode cX3_takeCode 4 none, .fieldLink RX3 15 "WireLoom$Text" "words" "[I", .methodLink RX3 43 yX3_digitOf, .static yX3_digitOf, .code yX3_digitOf cX3_digitOf 1 (some .int)] ++ wsX30)
def wsX3_tellsProgram : List Cond := .code yX3_tellsProgram cX3_tellsProgram 1 (some .boolean) :: ([.fieldLink RX3 18 "WireLoom$Text" "length" "I", .fieldLink RX3 34 "WireLoom$Text" "phase" "I", .methodLink RX3 30 yX3_parse, .instanceMethod yX3_parse, .selects RX3 yX3_parse yX3_parse, .initialized RX3, .code yX3_parse cX3_parse 2 (some .int), .fieldLink RX3 37 "WireLoom$Text" "wordCount" "I", .fieldLink RX3 11 "WireLoom$Text" "codes" "[I", .methodLink RX3 40 yX3_takeCode, .instanceMethod yX3_takeCode, .selects RX3 yX3_takeCode yX3_takeCode, .code yX3_takeCode cX3_takeCode 4 none, .fieldLink RX3 15 "WireLoom$Text" "words" "[I", .methodLink RX3 43 yX3_digitOf, .static yX3_digitOf, .code yX3_digitOf cX3_digitOf 1 (some .int)] ++ wsX30)
def wsX4_init_r1 : List Cond := [Cond.methodLink RX4 1 objectInit, Cond.instanceMethod objectInit, Cond.code objectInit ⟨#[0xb1]⟩ 1 none, Cond.classLink RX4 7 RX2, Cond.instantiable RX2 8, Cond.initialized RX2, Cond.fieldLink RX4 10 "WireLoom" "now" "LWireLoom$State;", Cond.fieldLink RX4 16 "WireLoom" "trial" "LWireLoom$State;", Cond.classLink RX4 19 RX1, Cond.instantiable RX1 3, Cond.initialized RX1, Cond.fieldLink RX4 22 "WireLoom" "past" "LWireLoom$Past;", Cond.fieldLink RX4 26 "WireLoom" "snapshots" "[LWireLoom$State;", Cond.arrayClass .boolean, Cond.fieldLink RX4 30 "WireLoom" "kept" "[Z", Cond.classLink RX4 34 RX3, Cond.instantiable RX3 5, Cond.initialized RX3, Cond.fieldLink RX4 37 "WireLoom" "buffer" "LWireLoom$Text;", Cond.arrayClass .int, Cond.fieldLink RX4 41 "WireLoom" "wordsTold" "[I", Cond.methodLink RX4 9 yX2_init, Cond.instanceMethod yX2_init, Cond.code yX2_init cX2_init 1 none]
def wsX4_init_r2 : List Cond := [Cond.methodLink RX2 3 objectInit, Cond.fieldLink RX2 9 "WireLoom$State" "rings" "[I", Cond.fieldLink RX2 15 "WireLoom$State" "readings" "[I", Cond.fieldLink RX2 18 "WireLoom$State" "wear" "[I", Cond.fieldLink RX2 21 "WireLoom$State" "settings" "[I", Cond.classLink RX2 24 RX0, Cond.instantiable RX0 7, Cond.initialized RX0, Cond.fieldLink RX2 27 "WireLoom$State" "machine" "LWireLoom$Machine;", Cond.methodLink RX2 26 yX0_init, Cond.instanceMethod yX0_init, Cond.code yX0_init cX0_init 1 none, Cond.methodLink RX0 3 objectInit, Cond.fieldLink RX0 11 "WireLoom$Machine" "cells" "[I", Cond.fieldLink RX0 15 "WireLoom$Machine" "latest" "[I", Cond.methodLink RX0 18 yX0_begin, Cond.instanceMethod yX0_begin, Cond.selects RX0 yX0_begin yX0_begin, Cond.code yX0_begin cX0_begin 2 none, Cond.fieldLink RX0 21 "WireLoom$Machine" "place" "I", Cond.fieldLink RX0 25 "WireLoom$Machine" "count" "I", Cond.fieldLink RX0 28 "WireLoom$Machine" "running" "Z", Cond.fieldLink RX0 32 "WireLoom$Machine" "steps" "I", Cond.fieldLink RX0 35 "WireLoom$Machine" "tellings" "I"]
def wsX4_init_r3 : List Cond := [Cond.methodLink RX4 21 yX1_init, Cond.instanceMethod yX1_init, Cond.code yX1_init cX1_init 2 none, Cond.methodLink RX1 1 objectInit, Cond.classLink RX1 9 RX2, Cond.fieldLink RX1 11 "WireLoom$Past" "saved" "[LWireLoom$State;", Cond.methodLink RX1 15 yX2_init, Cond.instanceMethod yX3_init, Cond.code yX3_init cX3_init 1 none, Cond.methodLink RX3 3 objectInit, Cond.fieldLink RX3 11 "WireLoom$Text" "codes" "[I", Cond.fieldLink RX3 15 "WireLoom$Text" "words" "[I"]
def wsX4_init : List Cond := .code yX4_init cX4_init 2 none :: ((wsX4_init_r1 ++ (wsX4_init_r2 ++ wsX4_init_r3)) ++ wsX20 ++ wsX40 ++ wsX10 ++ wsX30 ++ wsX00)
def wsX4_isWithin : List Cond := .code yX4_isWithin cX4_isWithin 3 (some .boolean) :: ([])
def wsX4_isThread : List Cond := .code yX4_isThread cX4_isThread 1 (some .boolean) :: ([.methodLink RX4 75 yX4_isWithin, .static yX4_isWithin, .initialized RX4, .code yX4_isWithin cX4_isWithin 3 (some .boolean)])
def wsX4_isRing : List Cond := .code yX4_isRing cX4_isRing 1 (some .boolean) :: ([.methodLink RX4 75 yX4_isWithin, .static yX4_isWithin, .initialized RX4, .code yX4_isWithin cX4_isWithin 3 (some .boolean)])
def wsX4_cross_r1 : List Cond := [Cond.classLink RX4 52 "java/lang/IndexOutOfBoundsException", Cond.initialized "java/lang/IndexOutOfBoundsException", Cond.fieldLink RX4 22 "WireLoom" "past" "LWireLoom$Past;", Cond.fieldLink RX4 10 "WireLoom" "now" "LWireLoom$State;", Cond.fieldLink RX4 63 "WireLoom$State" "rings" "[I", Cond.methodLink RX4 45 yX4_isThread, Cond.static yX4_isThread, Cond.initialized RX4, Cond.code yX4_isThread cX4_isThread 1 (some .boolean), Cond.methodLink RX4 75 yX4_isWithin, Cond.static yX4_isWithin, Cond.code yX4_isWithin cX4_isWithin 3 (some .boolean), Cond.methodLink RX4 49 yX4_isRing, Cond.static yX4_isRing, Cond.code yX4_isRing cX4_isRing 1 (some .boolean), Cond.methodLink RX4 59 yX1_push, Cond.instanceMethod yX1_push, Cond.selects RX1 yX1_push yX1_push, Cond.initialized RX1, Cond.code yX1_push cX1_push 2 none, Cond.fieldLink RX1 11 "WireLoom$Past" "saved" "[LWireLoom$State;", Cond.fieldLink RX1 16 "WireLoom$Past" "oldest" "I", Cond.fieldLink RX1 20 "WireLoom$Past" "size" "I", Cond.methodLink RX1 23 yX2_become]
def wsX4_cross_r2 : List Cond := [Cond.instanceMethod yX2_become, Cond.selects RX2 yX2_become yX2_become, Cond.initialized RX2, Cond.code yX2_become cX2_become 2 none, Cond.fieldLink RX2 9 "WireLoom$State" "rings" "[I", Cond.methodLink RX2 31 arraycopyName, Cond.native arraycopyName, Cond.static arraycopyName, Cond.initialized "java/lang/System", Cond.fieldLink RX2 15 "WireLoom$State" "readings" "[I", Cond.fieldLink RX2 18 "WireLoom$State" "wear" "[I", Cond.fieldLink RX2 21 "WireLoom$State" "settings" "[I", Cond.fieldLink RX2 27 "WireLoom$State" "machine" "LWireLoom$Machine;", Cond.fieldLink RX2 41 "WireLoom$State" "guarded" "I", Cond.fieldLink RX2 45 "WireLoom$State" "crossingsChanged" "I", Cond.fieldLink RX2 48 "WireLoom$State" "readingsDone" "I", Cond.methodLink RX2 37 yX0_becomeLike, Cond.instanceMethod yX0_becomeLike, Cond.selects RX0 yX0_becomeLike yX0_becomeLike, Cond.initialized RX0, Cond.code yX0_becomeLike cX0_becomeLike 2 none, Cond.fieldLink RX0 11 "WireLoom$Machine" "cells" "[I", Cond.methodLink RX0 38 arraycopyName, Cond.fieldLink RX0 15 "WireLoom$Machine" "latest" "[I"]
def wsX4_cross_r3 : List Cond := [Cond.fieldLink RX0 21 "WireLoom$Machine" "place" "I", Cond.fieldLink RX0 25 "WireLoom$Machine" "count" "I", Cond.fieldLink RX0 28 "WireLoom$Machine" "running" "Z", Cond.fieldLink RX0 32 "WireLoom$Machine" "steps" "I", Cond.fieldLink RX0 35 "WireLoom$Machine" "tellings" "I", Cond.methodLink RX4 66 yX2_layThrough, Cond.instanceMethod yX2_layThrough, Cond.selects RX2 yX2_layThrough yX2_layThrough, Cond.code yX2_layThrough cX2_layThrough 5 (some .int), Cond.methodLink RX2 58 yX2_wearRings, Cond.instanceMethod yX2_wearRings, Cond.selects RX2 yX2_wearRings yX2_wearRings, Cond.code yX2_wearRings cX2_wearRings 4 none, Cond.methodLink RX2 74 Lib.Math.min.name, Cond.static Lib.Math.min.name, Cond.initialized "java/lang/Math", Cond.code Lib.Math.min.name Lib.Math.min.code 2 (some .int), Cond.static yX4_bit, Cond.code yX4_bit cX4_bit 2 (some .int), Cond.methodLink RX2 62 yJ6_bitCount_0f7a4, Cond.static yJ6_bitCount_0f7a4, Cond.initialized RJ6, Cond.code yJ6_bitCount_0f7a4 cJ6_bitCount_0f7a4 1 (some .int), Cond.constant RJ6 265 (1431655765)]
def wsX4_cross_r4 : List Cond := [Cond.constant RJ6 266 (858993459), Cond.constant RJ6 267 (252645135), Cond.methodLink RX4 70 yX4_bit]
def wsX4_cross : List Cond := .code yX4_cross cX4_cross 3 (some .int) :: ((wsX4_cross_r1 ++ (wsX4_cross_r2 ++ (wsX4_cross_r3 ++ wsX4_cross_r4))) ++ wsX40 ++ wsX20 ++ wsX10 ++ wsX00 ++ (vx_atS RX4 56 "java/lang/IndexOutOfBoundsException" ["java/lang/RuntimeException", "java/lang/Exception"]).filter goodWord)
def wsX4_lay_r1 : List Cond := [Cond.classLink RX4 52 "java/lang/IndexOutOfBoundsException", Cond.initialized "java/lang/IndexOutOfBoundsException", Cond.classLink RX4 79 "java/lang/IllegalArgumentException", Cond.initialized "java/lang/IllegalArgumentException", Cond.fieldLink RX4 22 "WireLoom" "past" "LWireLoom$Past;", Cond.fieldLink RX4 10 "WireLoom" "now" "LWireLoom$State;", Cond.methodLink RX4 45 yX4_isThread, Cond.static yX4_isThread, Cond.initialized RX4, Cond.code yX4_isThread cX4_isThread 1 (some .boolean), Cond.methodLink RX4 75 yX4_isWithin, Cond.static yX4_isWithin, Cond.code yX4_isWithin cX4_isWithin 3 (some .boolean), Cond.methodLink RX4 59 yX1_push, Cond.instanceMethod yX1_push, Cond.selects RX1 yX1_push yX1_push, Cond.initialized RX1, Cond.code yX1_push cX1_push 2 none, Cond.fieldLink RX1 11 "WireLoom$Past" "saved" "[LWireLoom$State;", Cond.fieldLink RX1 16 "WireLoom$Past" "oldest" "I", Cond.fieldLink RX1 20 "WireLoom$Past" "size" "I", Cond.methodLink RX1 23 yX2_become, Cond.instanceMethod yX2_become, Cond.selects RX2 yX2_become yX2_become]
def wsX4_lay_r2 : List Cond := [Cond.initialized RX2, Cond.code yX2_become cX2_become 2 none, Cond.fieldLink RX2 9 "WireLoom$State" "rings" "[I", Cond.methodLink RX2 31 arraycopyName, Cond.native arraycopyName, Cond.static arraycopyName, Cond.initialized "java/lang/System", Cond.fieldLink RX2 15 "WireLoom$State" "readings" "[I", Cond.fieldLink RX2 18 "WireLoom$State" "wear" "[I", Cond.fieldLink RX2 21 "WireLoom$State" "settings" "[I", Cond.fieldLink RX2 27 "WireLoom$State" "machine" "LWireLoom$Machine;", Cond.fieldLink RX2 41 "WireLoom$State" "guarded" "I", Cond.fieldLink RX2 45 "WireLoom$State" "crossingsChanged" "I", Cond.fieldLink RX2 48 "WireLoom$State" "readingsDone" "I", Cond.methodLink RX2 37 yX0_becomeLike, Cond.instanceMethod yX0_becomeLike, Cond.selects RX0 yX0_becomeLike yX0_becomeLike, Cond.initialized RX0, Cond.code yX0_becomeLike cX0_becomeLike 2 none, Cond.fieldLink RX0 11 "WireLoom$Machine" "cells" "[I", Cond.methodLink RX0 38 arraycopyName, Cond.fieldLink RX0 15 "WireLoom$Machine" "latest" "[I", Cond.fieldLink RX0 21 "WireLoom$Machine" "place" "I", Cond.fieldLink RX0 25 "WireLoom$Machine" "count" "I"]
def wsX4_lay_r3 : List Cond := [Cond.fieldLink RX0 28 "WireLoom$Machine" "running" "Z", Cond.fieldLink RX0 32 "WireLoom$Machine" "steps" "I", Cond.fieldLink RX0 35 "WireLoom$Machine" "tellings" "I", Cond.methodLink RX4 84 yX2_asWord, Cond.instanceMethod yX2_asWord, Cond.selects RX2 yX2_asWord yX2_asWord, Cond.code yX2_asWord cX2_asWord 2 (some .int), Cond.methodLink RX4 66 yX2_layThrough, Cond.instanceMethod yX2_layThrough, Cond.selects RX2 yX2_layThrough yX2_layThrough, Cond.code yX2_layThrough cX2_layThrough 5 (some .int), Cond.methodLink RX2 58 yX2_wearRings, Cond.instanceMethod yX2_wearRings, Cond.selects RX2 yX2_wearRings yX2_wearRings, Cond.code yX2_wearRings cX2_wearRings 4 none, Cond.methodLink RX2 74 Lib.Math.min.name, Cond.static Lib.Math.min.name, Cond.initialized "java/lang/Math", Cond.code Lib.Math.min.name Lib.Math.min.code 2 (some .int), Cond.static yX4_bit, Cond.code yX4_bit cX4_bit 2 (some .int), Cond.methodLink RX2 62 yJ6_bitCount_0f7a4, Cond.static yJ6_bitCount_0f7a4, Cond.initialized RJ6]
def wsX4_lay_r4 : List Cond := [Cond.code yJ6_bitCount_0f7a4 cJ6_bitCount_0f7a4 1 (some .int), Cond.constant RJ6 265 (1431655765), Cond.constant RJ6 266 (858993459), Cond.constant RJ6 267 (252645135)]
def wsX4_lay : List Cond := .code yX4_lay cX4_lay 3 (some .int) :: ((wsX4_lay_r1 ++ (wsX4_lay_r2 ++ (wsX4_lay_r3 ++ wsX4_lay_r4))) ++ wsX40 ++ wsX10 ++ wsX20 ++ wsX00 ++ (vx_atS RX4 56 "java/lang/IndexOutOfBoundsException" ["java/lang/RuntimeException", "java/lang/Exception"]).filter goodWord ++ (vx_atS RX4 83 "java/lang/IllegalArgumentException" ["java/lang/RuntimeException", "java/lang/Exception"]).filter goodWord)
def wsX4_guard_r1 : List Cond := [Cond.classLink RX4 52 "java/lang/IndexOutOfBoundsException", Cond.initialized "java/lang/IndexOutOfBoundsException", Cond.fieldLink RX4 22 "WireLoom" "past" "LWireLoom$Past;", Cond.fieldLink RX4 10 "WireLoom" "now" "LWireLoom$State;", Cond.fieldLink RX4 88 "WireLoom$State" "guarded" "I", Cond.methodLink RX4 45 yX4_isThread, Cond.static yX4_isThread, Cond.initialized RX4, Cond.code yX4_isThread cX4_isThread 1 (some .boolean), Cond.methodLink RX4 75 yX4_isWithin, Cond.static yX4_isWithin, Cond.code yX4_isWithin cX4_isWithin 3 (some .boolean), Cond.methodLink RX4 59 yX1_push, Cond.instanceMethod yX1_push, Cond.selects RX1 yX1_push yX1_push, Cond.initialized RX1, Cond.code yX1_push cX1_push 2 none, Cond.fieldLink RX1 11 "WireLoom$Past" "saved" "[LWireLoom$State;", Cond.fieldLink RX1 16 "WireLoom$Past" "oldest" "I", Cond.fieldLink RX1 20 "WireLoom$Past" "size" "I", Cond.methodLink RX1 23 yX2_become, Cond.instanceMethod yX2_become, Cond.selects RX2 yX2_become yX2_become, Cond.initialized RX2]
def wsX4_guard_r2 : List Cond := [Cond.code yX2_become cX2_become 2 none, Cond.fieldLink RX2 9 "WireLoom$State" "rings" "[I", Cond.methodLink RX2 31 arraycopyName, Cond.native arraycopyName, Cond.static arraycopyName, Cond.initialized "java/lang/System", Cond.fieldLink RX2 15 "WireLoom$State" "readings" "[I", Cond.fieldLink RX2 18 "WireLoom$State" "wear" "[I", Cond.fieldLink RX2 21 "WireLoom$State" "settings" "[I", Cond.fieldLink RX2 27 "WireLoom$State" "machine" "LWireLoom$Machine;", Cond.fieldLink RX2 41 "WireLoom$State" "guarded" "I", Cond.fieldLink RX2 45 "WireLoom$State" "crossingsChanged" "I", Cond.fieldLink RX2 48 "WireLoom$State" "readingsDone" "I", Cond.methodLink RX2 37 yX0_becomeLike, Cond.instanceMethod yX0_becomeLike, Cond.selects RX0 yX0_becomeLike yX0_becomeLike, Cond.initialized RX0, Cond.code yX0_becomeLike cX0_becomeLike 2 none, Cond.fieldLink RX0 11 "WireLoom$Machine" "cells" "[I", Cond.methodLink RX0 38 arraycopyName, Cond.fieldLink RX0 15 "WireLoom$Machine" "latest" "[I", Cond.fieldLink RX0 21 "WireLoom$Machine" "place" "I", Cond.fieldLink RX0 25 "WireLoom$Machine" "count" "I", Cond.fieldLink RX0 28 "WireLoom$Machine" "running" "Z"]
def wsX4_guard_r3 : List Cond := [Cond.fieldLink RX0 32 "WireLoom$Machine" "steps" "I", Cond.fieldLink RX0 35 "WireLoom$Machine" "tellings" "I", Cond.methodLink RX4 70 yX4_bit, Cond.static yX4_bit, Cond.code yX4_bit cX4_bit 2 (some .int)]
def wsX4_guard : List Cond := .code yX4_guard cX4_guard 2 (some .int) :: ((wsX4_guard_r1 ++ (wsX4_guard_r2 ++ wsX4_guard_r3)) ++ wsX40 ++ wsX20 ++ wsX10 ++ wsX00 ++ (vx_atS RX4 56 "java/lang/IndexOutOfBoundsException" ["java/lang/RuntimeException", "java/lang/Exception"]).filter goodWord)
def wsX4_change_r1 : List Cond := [Cond.classLink RX4 52 "java/lang/IndexOutOfBoundsException", Cond.initialized "java/lang/IndexOutOfBoundsException", Cond.fieldLink RX4 22 "WireLoom" "past" "LWireLoom$Past;", Cond.fieldLink RX4 10 "WireLoom" "now" "LWireLoom$State;", Cond.methodLink RX4 49 yX4_isRing, Cond.static yX4_isRing, Cond.initialized RX4, Cond.code yX4_isRing cX4_isRing 1 (some .boolean), Cond.methodLink RX4 75 yX4_isWithin, Cond.static yX4_isWithin, Cond.code yX4_isWithin cX4_isWithin 3 (some .boolean), Cond.methodLink RX4 59 yX1_push, Cond.instanceMethod yX1_push, Cond.selects RX1 yX1_push yX1_push, Cond.initialized RX1, Cond.code yX1_push cX1_push 2 none, Cond.fieldLink RX1 11 "WireLoom$Past" "saved" "[LWireLoom$State;", Cond.fieldLink RX1 16 "WireLoom$Past" "oldest" "I", Cond.fieldLink RX1 20 "WireLoom$Past" "size" "I", Cond.methodLink RX1 23 yX2_become, Cond.instanceMethod yX2_become, Cond.selects RX2 yX2_become yX2_become, Cond.initialized RX2, Cond.code yX2_become cX2_become 2 none]
def wsX4_change_r2 : List Cond := [Cond.fieldLink RX2 9 "WireLoom$State" "rings" "[I", Cond.methodLink RX2 31 arraycopyName, Cond.native arraycopyName, Cond.static arraycopyName, Cond.initialized "java/lang/System", Cond.fieldLink RX2 15 "WireLoom$State" "readings" "[I", Cond.fieldLink RX2 18 "WireLoom$State" "wear" "[I", Cond.fieldLink RX2 21 "WireLoom$State" "settings" "[I", Cond.fieldLink RX2 27 "WireLoom$State" "machine" "LWireLoom$Machine;", Cond.fieldLink RX2 41 "WireLoom$State" "guarded" "I", Cond.fieldLink RX2 45 "WireLoom$State" "crossingsChanged" "I", Cond.fieldLink RX2 48 "WireLoom$State" "readingsDone" "I", Cond.methodLink RX2 37 yX0_becomeLike, Cond.instanceMethod yX0_becomeLike, Cond.selects RX0 yX0_becomeLike yX0_becomeLike, Cond.initialized RX0, Cond.code yX0_becomeLike cX0_becomeLike 2 none, Cond.fieldLink RX0 11 "WireLoom$Machine" "cells" "[I", Cond.methodLink RX0 38 arraycopyName, Cond.fieldLink RX0 15 "WireLoom$Machine" "latest" "[I", Cond.fieldLink RX0 21 "WireLoom$Machine" "place" "I", Cond.fieldLink RX0 25 "WireLoom$Machine" "count" "I", Cond.fieldLink RX0 28 "WireLoom$Machine" "running" "Z", Cond.fieldLink RX0 32 "WireLoom$Machine" "steps" "I"]
def wsX4_change_r3 : List Cond := [Cond.fieldLink RX0 35 "WireLoom$Machine" "tellings" "I", Cond.methodLink RX4 94 yX2_renewRing, Cond.instanceMethod yX2_renewRing, Cond.selects RX2 yX2_renewRing yX2_renewRing, Cond.code yX2_renewRing cX2_renewRing 4 (some .int), Cond.methodLink RX2 67 yX2_threadsThrough, Cond.instanceMethod yX2_threadsThrough, Cond.selects RX2 yX2_threadsThrough yX2_threadsThrough, Cond.code yX2_threadsThrough cX2_threadsThrough 4 (some .int), Cond.static yX4_bit, Cond.code yX4_bit cX4_bit 2 (some .int), Cond.methodLink RX2 62 yJ6_bitCount_0f7a4, Cond.static yJ6_bitCount_0f7a4, Cond.initialized RJ6, Cond.code yJ6_bitCount_0f7a4 cJ6_bitCount_0f7a4 1 (some .int), Cond.constant RJ6 265 (1431655765), Cond.constant RJ6 266 (858993459), Cond.constant RJ6 267 (252645135)]
def wsX4_change : List Cond := .code yX4_change cX4_change 2 (some .int) :: ((wsX4_change_r1 ++ (wsX4_change_r2 ++ wsX4_change_r3)) ++ wsX40 ++ wsX10 ++ wsX20 ++ wsX00 ++ (vx_atS RX4 56 "java/lang/IndexOutOfBoundsException" ["java/lang/RuntimeException", "java/lang/Exception"]).filter goodWord)
def wsX4_isSetting : List Cond := .code yX4_isSetting cX4_isSetting 1 (some .boolean) :: ([.methodLink RX4 75 yX4_isWithin, .static yX4_isWithin, .initialized RX4, .code yX4_isWithin cX4_isWithin 3 (some .boolean)])
def wsX4_set_r1 : List Cond := [Cond.classLink RX4 52 "java/lang/IndexOutOfBoundsException", Cond.initialized "java/lang/IndexOutOfBoundsException", Cond.classLink RX4 79 "java/lang/IllegalArgumentException", Cond.initialized "java/lang/IllegalArgumentException", Cond.fieldLink RX4 22 "WireLoom" "past" "LWireLoom$Past;", Cond.fieldLink RX4 10 "WireLoom" "now" "LWireLoom$State;", Cond.fieldLink RX4 104 "WireLoom$State" "settings" "[I", Cond.methodLink RX4 97 yX4_isSetting, Cond.static yX4_isSetting, Cond.initialized RX4, Cond.code yX4_isSetting cX4_isSetting 1 (some .boolean), Cond.methodLink RX4 75 yX4_isWithin, Cond.static yX4_isWithin, Cond.code yX4_isWithin cX4_isWithin 3 (some .boolean), Cond.methodLink RX4 59 yX1_push, Cond.instanceMethod yX1_push, Cond.selects RX1 yX1_push yX1_push, Cond.initialized RX1, Cond.code yX1_push cX1_push 2 none, Cond.fieldLink RX1 11 "WireLoom$Past" "saved" "[LWireLoom$State;", Cond.fieldLink RX1 16 "WireLoom$Past" "oldest" "I", Cond.fieldLink RX1 20 "WireLoom$Past" "size" "I", Cond.methodLink RX1 23 yX2_become, Cond.instanceMethod yX2_become]
def wsX4_set_r2 : List Cond := [Cond.selects RX2 yX2_become yX2_become, Cond.initialized RX2, Cond.code yX2_become cX2_become 2 none, Cond.fieldLink RX2 9 "WireLoom$State" "rings" "[I", Cond.methodLink RX2 31 arraycopyName, Cond.native arraycopyName, Cond.static arraycopyName, Cond.initialized "java/lang/System", Cond.fieldLink RX2 15 "WireLoom$State" "readings" "[I", Cond.fieldLink RX2 18 "WireLoom$State" "wear" "[I", Cond.fieldLink RX2 21 "WireLoom$State" "settings" "[I", Cond.fieldLink RX2 27 "WireLoom$State" "machine" "LWireLoom$Machine;", Cond.fieldLink RX2 41 "WireLoom$State" "guarded" "I", Cond.fieldLink RX2 45 "WireLoom$State" "crossingsChanged" "I", Cond.fieldLink RX2 48 "WireLoom$State" "readingsDone" "I", Cond.methodLink RX2 37 yX0_becomeLike, Cond.instanceMethod yX0_becomeLike, Cond.selects RX0 yX0_becomeLike yX0_becomeLike, Cond.initialized RX0, Cond.code yX0_becomeLike cX0_becomeLike 2 none, Cond.fieldLink RX0 11 "WireLoom$Machine" "cells" "[I", Cond.methodLink RX0 38 arraycopyName, Cond.fieldLink RX0 15 "WireLoom$Machine" "latest" "[I", Cond.fieldLink RX0 21 "WireLoom$Machine" "place" "I"]
def wsX4_set_r3 : List Cond := [Cond.fieldLink RX0 25 "WireLoom$Machine" "count" "I", Cond.fieldLink RX0 28 "WireLoom$Machine" "running" "Z", Cond.fieldLink RX0 32 "WireLoom$Machine" "steps" "I", Cond.fieldLink RX0 35 "WireLoom$Machine" "tellings" "I"]
def wsX4_set : List Cond := .code yX4_set cX4_set 4 (some .int) :: ((wsX4_set_r1 ++ (wsX4_set_r2 ++ wsX4_set_r3)) ++ wsX40 ++ wsX20 ++ wsX10 ++ wsX00 ++ (vx_atS RX4 56 "java/lang/IndexOutOfBoundsException" ["java/lang/RuntimeException", "java/lang/Exception"]).filter goodWord ++ (vx_atS RX4 83 "java/lang/IllegalArgumentException" ["java/lang/RuntimeException", "java/lang/Exception"]).filter goodWord)
def wsX4_read_r1 : List Cond := [Cond.classLink RX4 52 "java/lang/IndexOutOfBoundsException", Cond.initialized "java/lang/IndexOutOfBoundsException", Cond.fieldLink RX4 22 "WireLoom" "past" "LWireLoom$Past;", Cond.fieldLink RX4 10 "WireLoom" "now" "LWireLoom$State;", Cond.methodLink RX4 45 yX4_isThread, Cond.static yX4_isThread, Cond.initialized RX4, Cond.code yX4_isThread cX4_isThread 1 (some .boolean), Cond.methodLink RX4 75 yX4_isWithin, Cond.static yX4_isWithin, Cond.code yX4_isWithin cX4_isWithin 3 (some .boolean), Cond.methodLink RX4 59 yX1_push, Cond.instanceMethod yX1_push, Cond.selects RX1 yX1_push yX1_push, Cond.initialized RX1, Cond.code yX1_push cX1_push 2 none, Cond.fieldLink RX1 11 "WireLoom$Past" "saved" "[LWireLoom$State;", Cond.fieldLink RX1 16 "WireLoom$Past" "oldest" "I", Cond.fieldLink RX1 20 "WireLoom$Past" "size" "I", Cond.methodLink RX1 23 yX2_become, Cond.instanceMethod yX2_become, Cond.selects RX2 yX2_become yX2_become, Cond.initialized RX2, Cond.code yX2_become cX2_become 2 none]
def wsX4_read_r2 : List Cond := [Cond.fieldLink RX2 9 "WireLoom$State" "rings" "[I", Cond.methodLink RX2 31 arraycopyName, Cond.native arraycopyName, Cond.static arraycopyName, Cond.initialized "java/lang/System", Cond.fieldLink RX2 15 "WireLoom$State" "readings" "[I", Cond.fieldLink RX2 18 "WireLoom$State" "wear" "[I", Cond.fieldLink RX2 21 "WireLoom$State" "settings" "[I", Cond.fieldLink RX2 27 "WireLoom$State" "machine" "LWireLoom$Machine;", Cond.fieldLink RX2 41 "WireLoom$State" "guarded" "I", Cond.fieldLink RX2 45 "WireLoom$State" "crossingsChanged" "I", Cond.fieldLink RX2 48 "WireLoom$State" "readingsDone" "I", Cond.methodLink RX2 37 yX0_becomeLike, Cond.instanceMethod yX0_becomeLike, Cond.selects RX0 yX0_becomeLike yX0_becomeLike, Cond.initialized RX0, Cond.code yX0_becomeLike cX0_becomeLike 2 none, Cond.fieldLink RX0 11 "WireLoom$Machine" "cells" "[I", Cond.methodLink RX0 38 arraycopyName, Cond.fieldLink RX0 15 "WireLoom$Machine" "latest" "[I", Cond.fieldLink RX0 21 "WireLoom$Machine" "place" "I", Cond.fieldLink RX0 25 "WireLoom$Machine" "count" "I", Cond.fieldLink RX0 28 "WireLoom$Machine" "running" "Z", Cond.fieldLink RX0 32 "WireLoom$Machine" "steps" "I"]
def wsX4_read_r3 : List Cond := [Cond.fieldLink RX0 35 "WireLoom$Machine" "tellings" "I", Cond.methodLink RX4 107 yX2_takeReading, Cond.instanceMethod yX2_takeReading, Cond.selects RX2 yX2_takeReading yX2_takeReading, Cond.code yX2_takeReading cX2_takeReading 3 (some .int), Cond.methodLink RX2 79 yX2_tells, Cond.instanceMethod yX2_tells, Cond.selects RX2 yX2_tells yX2_tells, Cond.code yX2_tells cX2_tells 2 (some .int), Cond.methodLink RX2 55 yX2_answering, Cond.instanceMethod yX2_answering, Cond.selects RX2 yX2_answering yX2_answering, Cond.code yX2_answering cX2_answering 8 (some .int), Cond.static yX4_bit, Cond.code yX4_bit cX4_bit 2 (some .int), Cond.methodLink RX2 102 yX2_strengthAt, Cond.instanceMethod yX2_strengthAt, Cond.selects RX2 yX2_strengthAt yX2_strengthAt, Cond.code yX2_strengthAt cX2_strengthAt 4 (some .int), Cond.methodLink RX2 99 Lib.Math.max.name, Cond.static Lib.Math.max.name, Cond.initialized "java/lang/Math", Cond.code Lib.Math.max.name Lib.Math.max.code 2 (some .int), Cond.methodLink RX2 96 yX2_oneThreadOn]
def wsX4_read_r4 : List Cond := [Cond.instanceMethod yX2_oneThreadOn, Cond.selects RX2 yX2_oneThreadOn yX2_oneThreadOn, Cond.code yX2_oneThreadOn cX2_oneThreadOn 6 (some .int), Cond.methodLink RX2 51 yX2_asWord, Cond.instanceMethod yX2_asWord, Cond.selects RX2 yX2_asWord yX2_asWord, Cond.code yX2_asWord cX2_asWord 2 (some .int), Cond.methodLink RX2 58 yX2_wearRings, Cond.instanceMethod yX2_wearRings, Cond.selects RX2 yX2_wearRings yX2_wearRings, Cond.code yX2_wearRings cX2_wearRings 4 none, Cond.methodLink RX2 74 Lib.Math.min.name, Cond.static Lib.Math.min.name, Cond.code Lib.Math.min.name Lib.Math.min.code 2 (some .int)]
def wsX4_read : List Cond := .code yX4_read cX4_read 2 (some .int) :: ((wsX4_read_r1 ++ (wsX4_read_r2 ++ (wsX4_read_r3 ++ wsX4_read_r4))) ++ wsX40 ++ wsX10 ++ wsX20 ++ wsX00 ++ (vx_atS RX4 56 "java/lang/IndexOutOfBoundsException" ["java/lang/RuntimeException", "java/lang/Exception"]).filter goodWord)
def wsX4_start_r1 : List Cond := [Cond.fieldLink RX4 22 "WireLoom" "past" "LWireLoom$Past;", Cond.fieldLink RX4 10 "WireLoom" "now" "LWireLoom$State;", Cond.fieldLink RX4 110 "WireLoom$State" "machine" "LWireLoom$Machine;", Cond.fieldLink RX4 114 "WireLoom$Machine" "steps" "I", Cond.methodLink RX4 59 yX1_push, Cond.instanceMethod yX1_push, Cond.selects RX1 yX1_push yX1_push, Cond.initialized RX1, Cond.code yX1_push cX1_push 2 none, Cond.fieldLink RX1 11 "WireLoom$Past" "saved" "[LWireLoom$State;", Cond.fieldLink RX1 16 "WireLoom$Past" "oldest" "I", Cond.fieldLink RX1 20 "WireLoom$Past" "size" "I", Cond.methodLink RX1 23 yX2_become, Cond.instanceMethod yX2_become, Cond.selects RX2 yX2_become yX2_become, Cond.initialized RX2, Cond.code yX2_become cX2_become 2 none, Cond.fieldLink RX2 9 "WireLoom$State" "rings" "[I", Cond.methodLink RX2 31 arraycopyName, Cond.native arraycopyName, Cond.static arraycopyName, Cond.initialized "java/lang/System", Cond.fieldLink RX2 15 "WireLoom$State" "readings" "[I", Cond.fieldLink RX2 18 "WireLoom$State" "wear" "[I"]
def wsX4_start_r2 : List Cond := [Cond.fieldLink RX2 21 "WireLoom$State" "settings" "[I", Cond.fieldLink RX2 27 "WireLoom$State" "machine" "LWireLoom$Machine;", Cond.fieldLink RX2 41 "WireLoom$State" "guarded" "I", Cond.fieldLink RX2 45 "WireLoom$State" "crossingsChanged" "I", Cond.fieldLink RX2 48 "WireLoom$State" "readingsDone" "I", Cond.methodLink RX2 37 yX0_becomeLike, Cond.instanceMethod yX0_becomeLike, Cond.selects RX0 yX0_becomeLike yX0_becomeLike, Cond.initialized RX0, Cond.code yX0_becomeLike cX0_becomeLike 2 none, Cond.fieldLink RX0 11 "WireLoom$Machine" "cells" "[I", Cond.methodLink RX0 38 arraycopyName, Cond.fieldLink RX0 15 "WireLoom$Machine" "latest" "[I", Cond.fieldLink RX0 21 "WireLoom$Machine" "place" "I", Cond.fieldLink RX0 25 "WireLoom$Machine" "count" "I", Cond.fieldLink RX0 28 "WireLoom$Machine" "running" "Z", Cond.fieldLink RX0 32 "WireLoom$Machine" "steps" "I", Cond.fieldLink RX0 35 "WireLoom$Machine" "tellings" "I", Cond.methodLink RX4 119 yX0_begin, Cond.instanceMethod yX0_begin, Cond.selects RX0 yX0_begin yX0_begin, Cond.code yX0_begin cX0_begin 2 none]
def wsX4_start : List Cond := .code yX4_start cX4_start 2 (some .int) :: ((wsX4_start_r1 ++ wsX4_start_r2) ++ wsX40 ++ wsX20 ++ wsX00 ++ wsX10)
def wsX4_go_r1 : List Cond := [Cond.classLink RX4 79 "java/lang/IllegalArgumentException", Cond.initialized "java/lang/IllegalArgumentException", Cond.fieldLink RX4 22 "WireLoom" "past" "LWireLoom$Past;", Cond.fieldLink RX4 10 "WireLoom" "now" "LWireLoom$State;", Cond.methodLink RX4 75 yX4_isWithin, Cond.static yX4_isWithin, Cond.initialized RX4, Cond.code yX4_isWithin cX4_isWithin 3 (some .boolean), Cond.methodLink RX4 59 yX1_push, Cond.instanceMethod yX1_push, Cond.selects RX1 yX1_push yX1_push, Cond.initialized RX1, Cond.code yX1_push cX1_push 2 none, Cond.fieldLink RX1 11 "WireLoom$Past" "saved" "[LWireLoom$State;", Cond.fieldLink RX1 16 "WireLoom$Past" "oldest" "I", Cond.fieldLink RX1 20 "WireLoom$Past" "size" "I", Cond.methodLink RX1 23 yX2_become, Cond.instanceMethod yX2_become, Cond.selects RX2 yX2_become yX2_become, Cond.initialized RX2, Cond.code yX2_become cX2_become 2 none, Cond.fieldLink RX2 9 "WireLoom$State" "rings" "[I", Cond.methodLink RX2 31 arraycopyName, Cond.native arraycopyName]
def wsX4_go_r2 : List Cond := [Cond.static arraycopyName, Cond.initialized "java/lang/System", Cond.fieldLink RX2 15 "WireLoom$State" "readings" "[I", Cond.fieldLink RX2 18 "WireLoom$State" "wear" "[I", Cond.fieldLink RX2 21 "WireLoom$State" "settings" "[I", Cond.fieldLink RX2 27 "WireLoom$State" "machine" "LWireLoom$Machine;", Cond.fieldLink RX2 41 "WireLoom$State" "guarded" "I", Cond.fieldLink RX2 45 "WireLoom$State" "crossingsChanged" "I", Cond.fieldLink RX2 48 "WireLoom$State" "readingsDone" "I", Cond.methodLink RX2 37 yX0_becomeLike, Cond.instanceMethod yX0_becomeLike, Cond.selects RX0 yX0_becomeLike yX0_becomeLike, Cond.initialized RX0, Cond.code yX0_becomeLike cX0_becomeLike 2 none, Cond.fieldLink RX0 11 "WireLoom$Machine" "cells" "[I", Cond.methodLink RX0 38 arraycopyName, Cond.fieldLink RX0 15 "WireLoom$Machine" "latest" "[I", Cond.fieldLink RX0 21 "WireLoom$Machine" "place" "I", Cond.fieldLink RX0 25 "WireLoom$Machine" "count" "I", Cond.fieldLink RX0 28 "WireLoom$Machine" "running" "Z", Cond.fieldLink RX0 32 "WireLoom$Machine" "steps" "I", Cond.fieldLink RX0 35 "WireLoom$Machine" "tellings" "I", Cond.methodLink RX4 124 yX2_run, Cond.instanceMethod yX2_run]
def wsX4_go_r3 : List Cond := [Cond.selects RX2 yX2_run yX2_run, Cond.code yX2_run cX2_run 4 (some .int), Cond.fieldLink RX2 82 "WireLoom$Machine" "running" "Z", Cond.fieldLink RX2 86 "WireLoom$Machine" "place" "I", Cond.methodLink RX2 89 yX2_takeReading, Cond.instanceMethod yX2_takeReading, Cond.selects RX2 yX2_takeReading yX2_takeReading, Cond.code yX2_takeReading cX2_takeReading 3 (some .int), Cond.methodLink RX2 79 yX2_tells, Cond.instanceMethod yX2_tells, Cond.selects RX2 yX2_tells yX2_tells, Cond.code yX2_tells cX2_tells 2 (some .int), Cond.methodLink RX2 55 yX2_answering, Cond.instanceMethod yX2_answering, Cond.selects RX2 yX2_answering yX2_answering, Cond.code yX2_answering cX2_answering 8 (some .int), Cond.static yX4_bit, Cond.code yX4_bit cX4_bit 2 (some .int), Cond.methodLink RX2 102 yX2_strengthAt, Cond.instanceMethod yX2_strengthAt, Cond.selects RX2 yX2_strengthAt yX2_strengthAt, Cond.code yX2_strengthAt cX2_strengthAt 4 (some .int), Cond.methodLink RX2 99 Lib.Math.max.name, Cond.static Lib.Math.max.name]
def wsX4_go_r4 : List Cond := [Cond.initialized "java/lang/Math", Cond.code Lib.Math.max.name Lib.Math.max.code 2 (some .int), Cond.methodLink RX2 96 yX2_oneThreadOn, Cond.instanceMethod yX2_oneThreadOn, Cond.selects RX2 yX2_oneThreadOn yX2_oneThreadOn, Cond.code yX2_oneThreadOn cX2_oneThreadOn 6 (some .int), Cond.methodLink RX2 51 yX2_asWord, Cond.instanceMethod yX2_asWord, Cond.selects RX2 yX2_asWord yX2_asWord, Cond.code yX2_asWord cX2_asWord 2 (some .int), Cond.methodLink RX2 58 yX2_wearRings, Cond.instanceMethod yX2_wearRings, Cond.selects RX2 yX2_wearRings yX2_wearRings, Cond.code yX2_wearRings cX2_wearRings 4 none, Cond.methodLink RX2 74 Lib.Math.min.name, Cond.static Lib.Math.min.name, Cond.code Lib.Math.min.name Lib.Math.min.code 2 (some .int), Cond.methodLink RX2 92 yX0_obey, Cond.instanceMethod yX0_obey, Cond.selects RX0 yX0_obey yX0_obey, Cond.code yX0_obey cX0_obey 4 none, Cond.methodLink RX0 44 yX0_tellCount, Cond.instanceMethod yX0_tellCount, Cond.selects RX0 yX0_tellCount yX0_tellCount]
def wsX4_go_r5 : List Cond := [Cond.code yX0_tellCount cX0_tellCount 2 none]
def wsX4_go : List Cond := .code yX4_go cX4_go 2 (some .int) :: ((wsX4_go_r1 ++ (wsX4_go_r2 ++ (wsX4_go_r3 ++ (wsX4_go_r4 ++ wsX4_go_r5)))) ++ wsX40 ++ wsX10 ++ wsX20 ++ wsX00 ++ (vx_atS RX4 83 "java/lang/IllegalArgumentException" ["java/lang/RuntimeException", "java/lang/Exception"]).filter goodWord)
def wsX4_append : List Cond := .code yX4_append cX4_append 2 (some .int) :: ([.classLink RX4 79 "java/lang/IllegalArgumentException", .initialized "java/lang/IllegalArgumentException", .classLink RX4 132 "java/lang/IllegalStateException", .initialized "java/lang/IllegalStateException", .fieldLink RX4 37 "WireLoom" "buffer" "LWireLoom$Text;", .fieldLink RX4 129 "WireLoom$Text" "length" "I", .methodLink RX4 75 yX4_isWithin, .static yX4_isWithin, .initialized RX4, .code yX4_isWithin cX4_isWithin 3 (some .boolean), .methodLink RX4 137 yX3_put, .instanceMethod yX3_put, .selects RX3 yX3_put yX3_put, .initialized RX3, .code yX3_put cX3_put 2 none, .fieldLink RX3 18 "WireLoom$Text" "length" "I", .fieldLink RX3 11 "WireLoom$Text" "codes" "[I"] ++ wsX40 ++ wsX30 ++ (vx_atS RX4 83 "java/lang/IllegalArgumentException" ["java/lang/RuntimeException", "java/lang/Exception"]).filter goodWord ++ (vx_atS RX4 136 "java/lang/IllegalStateException" ["java/lang/RuntimeException", "java/lang/Exception"]).filter goodWord)
def wsX4_clearBuffer : List Cond := .code yX4_clearBuffer cX4_clearBuffer 2 (some .int) :: ([.fieldLink RX4 37 "WireLoom" "buffer" "LWireLoom$Text;", .fieldLink RX4 129 "WireLoom$Text" "length" "I"] ++ wsX40 ++ wsX30)
def wsX4_firstError : List Cond := .code yX4_firstError cX4_firstError 1 (some .int) :: ([.fieldLink RX4 37 "WireLoom" "buffer" "LWireLoom$Text;", .methodLink RX4 141 yX3_parse, .instanceMethod yX3_parse, .selects RX3 yX3_parse yX3_parse, .initialized RX3, .code yX3_parse cX3_parse 2 (some .int), .fieldLink RX3 34 "WireLoom$Text" "phase" "I", .fieldLink RX3 37 "WireLoom$Text" "wordCount" "I", .fieldLink RX3 18 "WireLoom$Text" "length" "I", .fieldLink RX3 11 "WireLoom$Text" "codes" "[I", .methodLink RX3 40 yX3_takeCode, .instanceMethod yX3_takeCode, .selects RX3 yX3_takeCode yX3_takeCode, .code yX3_takeCode cX3_takeCode 4 none, .fieldLink RX3 15 "WireLoom$Text" "words" "[I", .methodLink RX3 43 yX3_digitOf, .static yX3_digitOf, .code yX3_digitOf cX3_digitOf 1 (some .int)] ++ wsX40 ++ wsX30)
def wsX4_load_r1 : List Cond := [Cond.classLink RX4 52 "java/lang/IndexOutOfBoundsException", Cond.initialized "java/lang/IndexOutOfBoundsException", Cond.classLink RX4 79 "java/lang/IllegalArgumentException", Cond.initialized "java/lang/IllegalArgumentException", Cond.fieldLink RX4 37 "WireLoom" "buffer" "LWireLoom$Text;", Cond.fieldLink RX4 22 "WireLoom" "past" "LWireLoom$Past;", Cond.fieldLink RX4 10 "WireLoom" "now" "LWireLoom$State;", Cond.fieldLink RX4 151 "WireLoom$Text" "wordCount" "I", Cond.fieldLink RX4 154 "WireLoom$Text" "words" "[I", Cond.fieldLink RX4 129 "WireLoom$Text" "length" "I", Cond.methodLink RX4 45 yX4_isThread, Cond.static yX4_isThread, Cond.initialized RX4, Cond.code yX4_isThread cX4_isThread 1 (some .boolean), Cond.methodLink RX4 75 yX4_isWithin, Cond.static yX4_isWithin, Cond.code yX4_isWithin cX4_isWithin 3 (some .boolean), Cond.methodLink RX4 145 yX3_tellsProgram, Cond.instanceMethod yX3_tellsProgram, Cond.selects RX3 yX3_tellsProgram yX3_tellsProgram, Cond.initialized RX3, Cond.code yX3_tellsProgram cX3_tellsProgram 1 (some .boolean), Cond.fieldLink RX3 18 "WireLoom$Text" "length" "I", Cond.fieldLink RX3 34 "WireLoom$Text" "phase" "I"]
def wsX4_load_r2 : List Cond := [Cond.methodLink RX3 30 yX3_parse, Cond.instanceMethod yX3_parse, Cond.selects RX3 yX3_parse yX3_parse, Cond.code yX3_parse cX3_parse 2 (some .int), Cond.fieldLink RX3 37 "WireLoom$Text" "wordCount" "I", Cond.fieldLink RX3 11 "WireLoom$Text" "codes" "[I", Cond.methodLink RX3 40 yX3_takeCode, Cond.instanceMethod yX3_takeCode, Cond.selects RX3 yX3_takeCode yX3_takeCode, Cond.code yX3_takeCode cX3_takeCode 4 none, Cond.fieldLink RX3 15 "WireLoom$Text" "words" "[I", Cond.methodLink RX3 43 yX3_digitOf, Cond.static yX3_digitOf, Cond.code yX3_digitOf cX3_digitOf 1 (some .int), Cond.methodLink RX4 59 yX1_push, Cond.instanceMethod yX1_push, Cond.selects RX1 yX1_push yX1_push, Cond.initialized RX1, Cond.code yX1_push cX1_push 2 none, Cond.fieldLink RX1 11 "WireLoom$Past" "saved" "[LWireLoom$State;", Cond.fieldLink RX1 16 "WireLoom$Past" "oldest" "I", Cond.fieldLink RX1 20 "WireLoom$Past" "size" "I", Cond.methodLink RX1 23 yX2_become, Cond.instanceMethod yX2_become]
def wsX4_load_r3 : List Cond := [Cond.selects RX2 yX2_become yX2_become, Cond.initialized RX2, Cond.code yX2_become cX2_become 2 none, Cond.fieldLink RX2 9 "WireLoom$State" "rings" "[I", Cond.methodLink RX2 31 arraycopyName, Cond.native arraycopyName, Cond.static arraycopyName, Cond.initialized "java/lang/System", Cond.fieldLink RX2 15 "WireLoom$State" "readings" "[I", Cond.fieldLink RX2 18 "WireLoom$State" "wear" "[I", Cond.fieldLink RX2 21 "WireLoom$State" "settings" "[I", Cond.fieldLink RX2 27 "WireLoom$State" "machine" "LWireLoom$Machine;", Cond.fieldLink RX2 41 "WireLoom$State" "guarded" "I", Cond.fieldLink RX2 45 "WireLoom$State" "crossingsChanged" "I", Cond.fieldLink RX2 48 "WireLoom$State" "readingsDone" "I", Cond.methodLink RX2 37 yX0_becomeLike, Cond.instanceMethod yX0_becomeLike, Cond.selects RX0 yX0_becomeLike yX0_becomeLike, Cond.initialized RX0, Cond.code yX0_becomeLike cX0_becomeLike 2 none, Cond.fieldLink RX0 11 "WireLoom$Machine" "cells" "[I", Cond.methodLink RX0 38 arraycopyName, Cond.fieldLink RX0 15 "WireLoom$Machine" "latest" "[I", Cond.fieldLink RX0 21 "WireLoom$Machine" "place" "I"]
def wsX4_load_r4 : List Cond := [Cond.fieldLink RX0 25 "WireLoom$Machine" "count" "I", Cond.fieldLink RX0 28 "WireLoom$Machine" "running" "Z", Cond.fieldLink RX0 32 "WireLoom$Machine" "steps" "I", Cond.fieldLink RX0 35 "WireLoom$Machine" "tellings" "I", Cond.methodLink RX4 84 yX2_asWord, Cond.instanceMethod yX2_asWord, Cond.selects RX2 yX2_asWord yX2_asWord, Cond.code yX2_asWord cX2_asWord 2 (some .int), Cond.methodLink RX4 66 yX2_layThrough, Cond.instanceMethod yX2_layThrough, Cond.selects RX2 yX2_layThrough yX2_layThrough, Cond.code yX2_layThrough cX2_layThrough 5 (some .int), Cond.methodLink RX2 58 yX2_wearRings, Cond.instanceMethod yX2_wearRings, Cond.selects RX2 yX2_wearRings yX2_wearRings, Cond.code yX2_wearRings cX2_wearRings 4 none, Cond.methodLink RX2 74 Lib.Math.min.name, Cond.static Lib.Math.min.name, Cond.initialized "java/lang/Math", Cond.code Lib.Math.min.name Lib.Math.min.code 2 (some .int), Cond.static yX4_bit, Cond.code yX4_bit cX4_bit 2 (some .int), Cond.methodLink RX2 62 yJ6_bitCount_0f7a4, Cond.static yJ6_bitCount_0f7a4]
def wsX4_load_r5 : List Cond := [Cond.initialized RJ6, Cond.code yJ6_bitCount_0f7a4 cJ6_bitCount_0f7a4 1 (some .int), Cond.constant RJ6 265 (1431655765), Cond.constant RJ6 266 (858993459), Cond.constant RJ6 267 (252645135)]
def wsX4_load : List Cond := .code yX4_load cX4_load 4 (some .int) :: ((wsX4_load_r1 ++ (wsX4_load_r2 ++ (wsX4_load_r3 ++ (wsX4_load_r4 ++ wsX4_load_r5)))) ++ wsX40 ++ wsX30 ++ wsX10 ++ wsX20 ++ wsX00 ++ (vx_atS RX4 56 "java/lang/IndexOutOfBoundsException" ["java/lang/RuntimeException", "java/lang/Exception"]).filter goodWord ++ (vx_atS RX4 83 "java/lang/IllegalArgumentException" ["java/lang/RuntimeException", "java/lang/Exception"]).filter goodWord)
def wsX4_write_r1 : List Cond := [Cond.classLink RX4 52 "java/lang/IndexOutOfBoundsException", Cond.initialized "java/lang/IndexOutOfBoundsException", Cond.fieldLink RX4 37 "WireLoom" "buffer" "LWireLoom$Text;", Cond.fieldLink RX4 129 "WireLoom$Text" "length" "I", Cond.fieldLink RX4 10 "WireLoom" "now" "LWireLoom$State;", Cond.methodLink RX4 45 yX4_isThread, Cond.static yX4_isThread, Cond.initialized RX4, Cond.code yX4_isThread cX4_isThread 1 (some .boolean), Cond.methodLink RX4 75 yX4_isWithin, Cond.static yX4_isWithin, Cond.code yX4_isWithin cX4_isWithin 3 (some .boolean), Cond.methodLink RX4 159 yX2_tells, Cond.instanceMethod yX2_tells, Cond.selects RX2 yX2_tells yX2_tells, Cond.initialized RX2, Cond.code yX2_tells cX2_tells 2 (some .int), Cond.methodLink RX2 55 yX2_answering, Cond.instanceMethod yX2_answering, Cond.selects RX2 yX2_answering yX2_answering, Cond.code yX2_answering cX2_answering 8 (some .int), Cond.fieldLink RX2 9 "WireLoom$State" "rings" "[I", Cond.fieldLink RX2 21 "WireLoom$State" "settings" "[I", Cond.static yX4_bit]
def wsX4_write_r2 : List Cond := [Cond.code yX4_bit cX4_bit 2 (some .int), Cond.methodLink RX2 102 yX2_strengthAt, Cond.instanceMethod yX2_strengthAt, Cond.selects RX2 yX2_strengthAt yX2_strengthAt, Cond.code yX2_strengthAt cX2_strengthAt 4 (some .int), Cond.methodLink RX2 99 Lib.Math.max.name, Cond.static Lib.Math.max.name, Cond.initialized "java/lang/Math", Cond.code Lib.Math.max.name Lib.Math.max.code 2 (some .int), Cond.fieldLink RX2 18 "WireLoom$State" "wear" "[I", Cond.methodLink RX2 96 yX2_oneThreadOn, Cond.instanceMethod yX2_oneThreadOn, Cond.selects RX2 yX2_oneThreadOn yX2_oneThreadOn, Cond.code yX2_oneThreadOn cX2_oneThreadOn 6 (some .int), Cond.fieldLink RX2 41 "WireLoom$State" "guarded" "I", Cond.methodLink RX2 51 yX2_asWord, Cond.instanceMethod yX2_asWord, Cond.selects RX2 yX2_asWord yX2_asWord, Cond.code yX2_asWord cX2_asWord 2 (some .int), Cond.methodLink RX4 162 yX3_putWord, Cond.instanceMethod yX3_putWord, Cond.selects RX3 yX3_putWord yX3_putWord, Cond.initialized RX3, Cond.code yX3_putWord cX3_putWord 2 none]
def wsX4_write_r3 : List Cond := [Cond.methodLink RX3 22 yX3_signOf, Cond.static yX3_signOf, Cond.code yX3_signOf cX3_signOf 1 (some .int), Cond.methodLink RX3 26 yX3_put, Cond.instanceMethod yX3_put, Cond.selects RX3 yX3_put yX3_put, Cond.code yX3_put cX3_put 2 none, Cond.fieldLink RX3 18 "WireLoom$Text" "length" "I", Cond.fieldLink RX3 11 "WireLoom$Text" "codes" "[I"]
def wsX4_write : List Cond := .code yX4_write cX4_write 4 (some .int) :: ((wsX4_write_r1 ++ (wsX4_write_r2 ++ wsX4_write_r3)) ++ wsX40 ++ wsX30 ++ wsX20 ++ (vx_atS RX4 56 "java/lang/IndexOutOfBoundsException" ["java/lang/RuntimeException", "java/lang/Exception"]).filter goodWord)
def wsX4_isSlot : List Cond := .code yX4_isSlot cX4_isSlot 1 (some .boolean) :: ([.methodLink RX4 75 yX4_isWithin, .static yX4_isWithin, .initialized RX4, .code yX4_isWithin cX4_isWithin 3 (some .boolean)])
def wsX4_keep_r1 : List Cond := [Cond.classLink RX4 79 "java/lang/IllegalArgumentException", Cond.initialized "java/lang/IllegalArgumentException", Cond.fieldLink RX4 26 "WireLoom" "snapshots" "[LWireLoom$State;", Cond.fieldLink RX4 10 "WireLoom" "now" "LWireLoom$State;", Cond.fieldLink RX4 30 "WireLoom" "kept" "[Z", Cond.methodLink RX4 165 yX4_isSlot, Cond.static yX4_isSlot, Cond.initialized RX4, Cond.code yX4_isSlot cX4_isSlot 1 (some .boolean), Cond.methodLink RX4 75 yX4_isWithin, Cond.static yX4_isWithin, Cond.code yX4_isWithin cX4_isWithin 3 (some .boolean), Cond.methodLink RX4 170 yX2_become, Cond.instanceMethod yX2_become, Cond.selects RX2 yX2_become yX2_become, Cond.initialized RX2, Cond.code yX2_become cX2_become 2 none, Cond.fieldLink RX2 9 "WireLoom$State" "rings" "[I", Cond.methodLink RX2 31 arraycopyName, Cond.native arraycopyName, Cond.static arraycopyName, Cond.initialized "java/lang/System", Cond.fieldLink RX2 15 "WireLoom$State" "readings" "[I", Cond.fieldLink RX2 18 "WireLoom$State" "wear" "[I"]
def wsX4_keep_r2 : List Cond := [Cond.fieldLink RX2 21 "WireLoom$State" "settings" "[I", Cond.fieldLink RX2 27 "WireLoom$State" "machine" "LWireLoom$Machine;", Cond.fieldLink RX2 41 "WireLoom$State" "guarded" "I", Cond.fieldLink RX2 45 "WireLoom$State" "crossingsChanged" "I", Cond.fieldLink RX2 48 "WireLoom$State" "readingsDone" "I", Cond.methodLink RX2 37 yX0_becomeLike, Cond.instanceMethod yX0_becomeLike, Cond.selects RX0 yX0_becomeLike yX0_becomeLike, Cond.initialized RX0, Cond.code yX0_becomeLike cX0_becomeLike 2 none, Cond.fieldLink RX0 11 "WireLoom$Machine" "cells" "[I", Cond.methodLink RX0 38 arraycopyName, Cond.fieldLink RX0 15 "WireLoom$Machine" "latest" "[I", Cond.fieldLink RX0 21 "WireLoom$Machine" "place" "I", Cond.fieldLink RX0 25 "WireLoom$Machine" "count" "I", Cond.fieldLink RX0 28 "WireLoom$Machine" "running" "Z", Cond.fieldLink RX0 32 "WireLoom$Machine" "steps" "I", Cond.fieldLink RX0 35 "WireLoom$Machine" "tellings" "I", Cond.methodLink RX4 173 yX2_crossingsByThreads, Cond.instanceMethod yX2_crossingsByThreads, Cond.selects RX2 yX2_crossingsByThreads yX2_crossingsByThreads, Cond.code yX2_crossingsByThreads cX2_crossingsByThreads 3 (some .int), Cond.methodLink RX2 62 yJ6_bitCount_0f7a4, Cond.static yJ6_bitCount_0f7a4]
def wsX4_keep_r3 : List Cond := [Cond.initialized RJ6, Cond.code yJ6_bitCount_0f7a4 cJ6_bitCount_0f7a4 1 (some .int), Cond.constant RJ6 265 (1431655765), Cond.constant RJ6 266 (858993459), Cond.constant RJ6 267 (252645135)]
def wsX4_keep : List Cond := .code yX4_keep cX4_keep 2 (some .int) :: ((wsX4_keep_r1 ++ (wsX4_keep_r2 ++ wsX4_keep_r3)) ++ wsX40 ++ wsX20 ++ wsX00 ++ (vx_atS RX4 83 "java/lang/IllegalArgumentException" ["java/lang/RuntimeException", "java/lang/Exception"]).filter goodWord)
def wsX4_goBack_r1 : List Cond := [Cond.classLink RX4 79 "java/lang/IllegalArgumentException", Cond.initialized "java/lang/IllegalArgumentException", Cond.classLink RX4 132 "java/lang/IllegalStateException", Cond.initialized "java/lang/IllegalStateException", Cond.fieldLink RX4 30 "WireLoom" "kept" "[Z", Cond.fieldLink RX4 22 "WireLoom" "past" "LWireLoom$Past;", Cond.fieldLink RX4 10 "WireLoom" "now" "LWireLoom$State;", Cond.fieldLink RX4 26 "WireLoom" "snapshots" "[LWireLoom$State;", Cond.methodLink RX4 165 yX4_isSlot, Cond.static yX4_isSlot, Cond.initialized RX4, Cond.code yX4_isSlot cX4_isSlot 1 (some .boolean), Cond.methodLink RX4 75 yX4_isWithin, Cond.static yX4_isWithin, Cond.code yX4_isWithin cX4_isWithin 3 (some .boolean), Cond.methodLink RX4 59 yX1_push, Cond.instanceMethod yX1_push, Cond.selects RX1 yX1_push yX1_push, Cond.initialized RX1, Cond.code yX1_push cX1_push 2 none, Cond.fieldLink RX1 11 "WireLoom$Past" "saved" "[LWireLoom$State;", Cond.fieldLink RX1 16 "WireLoom$Past" "oldest" "I", Cond.fieldLink RX1 20 "WireLoom$Past" "size" "I", Cond.methodLink RX1 23 yX2_become]
def wsX4_goBack_r2 : List Cond := [Cond.instanceMethod yX2_become, Cond.selects RX2 yX2_become yX2_become, Cond.initialized RX2, Cond.code yX2_become cX2_become 2 none, Cond.fieldLink RX2 9 "WireLoom$State" "rings" "[I", Cond.methodLink RX2 31 arraycopyName, Cond.native arraycopyName, Cond.static arraycopyName, Cond.initialized "java/lang/System", Cond.fieldLink RX2 15 "WireLoom$State" "readings" "[I", Cond.fieldLink RX2 18 "WireLoom$State" "wear" "[I", Cond.fieldLink RX2 21 "WireLoom$State" "settings" "[I", Cond.fieldLink RX2 27 "WireLoom$State" "machine" "LWireLoom$Machine;", Cond.fieldLink RX2 41 "WireLoom$State" "guarded" "I", Cond.fieldLink RX2 45 "WireLoom$State" "crossingsChanged" "I", Cond.fieldLink RX2 48 "WireLoom$State" "readingsDone" "I", Cond.methodLink RX2 37 yX0_becomeLike, Cond.instanceMethod yX0_becomeLike, Cond.selects RX0 yX0_becomeLike yX0_becomeLike, Cond.initialized RX0, Cond.code yX0_becomeLike cX0_becomeLike 2 none, Cond.fieldLink RX0 11 "WireLoom$Machine" "cells" "[I", Cond.methodLink RX0 38 arraycopyName, Cond.fieldLink RX0 15 "WireLoom$Machine" "latest" "[I"]
def wsX4_goBack_r3 : List Cond := [Cond.fieldLink RX0 21 "WireLoom$Machine" "place" "I", Cond.fieldLink RX0 25 "WireLoom$Machine" "count" "I", Cond.fieldLink RX0 28 "WireLoom$Machine" "running" "Z", Cond.fieldLink RX0 32 "WireLoom$Machine" "steps" "I", Cond.fieldLink RX0 35 "WireLoom$Machine" "tellings" "I", Cond.methodLink RX4 170 yX2_become, Cond.methodLink RX4 173 yX2_crossingsByThreads, Cond.instanceMethod yX2_crossingsByThreads, Cond.selects RX2 yX2_crossingsByThreads yX2_crossingsByThreads, Cond.code yX2_crossingsByThreads cX2_crossingsByThreads 3 (some .int), Cond.methodLink RX2 62 yJ6_bitCount_0f7a4, Cond.static yJ6_bitCount_0f7a4, Cond.initialized RJ6, Cond.code yJ6_bitCount_0f7a4 cJ6_bitCount_0f7a4 1 (some .int), Cond.constant RJ6 265 (1431655765), Cond.constant RJ6 266 (858993459), Cond.constant RJ6 267 (252645135)]
def wsX4_goBack : List Cond := .code yX4_goBack cX4_goBack 2 (some .int) :: ((wsX4_goBack_r1 ++ (wsX4_goBack_r2 ++ wsX4_goBack_r3)) ++ wsX40 ++ wsX10 ++ wsX20 ++ wsX00 ++ (vx_atS RX4 83 "java/lang/IllegalArgumentException" ["java/lang/RuntimeException", "java/lang/Exception"]).filter goodWord ++ (vx_atS RX4 136 "java/lang/IllegalStateException" ["java/lang/RuntimeException", "java/lang/Exception"]).filter goodWord)
def wsX4_undo_r1 : List Cond := [Cond.classLink RX4 132 "java/lang/IllegalStateException", Cond.initialized "java/lang/IllegalStateException", Cond.fieldLink RX4 22 "WireLoom" "past" "LWireLoom$Past;", Cond.fieldLink RX4 178 "WireLoom$Past" "size" "I", Cond.fieldLink RX4 10 "WireLoom" "now" "LWireLoom$State;", Cond.methodLink RX4 183 yX1_popInto, Cond.instanceMethod yX1_popInto, Cond.selects RX1 yX1_popInto yX1_popInto, Cond.initialized RX1, Cond.code yX1_popInto cX1_popInto 2 none, Cond.fieldLink RX1 20 "WireLoom$Past" "size" "I", Cond.fieldLink RX1 11 "WireLoom$Past" "saved" "[LWireLoom$State;", Cond.fieldLink RX1 16 "WireLoom$Past" "oldest" "I", Cond.methodLink RX1 23 yX2_become, Cond.instanceMethod yX2_become, Cond.selects RX2 yX2_become yX2_become, Cond.initialized RX2, Cond.code yX2_become cX2_become 2 none, Cond.fieldLink RX2 9 "WireLoom$State" "rings" "[I", Cond.methodLink RX2 31 arraycopyName, Cond.native arraycopyName, Cond.static arraycopyName, Cond.initialized "java/lang/System", Cond.fieldLink RX2 15 "WireLoom$State" "readings" "[I"]
def wsX4_undo_r2 : List Cond := [Cond.fieldLink RX2 18 "WireLoom$State" "wear" "[I", Cond.fieldLink RX2 21 "WireLoom$State" "settings" "[I", Cond.fieldLink RX2 27 "WireLoom$State" "machine" "LWireLoom$Machine;", Cond.fieldLink RX2 41 "WireLoom$State" "guarded" "I", Cond.fieldLink RX2 45 "WireLoom$State" "crossingsChanged" "I", Cond.fieldLink RX2 48 "WireLoom$State" "readingsDone" "I", Cond.methodLink RX2 37 yX0_becomeLike, Cond.instanceMethod yX0_becomeLike, Cond.selects RX0 yX0_becomeLike yX0_becomeLike, Cond.initialized RX0, Cond.code yX0_becomeLike cX0_becomeLike 2 none, Cond.fieldLink RX0 11 "WireLoom$Machine" "cells" "[I", Cond.methodLink RX0 38 arraycopyName, Cond.fieldLink RX0 15 "WireLoom$Machine" "latest" "[I", Cond.fieldLink RX0 21 "WireLoom$Machine" "place" "I", Cond.fieldLink RX0 25 "WireLoom$Machine" "count" "I", Cond.fieldLink RX0 28 "WireLoom$Machine" "running" "Z", Cond.fieldLink RX0 32 "WireLoom$Machine" "steps" "I", Cond.fieldLink RX0 35 "WireLoom$Machine" "tellings" "I"]
def wsX4_undo : List Cond := .code yX4_undo cX4_undo 1 (some .int) :: ((wsX4_undo_r1 ++ wsX4_undo_r2) ++ wsX40 ++ wsX10 ++ wsX20 ++ wsX00 ++ (vx_atS RX4 136 "java/lang/IllegalStateException" ["java/lang/RuntimeException", "java/lang/Exception"]).filter goodWord)
def wsX4_threadOf_r1 : List Cond := [Cond.classLink RX4 52 "java/lang/IndexOutOfBoundsException", Cond.initialized "java/lang/IndexOutOfBoundsException", Cond.classLink RX4 79 "java/lang/IllegalArgumentException", Cond.initialized "java/lang/IllegalArgumentException", Cond.fieldLink RX4 10 "WireLoom" "now" "LWireLoom$State;", Cond.fieldLink RX4 63 "WireLoom$State" "rings" "[I", Cond.fieldLink RX4 88 "WireLoom$State" "guarded" "I", Cond.fieldLink RX4 197 "WireLoom$State" "readings" "[I", Cond.methodLink RX4 45 yX4_isThread, Cond.static yX4_isThread, Cond.initialized RX4, Cond.code yX4_isThread cX4_isThread 1 (some .boolean), Cond.methodLink RX4 75 yX4_isWithin, Cond.static yX4_isWithin, Cond.code yX4_isWithin cX4_isWithin 3 (some .boolean), Cond.methodLink RX4 70 yX4_bit, Cond.static yX4_bit, Cond.code yX4_bit cX4_bit 2 (some .int), Cond.methodLink RX4 186 yX2_means, Cond.instanceMethod yX2_means, Cond.selects RX2 yX2_means yX2_means, Cond.initialized RX2, Cond.code yX2_means cX2_means 2 (some .int), Cond.fieldLink RX2 9 "WireLoom$State" "rings" "[I"]
def wsX4_threadOf_r2 : List Cond := [Cond.methodLink RX2 51 yX2_asWord, Cond.instanceMethod yX2_asWord, Cond.selects RX2 yX2_asWord yX2_asWord, Cond.code yX2_asWord cX2_asWord 2 (some .int), Cond.fieldLink RX2 21 "WireLoom$State" "settings" "[I", Cond.methodLink RX4 159 yX2_tells, Cond.instanceMethod yX2_tells, Cond.selects RX2 yX2_tells yX2_tells, Cond.code yX2_tells cX2_tells 2 (some .int), Cond.methodLink RX2 55 yX2_answering, Cond.instanceMethod yX2_answering, Cond.selects RX2 yX2_answering yX2_answering, Cond.code yX2_answering cX2_answering 8 (some .int), Cond.methodLink RX2 102 yX2_strengthAt, Cond.instanceMethod yX2_strengthAt, Cond.selects RX2 yX2_strengthAt yX2_strengthAt, Cond.code yX2_strengthAt cX2_strengthAt 4 (some .int), Cond.methodLink RX2 99 Lib.Math.max.name, Cond.static Lib.Math.max.name, Cond.initialized "java/lang/Math", Cond.code Lib.Math.max.name Lib.Math.max.code 2 (some .int), Cond.fieldLink RX2 18 "WireLoom$State" "wear" "[I", Cond.methodLink RX2 96 yX2_oneThreadOn, Cond.instanceMethod yX2_oneThreadOn]
def wsX4_threadOf_r3 : List Cond := [Cond.selects RX2 yX2_oneThreadOn yX2_oneThreadOn, Cond.code yX2_oneThreadOn cX2_oneThreadOn 6 (some .int), Cond.fieldLink RX2 41 "WireLoom$State" "guarded" "I", Cond.methodLink RX4 189 yJ6_bitCount_0f7a4, Cond.static yJ6_bitCount_0f7a4, Cond.initialized RJ6, Cond.code yJ6_bitCount_0f7a4 cJ6_bitCount_0f7a4 1 (some .int), Cond.constant RJ6 265 (1431655765), Cond.constant RJ6 266 (858993459), Cond.constant RJ6 267 (252645135), Cond.methodLink RX4 194 yX2_answering]
def wsX4_threadOf : List Cond := .code yX4_threadOf cX4_threadOf 3 (some .int) :: ((wsX4_threadOf_r1 ++ (wsX4_threadOf_r2 ++ wsX4_threadOf_r3)) ++ wsX40 ++ wsX20 ++ (vx_atS RX4 56 "java/lang/IndexOutOfBoundsException" ["java/lang/RuntimeException", "java/lang/Exception"]).filter goodWord ++ (vx_atS RX4 83 "java/lang/IllegalArgumentException" ["java/lang/RuntimeException", "java/lang/Exception"]).filter goodWord)
def wsX4_ringOf_r1 : List Cond := [Cond.classLink RX4 52 "java/lang/IndexOutOfBoundsException", Cond.initialized "java/lang/IndexOutOfBoundsException", Cond.classLink RX4 79 "java/lang/IllegalArgumentException", Cond.initialized "java/lang/IllegalArgumentException", Cond.fieldLink RX4 10 "WireLoom" "now" "LWireLoom$State;", Cond.fieldLink RX4 202 "WireLoom$State" "wear" "[I", Cond.methodLink RX4 49 yX4_isRing, Cond.static yX4_isRing, Cond.initialized RX4, Cond.code yX4_isRing cX4_isRing 1 (some .boolean), Cond.methodLink RX4 75 yX4_isWithin, Cond.static yX4_isWithin, Cond.code yX4_isWithin cX4_isWithin 3 (some .boolean), Cond.methodLink RX4 205 yX2_threadsThrough, Cond.instanceMethod yX2_threadsThrough, Cond.selects RX2 yX2_threadsThrough yX2_threadsThrough, Cond.initialized RX2, Cond.code yX2_threadsThrough cX2_threadsThrough 4 (some .int), Cond.fieldLink RX2 9 "WireLoom$State" "rings" "[I", Cond.static yX4_bit, Cond.code yX4_bit cX4_bit 2 (some .int), Cond.methodLink RX4 189 yJ6_bitCount_0f7a4, Cond.static yJ6_bitCount_0f7a4, Cond.initialized RJ6]
def wsX4_ringOf_r2 : List Cond := [Cond.code yJ6_bitCount_0f7a4 cJ6_bitCount_0f7a4 1 (some .int), Cond.constant RJ6 265 (1431655765), Cond.constant RJ6 266 (858993459), Cond.constant RJ6 267 (252645135), Cond.methodLink RX4 208 yX2_threadsAnswered, Cond.instanceMethod yX2_threadsAnswered, Cond.selects RX2 yX2_threadsAnswered yX2_threadsAnswered, Cond.code yX2_threadsAnswered cX2_threadsAnswered 4 (some .int), Cond.methodLink RX2 55 yX2_answering, Cond.instanceMethod yX2_answering, Cond.selects RX2 yX2_answering yX2_answering, Cond.code yX2_answering cX2_answering 8 (some .int), Cond.fieldLink RX2 21 "WireLoom$State" "settings" "[I", Cond.methodLink RX2 102 yX2_strengthAt, Cond.instanceMethod yX2_strengthAt, Cond.selects RX2 yX2_strengthAt yX2_strengthAt, Cond.code yX2_strengthAt cX2_strengthAt 4 (some .int), Cond.methodLink RX2 99 Lib.Math.max.name, Cond.static Lib.Math.max.name, Cond.initialized "java/lang/Math", Cond.code Lib.Math.max.name Lib.Math.max.code 2 (some .int), Cond.fieldLink RX2 18 "WireLoom$State" "wear" "[I", Cond.methodLink RX2 96 yX2_oneThreadOn, Cond.instanceMethod yX2_oneThreadOn]
def wsX4_ringOf_r3 : List Cond := [Cond.selects RX2 yX2_oneThreadOn yX2_oneThreadOn, Cond.code yX2_oneThreadOn cX2_oneThreadOn 6 (some .int), Cond.fieldLink RX2 41 "WireLoom$State" "guarded" "I", Cond.methodLink RX4 211 yX2_isWornOut, Cond.instanceMethod yX2_isWornOut, Cond.selects RX2 yX2_isWornOut yX2_isWornOut, Cond.code yX2_isWornOut cX2_isWornOut 2 (some .boolean), Cond.methodLink RX2 67 yX2_threadsThrough]
def wsX4_ringOf : List Cond := .code yX4_ringOf cX4_ringOf 3 (some .int) :: ((wsX4_ringOf_r1 ++ (wsX4_ringOf_r2 ++ wsX4_ringOf_r3)) ++ wsX40 ++ wsX20 ++ (vx_atS RX4 56 "java/lang/IndexOutOfBoundsException" ["java/lang/RuntimeException", "java/lang/Exception"]).filter goodWord ++ (vx_atS RX4 83 "java/lang/IllegalArgumentException" ["java/lang/RuntimeException", "java/lang/Exception"]).filter goodWord)
def wsX4_strength_r1 : List Cond := [Cond.classLink RX4 52 "java/lang/IndexOutOfBoundsException", Cond.initialized "java/lang/IndexOutOfBoundsException", Cond.classLink RX4 79 "java/lang/IllegalArgumentException", Cond.initialized "java/lang/IllegalArgumentException", Cond.fieldLink RX4 10 "WireLoom" "now" "LWireLoom$State;", Cond.methodLink RX4 45 yX4_isThread, Cond.static yX4_isThread, Cond.initialized RX4, Cond.code yX4_isThread cX4_isThread 1 (some .boolean), Cond.methodLink RX4 75 yX4_isWithin, Cond.static yX4_isWithin, Cond.code yX4_isWithin cX4_isWithin 3 (some .boolean), Cond.methodLink RX4 49 yX4_isRing, Cond.static yX4_isRing, Cond.code yX4_isRing cX4_isRing 1 (some .boolean), Cond.methodLink RX4 216 yX2_hops, Cond.instanceMethod yX2_hops, Cond.selects RX2 yX2_hops yX2_hops, Cond.initialized RX2, Cond.code yX2_hops cX2_hops 5 (some .int), Cond.fieldLink RX2 9 "WireLoom$State" "rings" "[I", Cond.static yX4_bit, Cond.code yX4_bit cX4_bit 2 (some .int), Cond.methodLink RX2 96 yX2_oneThreadOn]
def wsX4_strength_r2 : List Cond := [Cond.instanceMethod yX2_oneThreadOn, Cond.selects RX2 yX2_oneThreadOn yX2_oneThreadOn, Cond.code yX2_oneThreadOn cX2_oneThreadOn 6 (some .int), Cond.fieldLink RX2 41 "WireLoom$State" "guarded" "I", Cond.methodLink RX4 219 yX2_strengthAt, Cond.instanceMethod yX2_strengthAt, Cond.selects RX2 yX2_strengthAt yX2_strengthAt, Cond.code yX2_strengthAt cX2_strengthAt 4 (some .int), Cond.methodLink RX2 99 Lib.Math.max.name, Cond.static Lib.Math.max.name, Cond.initialized "java/lang/Math", Cond.code Lib.Math.max.name Lib.Math.max.code 2 (some .int), Cond.fieldLink RX2 18 "WireLoom$State" "wear" "[I"]
def wsX4_strength : List Cond := .code yX4_strength cX4_strength 4 (some .int) :: ((wsX4_strength_r1 ++ wsX4_strength_r2) ++ wsX40 ++ wsX20 ++ (vx_atS RX4 56 "java/lang/IndexOutOfBoundsException" ["java/lang/RuntimeException", "java/lang/Exception"]).filter goodWord ++ (vx_atS RX4 83 "java/lang/IllegalArgumentException" ["java/lang/RuntimeException", "java/lang/Exception"]).filter goodWord)
def wsX4_machine : List Cond := .code yX4_machine cX4_machine 2 (some .int) :: ([.classLink RX4 79 "java/lang/IllegalArgumentException", .initialized "java/lang/IllegalArgumentException", .fieldLink RX4 10 "WireLoom" "now" "LWireLoom$State;", .fieldLink RX4 110 "WireLoom$State" "machine" "LWireLoom$Machine;", .fieldLink RX4 224 "WireLoom$Machine" "place" "I", .fieldLink RX4 227 "WireLoom$Machine" "count" "I", .fieldLink RX4 230 "WireLoom$Machine" "cells" "[I", .fieldLink RX4 233 "WireLoom$Machine" "running" "Z", .fieldLink RX4 114 "WireLoom$Machine" "steps" "I", .fieldLink RX4 237 "WireLoom$Machine" "tellings" "I"] ++ wsX40 ++ wsX20 ++ wsX00 ++ (vx_atS RX4 83 "java/lang/IllegalArgumentException" ["java/lang/RuntimeException", "java/lang/Exception"]).filter goodWord)
def wsX4_told : List Cond := .code yX4_told cX4_told 2 (some .int) :: ([.classLink RX4 79 "java/lang/IllegalArgumentException", .initialized "java/lang/IllegalArgumentException", .fieldLink RX4 10 "WireLoom" "now" "LWireLoom$State;", .fieldLink RX4 110 "WireLoom$State" "machine" "LWireLoom$Machine;", .fieldLink RX4 244 "WireLoom$Machine" "latest" "[I", .methodLink RX4 75 yX4_isWithin, .static yX4_isWithin, .initialized RX4, .code yX4_isWithin cX4_isWithin 3 (some .boolean)] ++ wsX40 ++ wsX20 ++ wsX00 ++ (vx_atS RX4 83 "java/lang/IllegalArgumentException" ["java/lang/RuntimeException", "java/lang/Exception"]).filter goodWord)
def wsX4_pairsTellingTheSame_r1 : List Cond := [Cond.fieldLink RX4 41 "WireLoom" "wordsTold" "[I", Cond.fieldLink RX4 10 "WireLoom" "now" "LWireLoom$State;", Cond.methodLink RX4 159 yX2_tells, Cond.instanceMethod yX2_tells, Cond.selects RX2 yX2_tells yX2_tells, Cond.initialized RX2, Cond.code yX2_tells cX2_tells 2 (some .int), Cond.methodLink RX2 55 yX2_answering, Cond.instanceMethod yX2_answering, Cond.selects RX2 yX2_answering yX2_answering, Cond.code yX2_answering cX2_answering 8 (some .int), Cond.fieldLink RX2 9 "WireLoom$State" "rings" "[I", Cond.fieldLink RX2 21 "WireLoom$State" "settings" "[I", Cond.static yX4_bit, Cond.initialized RX4, Cond.code yX4_bit cX4_bit 2 (some .int), Cond.methodLink RX2 102 yX2_strengthAt, Cond.instanceMethod yX2_strengthAt, Cond.selects RX2 yX2_strengthAt yX2_strengthAt, Cond.code yX2_strengthAt cX2_strengthAt 4 (some .int), Cond.methodLink RX2 99 Lib.Math.max.name, Cond.static Lib.Math.max.name, Cond.initialized "java/lang/Math", Cond.code Lib.Math.max.name Lib.Math.max.code 2 (some .int)]
def wsX4_pairsTellingTheSame_r2 : List Cond := [Cond.fieldLink RX2 18 "WireLoom$State" "wear" "[I", Cond.methodLink RX2 96 yX2_oneThreadOn, Cond.instanceMethod yX2_oneThreadOn, Cond.selects RX2 yX2_oneThreadOn yX2_oneThreadOn, Cond.code yX2_oneThreadOn cX2_oneThreadOn 6 (some .int), Cond.fieldLink RX2 41 "WireLoom$State" "guarded" "I", Cond.methodLink RX2 51 yX2_asWord, Cond.instanceMethod yX2_asWord, Cond.selects RX2 yX2_asWord yX2_asWord, Cond.code yX2_asWord cX2_asWord 2 (some .int)]
def wsX4_pairsTellingTheSame : List Cond := .code yX4_pairsTellingTheSame cX4_pairsTellingTheSame 4 (some .int) :: ((wsX4_pairsTellingTheSame_r1 ++ wsX4_pairsTellingTheSame_r2) ++ wsX40 ++ wsX20)
def wsX4_count_r1 : List Cond := [Cond.classLink RX4 79 "java/lang/IllegalArgumentException", Cond.initialized "java/lang/IllegalArgumentException", Cond.fieldLink RX4 10 "WireLoom" "now" "LWireLoom$State;", Cond.fieldLink RX4 250 "WireLoom$State" "crossingsChanged" "I", Cond.fieldLink RX4 253 "WireLoom$State" "readingsDone" "I", Cond.fieldLink RX4 88 "WireLoom$State" "guarded" "I", Cond.fieldLink RX4 22 "WireLoom" "past" "LWireLoom$Past;", Cond.fieldLink RX4 178 "WireLoom$Past" "size" "I", Cond.methodLink RX4 173 yX2_crossingsByThreads, Cond.instanceMethod yX2_crossingsByThreads, Cond.selects RX2 yX2_crossingsByThreads yX2_crossingsByThreads, Cond.initialized RX2, Cond.code yX2_crossingsByThreads cX2_crossingsByThreads 3 (some .int), Cond.fieldLink RX2 9 "WireLoom$State" "rings" "[I", Cond.methodLink RX2 62 yJ6_bitCount_0f7a4, Cond.static yJ6_bitCount_0f7a4, Cond.initialized RJ6, Cond.code yJ6_bitCount_0f7a4 cJ6_bitCount_0f7a4 1 (some .int), Cond.constant RJ6 265 (1431655765), Cond.constant RJ6 266 (858993459), Cond.constant RJ6 267 (252645135), Cond.methodLink RX4 247 yX2_crossingsByRings, Cond.instanceMethod yX2_crossingsByRings, Cond.selects RX2 yX2_crossingsByRings yX2_crossingsByRings]
def wsX4_count_r2 : List Cond := [Cond.code yX2_crossingsByRings cX2_crossingsByRings 3 (some .int), Cond.methodLink RX2 67 yX2_threadsThrough, Cond.instanceMethod yX2_threadsThrough, Cond.selects RX2 yX2_threadsThrough yX2_threadsThrough, Cond.code yX2_threadsThrough cX2_threadsThrough 4 (some .int), Cond.static yX4_bit, Cond.initialized RX4, Cond.code yX4_bit cX4_bit 2 (some .int), Cond.methodLink RX4 256 yX2_threadsRight, Cond.instanceMethod yX2_threadsRight, Cond.selects RX2 yX2_threadsRight yX2_threadsRight, Cond.code yX2_threadsRight cX2_threadsRight 3 (some .int), Cond.methodLink RX2 55 yX2_answering, Cond.instanceMethod yX2_answering, Cond.selects RX2 yX2_answering yX2_answering, Cond.code yX2_answering cX2_answering 8 (some .int), Cond.fieldLink RX2 21 "WireLoom$State" "settings" "[I", Cond.methodLink RX2 102 yX2_strengthAt, Cond.instanceMethod yX2_strengthAt, Cond.selects RX2 yX2_strengthAt yX2_strengthAt, Cond.code yX2_strengthAt cX2_strengthAt 4 (some .int), Cond.methodLink RX2 99 Lib.Math.max.name, Cond.static Lib.Math.max.name, Cond.initialized "java/lang/Math"]
def wsX4_count_r3 : List Cond := [Cond.code Lib.Math.max.name Lib.Math.max.code 2 (some .int), Cond.fieldLink RX2 18 "WireLoom$State" "wear" "[I", Cond.methodLink RX2 96 yX2_oneThreadOn, Cond.instanceMethod yX2_oneThreadOn, Cond.selects RX2 yX2_oneThreadOn yX2_oneThreadOn, Cond.code yX2_oneThreadOn cX2_oneThreadOn 6 (some .int), Cond.fieldLink RX2 41 "WireLoom$State" "guarded" "I", Cond.methodLink RX4 189 yJ6_bitCount_0f7a4, Cond.methodLink RX4 259 yX2_greatestWear, Cond.instanceMethod yX2_greatestWear, Cond.selects RX2 yX2_greatestWear yX2_greatestWear, Cond.code yX2_greatestWear cX2_greatestWear 3 (some .int), Cond.methodLink RX4 262 yX4_pairsTellingTheSame, Cond.instanceMethod yX4_pairsTellingTheSame, Cond.selects RX4 yX4_pairsTellingTheSame yX4_pairsTellingTheSame, Cond.code yX4_pairsTellingTheSame cX4_pairsTellingTheSame 4 (some .int), Cond.fieldLink RX4 41 "WireLoom" "wordsTold" "[I", Cond.methodLink RX4 159 yX2_tells, Cond.instanceMethod yX2_tells, Cond.selects RX2 yX2_tells yX2_tells, Cond.code yX2_tells cX2_tells 2 (some .int), Cond.methodLink RX2 51 yX2_asWord, Cond.instanceMethod yX2_asWord, Cond.selects RX2 yX2_asWord yX2_asWord]
def wsX4_count_r4 : List Cond := [Cond.code yX2_asWord cX2_asWord 2 (some .int), Cond.methodLink RX4 265 yX2_fewestUnlikeBits, Cond.instanceMethod yX2_fewestUnlikeBits, Cond.selects RX2 yX2_fewestUnlikeBits yX2_fewestUnlikeBits, Cond.code yX2_fewestUnlikeBits cX2_fewestUnlikeBits 4 (some .int), Cond.methodLink RX2 74 Lib.Math.min.name, Cond.static Lib.Math.min.name, Cond.code Lib.Math.min.name Lib.Math.min.code 2 (some .int)]
def wsX4_count : List Cond := .code yX4_count cX4_count 2 (some .int) :: ((wsX4_count_r1 ++ (wsX4_count_r2 ++ (wsX4_count_r3 ++ wsX4_count_r4))) ++ wsX40 ++ wsX20 ++ wsX10 ++ (vx_atS RX4 83 "java/lang/IllegalArgumentException" ["java/lang/RuntimeException", "java/lang/Exception"]).filter goodWord)
def wsX4_setting : List Cond := .code yX4_setting cX4_setting 2 (some .int) :: ([.classLink RX4 52 "java/lang/IndexOutOfBoundsException", .initialized "java/lang/IndexOutOfBoundsException", .fieldLink RX4 10 "WireLoom" "now" "LWireLoom$State;", .fieldLink RX4 104 "WireLoom$State" "settings" "[I", .methodLink RX4 97 yX4_isSetting, .static yX4_isSetting, .initialized RX4, .code yX4_isSetting cX4_isSetting 1 (some .boolean), .methodLink RX4 75 yX4_isWithin, .static yX4_isWithin, .code yX4_isWithin cX4_isWithin 3 (some .boolean)] ++ wsX40 ++ wsX20 ++ (vx_atS RX4 56 "java/lang/IndexOutOfBoundsException" ["java/lang/RuntimeException", "java/lang/Exception"]).filter goodWord)
def wsX4_changesOfProgramAt : List Cond := .code yX4_changesOfProgramAt cX4_changesOfProgramAt 5 (some .int) :: ([.fieldLink RX4 37 "WireLoom" "buffer" "LWireLoom$Text;", .fieldLink RX4 151 "WireLoom$Text" "wordCount" "I", .fieldLink RX4 10 "WireLoom" "now" "LWireLoom$State;", .fieldLink RX4 154 "WireLoom$Text" "words" "[I", .methodLink RX4 186 yX2_means, .instanceMethod yX2_means, .selects RX2 yX2_means yX2_means, .initialized RX2, .code yX2_means cX2_means 2 (some .int), .fieldLink RX2 9 "WireLoom$State" "rings" "[I", .methodLink RX2 51 yX2_asWord, .instanceMethod yX2_asWord, .selects RX2 yX2_asWord yX2_asWord, .code yX2_asWord cX2_asWord 2 (some .int), .fieldLink RX2 21 "WireLoom$State" "settings" "[I", .methodLink RX4 189 yJ6_bitCount_0f7a4, .static yJ6_bitCount_0f7a4, .initialized RJ6, .code yJ6_bitCount_0f7a4 cJ6_bitCount_0f7a4 1 (some .int), .constant RJ6 265 (1431655765), .constant RJ6 266 (858993459), .constant RJ6 267 (252645135)] ++ wsX40 ++ wsX30 ++ wsX20)
def wsX4_ifLoaded_r1 : List Cond := [Cond.classLink RX4 52 "java/lang/IndexOutOfBoundsException", Cond.initialized "java/lang/IndexOutOfBoundsException", Cond.fieldLink RX4 37 "WireLoom" "buffer" "LWireLoom$Text;", Cond.methodLink RX4 45 yX4_isThread, Cond.static yX4_isThread, Cond.initialized RX4, Cond.code yX4_isThread cX4_isThread 1 (some .boolean), Cond.methodLink RX4 75 yX4_isWithin, Cond.static yX4_isWithin, Cond.code yX4_isWithin cX4_isWithin 3 (some .boolean), Cond.methodLink RX4 145 yX3_tellsProgram, Cond.instanceMethod yX3_tellsProgram, Cond.selects RX3 yX3_tellsProgram yX3_tellsProgram, Cond.initialized RX3, Cond.code yX3_tellsProgram cX3_tellsProgram 1 (some .boolean), Cond.fieldLink RX3 18 "WireLoom$Text" "length" "I", Cond.fieldLink RX3 34 "WireLoom$Text" "phase" "I", Cond.methodLink RX3 30 yX3_parse, Cond.instanceMethod yX3_parse, Cond.selects RX3 yX3_parse yX3_parse, Cond.code yX3_parse cX3_parse 2 (some .int), Cond.fieldLink RX3 37 "WireLoom$Text" "wordCount" "I", Cond.fieldLink RX3 11 "WireLoom$Text" "codes" "[I", Cond.methodLink RX3 40 yX3_takeCode]
def wsX4_ifLoaded_r2 : List Cond := [Cond.instanceMethod yX3_takeCode, Cond.selects RX3 yX3_takeCode yX3_takeCode, Cond.code yX3_takeCode cX3_takeCode 4 none, Cond.fieldLink RX3 15 "WireLoom$Text" "words" "[I", Cond.methodLink RX3 43 yX3_digitOf, Cond.static yX3_digitOf, Cond.code yX3_digitOf cX3_digitOf 1 (some .int), Cond.methodLink RX4 270 yX4_changesOfProgramAt, Cond.instanceMethod yX4_changesOfProgramAt, Cond.selects RX4 yX4_changesOfProgramAt yX4_changesOfProgramAt, Cond.code yX4_changesOfProgramAt cX4_changesOfProgramAt 5 (some .int), Cond.fieldLink RX4 151 "WireLoom$Text" "wordCount" "I", Cond.fieldLink RX4 10 "WireLoom" "now" "LWireLoom$State;", Cond.fieldLink RX4 154 "WireLoom$Text" "words" "[I", Cond.methodLink RX4 186 yX2_means, Cond.instanceMethod yX2_means, Cond.selects RX2 yX2_means yX2_means, Cond.initialized RX2, Cond.code yX2_means cX2_means 2 (some .int), Cond.fieldLink RX2 9 "WireLoom$State" "rings" "[I", Cond.methodLink RX2 51 yX2_asWord, Cond.instanceMethod yX2_asWord, Cond.selects RX2 yX2_asWord yX2_asWord, Cond.code yX2_asWord cX2_asWord 2 (some .int)]
def wsX4_ifLoaded_r3 : List Cond := [Cond.fieldLink RX2 21 "WireLoom$State" "settings" "[I", Cond.methodLink RX4 189 yJ6_bitCount_0f7a4, Cond.static yJ6_bitCount_0f7a4, Cond.initialized RJ6, Cond.code yJ6_bitCount_0f7a4 cJ6_bitCount_0f7a4 1 (some .int), Cond.constant RJ6 265 (1431655765), Cond.constant RJ6 266 (858993459), Cond.constant RJ6 267 (252645135)]
def wsX4_ifLoaded : List Cond := .code yX4_ifLoaded cX4_ifLoaded 2 (some .int) :: ((wsX4_ifLoaded_r1 ++ (wsX4_ifLoaded_r2 ++ wsX4_ifLoaded_r3)) ++ wsX40 ++ wsX30 ++ wsX20 ++ (vx_atS RX4 56 "java/lang/IndexOutOfBoundsException" ["java/lang/RuntimeException", "java/lang/Exception"]).filter goodWord)
def wsX4_bestPlace_r1 : List Cond := [Cond.fieldLink RX4 37 "WireLoom" "buffer" "LWireLoom$Text;", Cond.methodLink RX4 145 yX3_tellsProgram, Cond.instanceMethod yX3_tellsProgram, Cond.selects RX3 yX3_tellsProgram yX3_tellsProgram, Cond.initialized RX3, Cond.code yX3_tellsProgram cX3_tellsProgram 1 (some .boolean), Cond.fieldLink RX3 18 "WireLoom$Text" "length" "I", Cond.fieldLink RX3 34 "WireLoom$Text" "phase" "I", Cond.methodLink RX3 30 yX3_parse, Cond.instanceMethod yX3_parse, Cond.selects RX3 yX3_parse yX3_parse, Cond.code yX3_parse cX3_parse 2 (some .int), Cond.fieldLink RX3 37 "WireLoom$Text" "wordCount" "I", Cond.fieldLink RX3 11 "WireLoom$Text" "codes" "[I", Cond.methodLink RX3 40 yX3_takeCode, Cond.instanceMethod yX3_takeCode, Cond.selects RX3 yX3_takeCode yX3_takeCode, Cond.code yX3_takeCode cX3_takeCode 4 none, Cond.fieldLink RX3 15 "WireLoom$Text" "words" "[I", Cond.methodLink RX3 43 yX3_digitOf, Cond.static yX3_digitOf, Cond.code yX3_digitOf cX3_digitOf 1 (some .int), Cond.methodLink RX4 270 yX4_changesOfProgramAt, Cond.instanceMethod yX4_changesOfProgramAt]
def wsX4_bestPlace_r2 : List Cond := [Cond.selects RX4 yX4_changesOfProgramAt yX4_changesOfProgramAt, Cond.initialized RX4, Cond.code yX4_changesOfProgramAt cX4_changesOfProgramAt 5 (some .int), Cond.fieldLink RX4 151 "WireLoom$Text" "wordCount" "I", Cond.fieldLink RX4 10 "WireLoom" "now" "LWireLoom$State;", Cond.fieldLink RX4 154 "WireLoom$Text" "words" "[I", Cond.methodLink RX4 186 yX2_means, Cond.instanceMethod yX2_means, Cond.selects RX2 yX2_means yX2_means, Cond.initialized RX2, Cond.code yX2_means cX2_means 2 (some .int), Cond.fieldLink RX2 9 "WireLoom$State" "rings" "[I", Cond.methodLink RX2 51 yX2_asWord, Cond.instanceMethod yX2_asWord, Cond.selects RX2 yX2_asWord yX2_asWord, Cond.code yX2_asWord cX2_asWord 2 (some .int), Cond.fieldLink RX2 21 "WireLoom$State" "settings" "[I", Cond.methodLink RX4 189 yJ6_bitCount_0f7a4, Cond.static yJ6_bitCount_0f7a4, Cond.initialized RJ6, Cond.code yJ6_bitCount_0f7a4 cJ6_bitCount_0f7a4 1 (some .int), Cond.constant RJ6 265 (1431655765), Cond.constant RJ6 266 (858993459), Cond.constant RJ6 267 (252645135)]
def wsX4_bestPlace : List Cond := .code yX4_bestPlace cX4_bestPlace 5 (some .int) :: ((wsX4_bestPlace_r1 ++ wsX4_bestPlace_r2) ++ wsX40 ++ wsX30 ++ wsX20)
def wsX4_bestGuard_r1 : List Cond := [Cond.fieldLink RX4 16 "WireLoom" "trial" "LWireLoom$State;", Cond.fieldLink RX4 10 "WireLoom" "now" "LWireLoom$State;", Cond.fieldLink RX4 88 "WireLoom$State" "guarded" "I", Cond.methodLink RX4 170 yX2_become, Cond.instanceMethod yX2_become, Cond.selects RX2 yX2_become yX2_become, Cond.initialized RX2, Cond.code yX2_become cX2_become 2 none, Cond.fieldLink RX2 9 "WireLoom$State" "rings" "[I", Cond.methodLink RX2 31 arraycopyName, Cond.native arraycopyName, Cond.static arraycopyName, Cond.initialized "java/lang/System", Cond.fieldLink RX2 15 "WireLoom$State" "readings" "[I", Cond.fieldLink RX2 18 "WireLoom$State" "wear" "[I", Cond.fieldLink RX2 21 "WireLoom$State" "settings" "[I", Cond.fieldLink RX2 27 "WireLoom$State" "machine" "LWireLoom$Machine;", Cond.fieldLink RX2 41 "WireLoom$State" "guarded" "I", Cond.fieldLink RX2 45 "WireLoom$State" "crossingsChanged" "I", Cond.fieldLink RX2 48 "WireLoom$State" "readingsDone" "I", Cond.methodLink RX2 37 yX0_becomeLike, Cond.instanceMethod yX0_becomeLike, Cond.selects RX0 yX0_becomeLike yX0_becomeLike, Cond.initialized RX0]
def wsX4_bestGuard_r2 : List Cond := [Cond.code yX0_becomeLike cX0_becomeLike 2 none, Cond.fieldLink RX0 11 "WireLoom$Machine" "cells" "[I", Cond.methodLink RX0 38 arraycopyName, Cond.fieldLink RX0 15 "WireLoom$Machine" "latest" "[I", Cond.fieldLink RX0 21 "WireLoom$Machine" "place" "I", Cond.fieldLink RX0 25 "WireLoom$Machine" "count" "I", Cond.fieldLink RX0 28 "WireLoom$Machine" "running" "Z", Cond.fieldLink RX0 32 "WireLoom$Machine" "steps" "I", Cond.fieldLink RX0 35 "WireLoom$Machine" "tellings" "I", Cond.methodLink RX4 70 yX4_bit, Cond.static yX4_bit, Cond.initialized RX4, Cond.code yX4_bit cX4_bit 2 (some .int), Cond.methodLink RX4 256 yX2_threadsRight, Cond.instanceMethod yX2_threadsRight, Cond.selects RX2 yX2_threadsRight yX2_threadsRight, Cond.code yX2_threadsRight cX2_threadsRight 3 (some .int), Cond.methodLink RX2 55 yX2_answering, Cond.instanceMethod yX2_answering, Cond.selects RX2 yX2_answering yX2_answering, Cond.code yX2_answering cX2_answering 8 (some .int), Cond.methodLink RX2 102 yX2_strengthAt, Cond.instanceMethod yX2_strengthAt, Cond.selects RX2 yX2_strengthAt yX2_strengthAt]
def wsX4_bestGuard_r3 : List Cond := [Cond.code yX2_strengthAt cX2_strengthAt 4 (some .int), Cond.methodLink RX2 99 Lib.Math.max.name, Cond.static Lib.Math.max.name, Cond.initialized "java/lang/Math", Cond.code Lib.Math.max.name Lib.Math.max.code 2 (some .int), Cond.methodLink RX2 96 yX2_oneThreadOn, Cond.instanceMethod yX2_oneThreadOn, Cond.selects RX2 yX2_oneThreadOn yX2_oneThreadOn, Cond.code yX2_oneThreadOn cX2_oneThreadOn 6 (some .int)]
def wsX4_bestGuard : List Cond := .code yX4_bestGuard cX4_bestGuard 5 (some .int) :: ((wsX4_bestGuard_r1 ++ (wsX4_bestGuard_r2 ++ wsX4_bestGuard_r3)) ++ wsX40 ++ wsX20 ++ wsX00)
def wsX4_lastsFor : List Cond := .code yX4_lastsFor cX4_lastsFor 2 (some .int) :: ([.classLink RX4 52 "java/lang/IndexOutOfBoundsException", .initialized "java/lang/IndexOutOfBoundsException", .fieldLink RX4 10 "WireLoom" "now" "LWireLoom$State;", .methodLink RX4 45 yX4_isThread, .static yX4_isThread, .initialized RX4, .code yX4_isThread cX4_isThread 1 (some .boolean), .methodLink RX4 75 yX4_isWithin, .static yX4_isWithin, .code yX4_isWithin cX4_isWithin 3 (some .boolean), .methodLink RX4 273 yX2_readingsUntilChange, .instanceMethod yX2_readingsUntilChange, .selects RX2 yX2_readingsUntilChange yX2_readingsUntilChange, .initialized RX2, .code yX2_readingsUntilChange cX2_readingsUntilChange 6 (some .int), .fieldLink RX2 21 "WireLoom$State" "settings" "[I", .fieldLink RX2 18 "WireLoom$State" "wear" "[I", .fieldLink RX2 9 "WireLoom$State" "rings" "[I", .static yX4_bit, .code yX4_bit cX4_bit 2 (some .int)] ++ wsX40 ++ wsX20 ++ (vx_atS RX4 56 "java/lang/IndexOutOfBoundsException" ["java/lang/RuntimeException", "java/lang/Exception"]).filter goodWord)
def wsX4_ifGone_r1 : List Cond := [Cond.classLink RX4 79 "java/lang/IllegalArgumentException", Cond.initialized "java/lang/IllegalArgumentException", Cond.fieldLink RX4 16 "WireLoom" "trial" "LWireLoom$State;", Cond.fieldLink RX4 10 "WireLoom" "now" "LWireLoom$State;", Cond.fieldLink RX4 110 "WireLoom$State" "machine" "LWireLoom$Machine;", Cond.fieldLink RX4 227 "WireLoom$Machine" "count" "I", Cond.fieldLink RX4 224 "WireLoom$Machine" "place" "I", Cond.fieldLink RX4 237 "WireLoom$Machine" "tellings" "I", Cond.methodLink RX4 75 yX4_isWithin, Cond.static yX4_isWithin, Cond.initialized RX4, Cond.code yX4_isWithin cX4_isWithin 3 (some .boolean), Cond.methodLink RX4 170 yX2_become, Cond.instanceMethod yX2_become, Cond.selects RX2 yX2_become yX2_become, Cond.initialized RX2, Cond.code yX2_become cX2_become 2 none, Cond.fieldLink RX2 9 "WireLoom$State" "rings" "[I", Cond.methodLink RX2 31 arraycopyName, Cond.native arraycopyName, Cond.static arraycopyName, Cond.initialized "java/lang/System", Cond.fieldLink RX2 15 "WireLoom$State" "readings" "[I", Cond.fieldLink RX2 18 "WireLoom$State" "wear" "[I"]
def wsX4_ifGone_r2 : List Cond := [Cond.fieldLink RX2 21 "WireLoom$State" "settings" "[I", Cond.fieldLink RX2 27 "WireLoom$State" "machine" "LWireLoom$Machine;", Cond.fieldLink RX2 41 "WireLoom$State" "guarded" "I", Cond.fieldLink RX2 45 "WireLoom$State" "crossingsChanged" "I", Cond.fieldLink RX2 48 "WireLoom$State" "readingsDone" "I", Cond.methodLink RX2 37 yX0_becomeLike, Cond.instanceMethod yX0_becomeLike, Cond.selects RX0 yX0_becomeLike yX0_becomeLike, Cond.initialized RX0, Cond.code yX0_becomeLike cX0_becomeLike 2 none, Cond.fieldLink RX0 11 "WireLoom$Machine" "cells" "[I", Cond.methodLink RX0 38 arraycopyName, Cond.fieldLink RX0 15 "WireLoom$Machine" "latest" "[I", Cond.fieldLink RX0 21 "WireLoom$Machine" "place" "I", Cond.fieldLink RX0 25 "WireLoom$Machine" "count" "I", Cond.fieldLink RX0 28 "WireLoom$Machine" "running" "Z", Cond.fieldLink RX0 32 "WireLoom$Machine" "steps" "I", Cond.fieldLink RX0 35 "WireLoom$Machine" "tellings" "I", Cond.methodLink RX4 124 yX2_run, Cond.instanceMethod yX2_run, Cond.selects RX2 yX2_run yX2_run, Cond.code yX2_run cX2_run 4 (some .int), Cond.fieldLink RX2 82 "WireLoom$Machine" "running" "Z", Cond.fieldLink RX2 86 "WireLoom$Machine" "place" "I"]
def wsX4_ifGone_r3 : List Cond := [Cond.methodLink RX2 89 yX2_takeReading, Cond.instanceMethod yX2_takeReading, Cond.selects RX2 yX2_takeReading yX2_takeReading, Cond.code yX2_takeReading cX2_takeReading 3 (some .int), Cond.methodLink RX2 79 yX2_tells, Cond.instanceMethod yX2_tells, Cond.selects RX2 yX2_tells yX2_tells, Cond.code yX2_tells cX2_tells 2 (some .int), Cond.methodLink RX2 55 yX2_answering, Cond.instanceMethod yX2_answering, Cond.selects RX2 yX2_answering yX2_answering, Cond.code yX2_answering cX2_answering 8 (some .int), Cond.static yX4_bit, Cond.code yX4_bit cX4_bit 2 (some .int), Cond.methodLink RX2 102 yX2_strengthAt, Cond.instanceMethod yX2_strengthAt, Cond.selects RX2 yX2_strengthAt yX2_strengthAt, Cond.code yX2_strengthAt cX2_strengthAt 4 (some .int), Cond.methodLink RX2 99 Lib.Math.max.name, Cond.static Lib.Math.max.name, Cond.initialized "java/lang/Math", Cond.code Lib.Math.max.name Lib.Math.max.code 2 (some .int), Cond.methodLink RX2 96 yX2_oneThreadOn, Cond.instanceMethod yX2_oneThreadOn]
def wsX4_ifGone_r4 : List Cond := [Cond.selects RX2 yX2_oneThreadOn yX2_oneThreadOn, Cond.code yX2_oneThreadOn cX2_oneThreadOn 6 (some .int), Cond.methodLink RX2 51 yX2_asWord, Cond.instanceMethod yX2_asWord, Cond.selects RX2 yX2_asWord yX2_asWord, Cond.code yX2_asWord cX2_asWord 2 (some .int), Cond.methodLink RX2 58 yX2_wearRings, Cond.instanceMethod yX2_wearRings, Cond.selects RX2 yX2_wearRings yX2_wearRings, Cond.code yX2_wearRings cX2_wearRings 4 none, Cond.methodLink RX2 74 Lib.Math.min.name, Cond.static Lib.Math.min.name, Cond.code Lib.Math.min.name Lib.Math.min.code 2 (some .int), Cond.methodLink RX2 92 yX0_obey, Cond.instanceMethod yX0_obey, Cond.selects RX0 yX0_obey yX0_obey, Cond.code yX0_obey cX0_obey 4 none, Cond.methodLink RX0 44 yX0_tellCount, Cond.instanceMethod yX0_tellCount, Cond.selects RX0 yX0_tellCount yX0_tellCount, Cond.code yX0_tellCount cX0_tellCount 2 none]
def wsX4_ifGone : List Cond := .code yX4_ifGone cX4_ifGone 4 (some .int) :: ((wsX4_ifGone_r1 ++ (wsX4_ifGone_r2 ++ (wsX4_ifGone_r3 ++ wsX4_ifGone_r4))) ++ wsX40 ++ wsX20 ++ wsX00 ++ (vx_atS RX4 83 "java/lang/IllegalArgumentException" ["java/lang/RuntimeException", "java/lang/Exception"]).filter goodWord)
def wsX4_rightShare_r1 : List Cond := [Cond.fieldLink RX4 10 "WireLoom" "now" "LWireLoom$State;", Cond.constantDouble RX4 278 (4625196817309499392), Cond.methodLink RX4 256 yX2_threadsRight, Cond.instanceMethod yX2_threadsRight, Cond.selects RX2 yX2_threadsRight yX2_threadsRight, Cond.initialized RX2, Cond.code yX2_threadsRight cX2_threadsRight 3 (some .int), Cond.fieldLink RX2 9 "WireLoom$State" "rings" "[I", Cond.methodLink RX2 55 yX2_answering, Cond.instanceMethod yX2_answering, Cond.selects RX2 yX2_answering yX2_answering, Cond.code yX2_answering cX2_answering 8 (some .int), Cond.fieldLink RX2 21 "WireLoom$State" "settings" "[I", Cond.static yX4_bit, Cond.initialized RX4, Cond.code yX4_bit cX4_bit 2 (some .int), Cond.methodLink RX2 102 yX2_strengthAt, Cond.instanceMethod yX2_strengthAt, Cond.selects RX2 yX2_strengthAt yX2_strengthAt, Cond.code yX2_strengthAt cX2_strengthAt 4 (some .int), Cond.methodLink RX2 99 Lib.Math.max.name, Cond.static Lib.Math.max.name, Cond.initialized "java/lang/Math", Cond.code Lib.Math.max.name Lib.Math.max.code 2 (some .int)]
def wsX4_rightShare_r2 : List Cond := [Cond.fieldLink RX2 18 "WireLoom$State" "wear" "[I", Cond.methodLink RX2 96 yX2_oneThreadOn, Cond.instanceMethod yX2_oneThreadOn, Cond.selects RX2 yX2_oneThreadOn yX2_oneThreadOn, Cond.code yX2_oneThreadOn cX2_oneThreadOn 6 (some .int), Cond.fieldLink RX2 41 "WireLoom$State" "guarded" "I"]
def wsX4_rightShare : List Cond := .code yX4_rightShare cX4_rightShare 1 (some .double) :: ((wsX4_rightShare_r1 ++ wsX4_rightShare_r2) ++ wsX40 ++ wsX20)
def wsX4_meanWear : List Cond := .code yX4_meanWear cX4_meanWear 1 (some .float) :: ([.fieldLink RX4 10 "WireLoom" "now" "LWireLoom$State;", .constantFloat RX4 283 (1090519040), .methodLink RX4 280 yX2_wearOfAll, .instanceMethod yX2_wearOfAll, .selects RX2 yX2_wearOfAll yX2_wearOfAll, .initialized RX2, .code yX2_wearOfAll cX2_wearOfAll 3 (some .int), .fieldLink RX2 18 "WireLoom$State" "wear" "[I"] ++ wsX40 ++ wsX20)
def wsX4_digestThreads_r1 : List Cond := [Cond.constantLong RX4 286 (31), Cond.fieldLink RX4 10 "WireLoom" "now" "LWireLoom$State;", Cond.methodLink RX4 319 yX4_threadOf, Cond.instanceMethod yX4_threadOf, Cond.selects RX4 yX4_threadOf yX4_threadOf, Cond.initialized RX4, Cond.code yX4_threadOf cX4_threadOf 3 (some .int), Cond.classLink RX4 52 "java/lang/IndexOutOfBoundsException", Cond.initialized "java/lang/IndexOutOfBoundsException", Cond.classLink RX4 79 "java/lang/IllegalArgumentException", Cond.initialized "java/lang/IllegalArgumentException", Cond.fieldLink RX4 63 "WireLoom$State" "rings" "[I", Cond.fieldLink RX4 88 "WireLoom$State" "guarded" "I", Cond.fieldLink RX4 197 "WireLoom$State" "readings" "[I", Cond.methodLink RX4 45 yX4_isThread, Cond.static yX4_isThread, Cond.code yX4_isThread cX4_isThread 1 (some .boolean), Cond.methodLink RX4 75 yX4_isWithin, Cond.static yX4_isWithin, Cond.code yX4_isWithin cX4_isWithin 3 (some .boolean), Cond.methodLink RX4 70 yX4_bit, Cond.static yX4_bit, Cond.code yX4_bit cX4_bit 2 (some .int), Cond.methodLink RX4 186 yX2_means]
def wsX4_digestThreads_r2 : List Cond := [Cond.instanceMethod yX2_means, Cond.selects RX2 yX2_means yX2_means, Cond.initialized RX2, Cond.code yX2_means cX2_means 2 (some .int), Cond.fieldLink RX2 9 "WireLoom$State" "rings" "[I", Cond.methodLink RX2 51 yX2_asWord, Cond.instanceMethod yX2_asWord, Cond.selects RX2 yX2_asWord yX2_asWord, Cond.code yX2_asWord cX2_asWord 2 (some .int), Cond.fieldLink RX2 21 "WireLoom$State" "settings" "[I", Cond.methodLink RX4 159 yX2_tells, Cond.instanceMethod yX2_tells, Cond.selects RX2 yX2_tells yX2_tells, Cond.code yX2_tells cX2_tells 2 (some .int), Cond.methodLink RX2 55 yX2_answering, Cond.instanceMethod yX2_answering, Cond.selects RX2 yX2_answering yX2_answering, Cond.code yX2_answering cX2_answering 8 (some .int), Cond.methodLink RX2 102 yX2_strengthAt, Cond.instanceMethod yX2_strengthAt, Cond.selects RX2 yX2_strengthAt yX2_strengthAt, Cond.code yX2_strengthAt cX2_strengthAt 4 (some .int), Cond.methodLink RX2 99 Lib.Math.max.name, Cond.static Lib.Math.max.name]
def wsX4_digestThreads_r3 : List Cond := [Cond.initialized "java/lang/Math", Cond.code Lib.Math.max.name Lib.Math.max.code 2 (some .int), Cond.fieldLink RX2 18 "WireLoom$State" "wear" "[I", Cond.methodLink RX2 96 yX2_oneThreadOn, Cond.instanceMethod yX2_oneThreadOn, Cond.selects RX2 yX2_oneThreadOn yX2_oneThreadOn, Cond.code yX2_oneThreadOn cX2_oneThreadOn 6 (some .int), Cond.fieldLink RX2 41 "WireLoom$State" "guarded" "I", Cond.methodLink RX4 189 yJ6_bitCount_0f7a4, Cond.static yJ6_bitCount_0f7a4, Cond.initialized RJ6, Cond.code yJ6_bitCount_0f7a4 cJ6_bitCount_0f7a4 1 (some .int), Cond.constant RJ6 265 (1431655765), Cond.constant RJ6 266 (858993459), Cond.constant RJ6 267 (252645135), Cond.methodLink RX4 194 yX2_answering, Cond.methodLink RX4 273 yX2_readingsUntilChange, Cond.instanceMethod yX2_readingsUntilChange, Cond.selects RX2 yX2_readingsUntilChange yX2_readingsUntilChange, Cond.code yX2_readingsUntilChange cX2_readingsUntilChange 6 (some .int)]
def wsX4_digestThreads : List Cond := .code yX4_digestThreads cX4_digestThreads 7 (some .long) :: ((wsX4_digestThreads_r1 ++ (wsX4_digestThreads_r2 ++ wsX4_digestThreads_r3)) ++ wsX40 ++ wsX20 ++ (vx_atS RX4 56 "java/lang/IndexOutOfBoundsException" ["java/lang/RuntimeException", "java/lang/Exception"]).filter goodWord ++ (vx_atS RX4 83 "java/lang/IllegalArgumentException" ["java/lang/RuntimeException", "java/lang/Exception"]).filter goodWord)
def wsX4_digestRings_r1 : List Cond := [Cond.constantLong RX4 286 (31), Cond.methodLink RX4 322 yX4_ringOf, Cond.instanceMethod yX4_ringOf, Cond.selects RX4 yX4_ringOf yX4_ringOf, Cond.initialized RX4, Cond.code yX4_ringOf cX4_ringOf 3 (some .int), Cond.classLink RX4 52 "java/lang/IndexOutOfBoundsException", Cond.initialized "java/lang/IndexOutOfBoundsException", Cond.classLink RX4 79 "java/lang/IllegalArgumentException", Cond.initialized "java/lang/IllegalArgumentException", Cond.fieldLink RX4 10 "WireLoom" "now" "LWireLoom$State;", Cond.fieldLink RX4 202 "WireLoom$State" "wear" "[I", Cond.methodLink RX4 49 yX4_isRing, Cond.static yX4_isRing, Cond.code yX4_isRing cX4_isRing 1 (some .boolean), Cond.methodLink RX4 75 yX4_isWithin, Cond.static yX4_isWithin, Cond.code yX4_isWithin cX4_isWithin 3 (some .boolean), Cond.methodLink RX4 205 yX2_threadsThrough, Cond.instanceMethod yX2_threadsThrough, Cond.selects RX2 yX2_threadsThrough yX2_threadsThrough, Cond.initialized RX2, Cond.code yX2_threadsThrough cX2_threadsThrough 4 (some .int), Cond.fieldLink RX2 9 "WireLoom$State" "rings" "[I"]
def wsX4_digestRings_r2 : List Cond := [Cond.static yX4_bit, Cond.code yX4_bit cX4_bit 2 (some .int), Cond.methodLink RX4 189 yJ6_bitCount_0f7a4, Cond.static yJ6_bitCount_0f7a4, Cond.initialized RJ6, Cond.code yJ6_bitCount_0f7a4 cJ6_bitCount_0f7a4 1 (some .int), Cond.constant RJ6 265 (1431655765), Cond.constant RJ6 266 (858993459), Cond.constant RJ6 267 (252645135), Cond.methodLink RX4 208 yX2_threadsAnswered, Cond.instanceMethod yX2_threadsAnswered, Cond.selects RX2 yX2_threadsAnswered yX2_threadsAnswered, Cond.code yX2_threadsAnswered cX2_threadsAnswered 4 (some .int), Cond.methodLink RX2 55 yX2_answering, Cond.instanceMethod yX2_answering, Cond.selects RX2 yX2_answering yX2_answering, Cond.code yX2_answering cX2_answering 8 (some .int), Cond.fieldLink RX2 21 "WireLoom$State" "settings" "[I", Cond.methodLink RX2 102 yX2_strengthAt, Cond.instanceMethod yX2_strengthAt, Cond.selects RX2 yX2_strengthAt yX2_strengthAt, Cond.code yX2_strengthAt cX2_strengthAt 4 (some .int), Cond.methodLink RX2 99 Lib.Math.max.name, Cond.static Lib.Math.max.name]
def wsX4_digestRings_r3 : List Cond := [Cond.initialized "java/lang/Math", Cond.code Lib.Math.max.name Lib.Math.max.code 2 (some .int), Cond.fieldLink RX2 18 "WireLoom$State" "wear" "[I", Cond.methodLink RX2 96 yX2_oneThreadOn, Cond.instanceMethod yX2_oneThreadOn, Cond.selects RX2 yX2_oneThreadOn yX2_oneThreadOn, Cond.code yX2_oneThreadOn cX2_oneThreadOn 6 (some .int), Cond.fieldLink RX2 41 "WireLoom$State" "guarded" "I", Cond.methodLink RX4 211 yX2_isWornOut, Cond.instanceMethod yX2_isWornOut, Cond.selects RX2 yX2_isWornOut yX2_isWornOut, Cond.code yX2_isWornOut cX2_isWornOut 2 (some .boolean), Cond.methodLink RX2 67 yX2_threadsThrough, Cond.methodLink RX4 325 yX4_strength, Cond.instanceMethod yX4_strength, Cond.selects RX4 yX4_strength yX4_strength, Cond.code yX4_strength cX4_strength 4 (some .int), Cond.methodLink RX4 45 yX4_isThread, Cond.static yX4_isThread, Cond.code yX4_isThread cX4_isThread 1 (some .boolean), Cond.methodLink RX4 216 yX2_hops, Cond.instanceMethod yX2_hops, Cond.selects RX2 yX2_hops yX2_hops, Cond.code yX2_hops cX2_hops 5 (some .int)]
def wsX4_digestRings_r4 : List Cond := [Cond.methodLink RX4 219 yX2_strengthAt]
def wsX4_digestRings : List Cond := .code yX4_digestRings cX4_digestRings 7 (some .long) :: ((wsX4_digestRings_r1 ++ (wsX4_digestRings_r2 ++ (wsX4_digestRings_r3 ++ wsX4_digestRings_r4))) ++ wsX40 ++ wsX20 ++ (vx_atS RX4 56 "java/lang/IndexOutOfBoundsException" ["java/lang/RuntimeException", "java/lang/Exception"]).filter goodWord ++ (vx_atS RX4 83 "java/lang/IllegalArgumentException" ["java/lang/RuntimeException", "java/lang/Exception"]).filter goodWord)
def wsX4_digestMachine : List Cond := .code yX4_digestMachine cX4_digestMachine 6 (some .long) :: ([.constantLong RX4 286 (31), .fieldLink RX4 10 "WireLoom" "now" "LWireLoom$State;", .fieldLink RX4 110 "WireLoom$State" "machine" "LWireLoom$Machine;", .fieldLink RX4 244 "WireLoom$Machine" "latest" "[I", .methodLink RX4 329 yX4_machine, .instanceMethod yX4_machine, .selects RX4 yX4_machine yX4_machine, .initialized RX4, .code yX4_machine cX4_machine 2 (some .int), .classLink RX4 79 "java/lang/IllegalArgumentException", .initialized "java/lang/IllegalArgumentException", .fieldLink RX4 224 "WireLoom$Machine" "place" "I", .fieldLink RX4 227 "WireLoom$Machine" "count" "I", .fieldLink RX4 230 "WireLoom$Machine" "cells" "[I", .fieldLink RX4 233 "WireLoom$Machine" "running" "Z", .fieldLink RX4 114 "WireLoom$Machine" "steps" "I", .fieldLink RX4 237 "WireLoom$Machine" "tellings" "I"] ++ wsX40 ++ wsX20 ++ wsX00 ++ (vx_atS RX4 83 "java/lang/IllegalArgumentException" ["java/lang/RuntimeException", "java/lang/Exception"]).filter goodWord)
def wsX4_bitsOfShare : List Cond := .code yX4_bitsOfShare cX4_bitsOfShare 9 (some .long) :: ([.methodLink RX4 70 yX4_bit, .static yX4_bit, .initialized RX4, .code yX4_bit cX4_bit 2 (some .int)])
def wsX4_digestBuffer : List Cond := .code yX4_digestBuffer cX4_digestBuffer 6 (some .long) :: ([.constantLong RX4 286 (31), .fieldLink RX4 37 "WireLoom" "buffer" "LWireLoom$Text;", .fieldLink RX4 129 "WireLoom$Text" "length" "I", .fieldLink RX4 331 "WireLoom$Text" "codes" "[I"] ++ wsX40 ++ wsX30)
def wsX4_digest_r1 : List Cond := [Cond.constantLong RX4 284 (3371), Cond.constantLong RX4 286 (31), Cond.fieldLink RX4 10 "WireLoom" "now" "LWireLoom$State;", Cond.fieldLink RX4 104 "WireLoom$State" "settings" "[I", Cond.fieldLink RX4 30 "WireLoom" "kept" "[Z", Cond.methodLink RX4 288 yX4_count, Cond.instanceMethod yX4_count, Cond.selects RX4 yX4_count yX4_count, Cond.initialized RX4, Cond.code yX4_count cX4_count 2 (some .int), Cond.classLink RX4 79 "java/lang/IllegalArgumentException", Cond.initialized "java/lang/IllegalArgumentException", Cond.fieldLink RX4 250 "WireLoom$State" "crossingsChanged" "I", Cond.fieldLink RX4 253 "WireLoom$State" "readingsDone" "I", Cond.fieldLink RX4 88 "WireLoom$State" "guarded" "I", Cond.fieldLink RX4 22 "WireLoom" "past" "LWireLoom$Past;", Cond.fieldLink RX4 178 "WireLoom$Past" "size" "I", Cond.methodLink RX4 173 yX2_crossingsByThreads, Cond.instanceMethod yX2_crossingsByThreads, Cond.selects RX2 yX2_crossingsByThreads yX2_crossingsByThreads, Cond.initialized RX2, Cond.code yX2_crossingsByThreads cX2_crossingsByThreads 3 (some .int), Cond.fieldLink RX2 9 "WireLoom$State" "rings" "[I", Cond.methodLink RX2 62 yJ6_bitCount_0f7a4]
def wsX4_digest_r2 : List Cond := [Cond.static yJ6_bitCount_0f7a4, Cond.initialized RJ6, Cond.code yJ6_bitCount_0f7a4 cJ6_bitCount_0f7a4 1 (some .int), Cond.constant RJ6 265 (1431655765), Cond.constant RJ6 266 (858993459), Cond.constant RJ6 267 (252645135), Cond.methodLink RX4 247 yX2_crossingsByRings, Cond.instanceMethod yX2_crossingsByRings, Cond.selects RX2 yX2_crossingsByRings yX2_crossingsByRings, Cond.code yX2_crossingsByRings cX2_crossingsByRings 3 (some .int), Cond.methodLink RX2 67 yX2_threadsThrough, Cond.instanceMethod yX2_threadsThrough, Cond.selects RX2 yX2_threadsThrough yX2_threadsThrough, Cond.code yX2_threadsThrough cX2_threadsThrough 4 (some .int), Cond.static yX4_bit, Cond.code yX4_bit cX4_bit 2 (some .int), Cond.methodLink RX4 256 yX2_threadsRight, Cond.instanceMethod yX2_threadsRight, Cond.selects RX2 yX2_threadsRight yX2_threadsRight, Cond.code yX2_threadsRight cX2_threadsRight 3 (some .int), Cond.methodLink RX2 55 yX2_answering, Cond.instanceMethod yX2_answering, Cond.selects RX2 yX2_answering yX2_answering, Cond.code yX2_answering cX2_answering 8 (some .int)]
def wsX4_digest_r3 : List Cond := [Cond.fieldLink RX2 21 "WireLoom$State" "settings" "[I", Cond.methodLink RX2 102 yX2_strengthAt, Cond.instanceMethod yX2_strengthAt, Cond.selects RX2 yX2_strengthAt yX2_strengthAt, Cond.code yX2_strengthAt cX2_strengthAt 4 (some .int), Cond.methodLink RX2 99 Lib.Math.max.name, Cond.static Lib.Math.max.name, Cond.initialized "java/lang/Math", Cond.code Lib.Math.max.name Lib.Math.max.code 2 (some .int), Cond.fieldLink RX2 18 "WireLoom$State" "wear" "[I", Cond.methodLink RX2 96 yX2_oneThreadOn, Cond.instanceMethod yX2_oneThreadOn, Cond.selects RX2 yX2_oneThreadOn yX2_oneThreadOn, Cond.code yX2_oneThreadOn cX2_oneThreadOn 6 (some .int), Cond.fieldLink RX2 41 "WireLoom$State" "guarded" "I", Cond.methodLink RX4 189 yJ6_bitCount_0f7a4, Cond.methodLink RX4 259 yX2_greatestWear, Cond.instanceMethod yX2_greatestWear, Cond.selects RX2 yX2_greatestWear yX2_greatestWear, Cond.code yX2_greatestWear cX2_greatestWear 3 (some .int), Cond.methodLink RX4 262 yX4_pairsTellingTheSame, Cond.instanceMethod yX4_pairsTellingTheSame, Cond.selects RX4 yX4_pairsTellingTheSame yX4_pairsTellingTheSame, Cond.code yX4_pairsTellingTheSame cX4_pairsTellingTheSame 4 (some .int)]
def wsX4_digest_r4 : List Cond := [Cond.fieldLink RX4 41 "WireLoom" "wordsTold" "[I", Cond.methodLink RX4 159 yX2_tells, Cond.instanceMethod yX2_tells, Cond.selects RX2 yX2_tells yX2_tells, Cond.code yX2_tells cX2_tells 2 (some .int), Cond.methodLink RX2 51 yX2_asWord, Cond.instanceMethod yX2_asWord, Cond.selects RX2 yX2_asWord yX2_asWord, Cond.code yX2_asWord cX2_asWord 2 (some .int), Cond.methodLink RX4 265 yX2_fewestUnlikeBits, Cond.instanceMethod yX2_fewestUnlikeBits, Cond.selects RX2 yX2_fewestUnlikeBits yX2_fewestUnlikeBits, Cond.code yX2_fewestUnlikeBits cX2_fewestUnlikeBits 4 (some .int), Cond.methodLink RX2 74 Lib.Math.min.name, Cond.static Lib.Math.min.name, Cond.code Lib.Math.min.name Lib.Math.min.code 2 (some .int), Cond.methodLink RX4 290 yX4_digestThreads, Cond.instanceMethod yX4_digestThreads, Cond.selects RX4 yX4_digestThreads yX4_digestThreads, Cond.code yX4_digestThreads cX4_digestThreads 7 (some .long), Cond.methodLink RX4 319 yX4_threadOf, Cond.instanceMethod yX4_threadOf, Cond.selects RX4 yX4_threadOf yX4_threadOf, Cond.code yX4_threadOf cX4_threadOf 3 (some .int)]
def wsX4_digest_r5 : List Cond := [Cond.classLink RX4 52 "java/lang/IndexOutOfBoundsException", Cond.initialized "java/lang/IndexOutOfBoundsException", Cond.fieldLink RX4 63 "WireLoom$State" "rings" "[I", Cond.fieldLink RX4 197 "WireLoom$State" "readings" "[I", Cond.methodLink RX4 45 yX4_isThread, Cond.static yX4_isThread, Cond.code yX4_isThread cX4_isThread 1 (some .boolean), Cond.methodLink RX4 75 yX4_isWithin, Cond.static yX4_isWithin, Cond.code yX4_isWithin cX4_isWithin 3 (some .boolean), Cond.methodLink RX4 70 yX4_bit, Cond.methodLink RX4 186 yX2_means, Cond.instanceMethod yX2_means, Cond.selects RX2 yX2_means yX2_means, Cond.code yX2_means cX2_means 2 (some .int), Cond.methodLink RX4 194 yX2_answering, Cond.methodLink RX4 273 yX2_readingsUntilChange, Cond.instanceMethod yX2_readingsUntilChange, Cond.selects RX2 yX2_readingsUntilChange yX2_readingsUntilChange, Cond.code yX2_readingsUntilChange cX2_readingsUntilChange 6 (some .int), Cond.methodLink RX4 294 yX4_digestRings, Cond.instanceMethod yX4_digestRings, Cond.selects RX4 yX4_digestRings yX4_digestRings, Cond.code yX4_digestRings cX4_digestRings 7 (some .long)]
def wsX4_digest_r6 : List Cond := [Cond.methodLink RX4 322 yX4_ringOf, Cond.instanceMethod yX4_ringOf, Cond.selects RX4 yX4_ringOf yX4_ringOf, Cond.code yX4_ringOf cX4_ringOf 3 (some .int), Cond.fieldLink RX4 202 "WireLoom$State" "wear" "[I", Cond.methodLink RX4 49 yX4_isRing, Cond.static yX4_isRing, Cond.code yX4_isRing cX4_isRing 1 (some .boolean), Cond.methodLink RX4 205 yX2_threadsThrough, Cond.methodLink RX4 208 yX2_threadsAnswered, Cond.instanceMethod yX2_threadsAnswered, Cond.selects RX2 yX2_threadsAnswered yX2_threadsAnswered, Cond.code yX2_threadsAnswered cX2_threadsAnswered 4 (some .int), Cond.methodLink RX4 211 yX2_isWornOut, Cond.instanceMethod yX2_isWornOut, Cond.selects RX2 yX2_isWornOut yX2_isWornOut, Cond.code yX2_isWornOut cX2_isWornOut 2 (some .boolean), Cond.methodLink RX4 325 yX4_strength, Cond.instanceMethod yX4_strength, Cond.selects RX4 yX4_strength yX4_strength, Cond.code yX4_strength cX4_strength 4 (some .int), Cond.methodLink RX4 216 yX2_hops, Cond.instanceMethod yX2_hops, Cond.selects RX2 yX2_hops yX2_hops]
def wsX4_digest_r7 : List Cond := [Cond.code yX2_hops cX2_hops 5 (some .int), Cond.methodLink RX4 219 yX2_strengthAt, Cond.methodLink RX4 297 yX4_digestMachine, Cond.instanceMethod yX4_digestMachine, Cond.selects RX4 yX4_digestMachine yX4_digestMachine, Cond.code yX4_digestMachine cX4_digestMachine 6 (some .long), Cond.fieldLink RX4 110 "WireLoom$State" "machine" "LWireLoom$Machine;", Cond.fieldLink RX4 244 "WireLoom$Machine" "latest" "[I", Cond.methodLink RX4 329 yX4_machine, Cond.instanceMethod yX4_machine, Cond.selects RX4 yX4_machine yX4_machine, Cond.code yX4_machine cX4_machine 2 (some .int), Cond.fieldLink RX4 224 "WireLoom$Machine" "place" "I", Cond.fieldLink RX4 227 "WireLoom$Machine" "count" "I", Cond.fieldLink RX4 230 "WireLoom$Machine" "cells" "[I", Cond.fieldLink RX4 233 "WireLoom$Machine" "running" "Z", Cond.fieldLink RX4 114 "WireLoom$Machine" "steps" "I", Cond.fieldLink RX4 237 "WireLoom$Machine" "tellings" "I", Cond.methodLink RX4 300 yX4_ifGone, Cond.instanceMethod yX4_ifGone, Cond.selects RX4 yX4_ifGone yX4_ifGone, Cond.code yX4_ifGone cX4_ifGone 4 (some .int), Cond.fieldLink RX4 16 "WireLoom" "trial" "LWireLoom$State;", Cond.methodLink RX4 170 yX2_become]
def wsX4_digest_r8 : List Cond := [Cond.instanceMethod yX2_become, Cond.selects RX2 yX2_become yX2_become, Cond.code yX2_become cX2_become 2 none, Cond.methodLink RX2 31 arraycopyName, Cond.native arraycopyName, Cond.static arraycopyName, Cond.initialized "java/lang/System", Cond.fieldLink RX2 15 "WireLoom$State" "readings" "[I", Cond.fieldLink RX2 27 "WireLoom$State" "machine" "LWireLoom$Machine;", Cond.fieldLink RX2 45 "WireLoom$State" "crossingsChanged" "I", Cond.fieldLink RX2 48 "WireLoom$State" "readingsDone" "I", Cond.methodLink RX2 37 yX0_becomeLike, Cond.instanceMethod yX0_becomeLike, Cond.selects RX0 yX0_becomeLike yX0_becomeLike, Cond.initialized RX0, Cond.code yX0_becomeLike cX0_becomeLike 2 none, Cond.fieldLink RX0 11 "WireLoom$Machine" "cells" "[I", Cond.methodLink RX0 38 arraycopyName, Cond.fieldLink RX0 15 "WireLoom$Machine" "latest" "[I", Cond.fieldLink RX0 21 "WireLoom$Machine" "place" "I", Cond.fieldLink RX0 25 "WireLoom$Machine" "count" "I", Cond.fieldLink RX0 28 "WireLoom$Machine" "running" "Z", Cond.fieldLink RX0 32 "WireLoom$Machine" "steps" "I", Cond.fieldLink RX0 35 "WireLoom$Machine" "tellings" "I"]
def wsX4_digest_r9 : List Cond := [Cond.methodLink RX4 124 yX2_run, Cond.instanceMethod yX2_run, Cond.selects RX2 yX2_run yX2_run, Cond.code yX2_run cX2_run 4 (some .int), Cond.fieldLink RX2 82 "WireLoom$Machine" "running" "Z", Cond.fieldLink RX2 86 "WireLoom$Machine" "place" "I", Cond.methodLink RX2 89 yX2_takeReading, Cond.instanceMethod yX2_takeReading, Cond.selects RX2 yX2_takeReading yX2_takeReading, Cond.code yX2_takeReading cX2_takeReading 3 (some .int), Cond.methodLink RX2 79 yX2_tells, Cond.methodLink RX2 58 yX2_wearRings, Cond.instanceMethod yX2_wearRings, Cond.selects RX2 yX2_wearRings yX2_wearRings, Cond.code yX2_wearRings cX2_wearRings 4 none, Cond.methodLink RX2 92 yX0_obey, Cond.instanceMethod yX0_obey, Cond.selects RX0 yX0_obey yX0_obey, Cond.code yX0_obey cX0_obey 4 none, Cond.methodLink RX0 44 yX0_tellCount, Cond.instanceMethod yX0_tellCount, Cond.selects RX0 yX0_tellCount yX0_tellCount, Cond.code yX0_tellCount cX0_tellCount 2 none, Cond.methodLink RX4 303 yX4_ifLoaded]
def wsX4_digest_r10 : List Cond := [Cond.instanceMethod yX4_ifLoaded, Cond.selects RX4 yX4_ifLoaded yX4_ifLoaded, Cond.code yX4_ifLoaded cX4_ifLoaded 2 (some .int), Cond.fieldLink RX4 37 "WireLoom" "buffer" "LWireLoom$Text;", Cond.methodLink RX4 145 yX3_tellsProgram, Cond.instanceMethod yX3_tellsProgram, Cond.selects RX3 yX3_tellsProgram yX3_tellsProgram, Cond.initialized RX3, Cond.code yX3_tellsProgram cX3_tellsProgram 1 (some .boolean), Cond.fieldLink RX3 18 "WireLoom$Text" "length" "I", Cond.fieldLink RX3 34 "WireLoom$Text" "phase" "I", Cond.methodLink RX3 30 yX3_parse, Cond.instanceMethod yX3_parse, Cond.selects RX3 yX3_parse yX3_parse, Cond.code yX3_parse cX3_parse 2 (some .int), Cond.fieldLink RX3 37 "WireLoom$Text" "wordCount" "I", Cond.fieldLink RX3 11 "WireLoom$Text" "codes" "[I", Cond.methodLink RX3 40 yX3_takeCode, Cond.instanceMethod yX3_takeCode, Cond.selects RX3 yX3_takeCode yX3_takeCode, Cond.code yX3_takeCode cX3_takeCode 4 none, Cond.fieldLink RX3 15 "WireLoom$Text" "words" "[I", Cond.methodLink RX3 43 yX3_digitOf, Cond.static yX3_digitOf]
def wsX4_digest_r11 : List Cond := [Cond.code yX3_digitOf cX3_digitOf 1 (some .int), Cond.methodLink RX4 270 yX4_changesOfProgramAt, Cond.instanceMethod yX4_changesOfProgramAt, Cond.selects RX4 yX4_changesOfProgramAt yX4_changesOfProgramAt, Cond.code yX4_changesOfProgramAt cX4_changesOfProgramAt 5 (some .int), Cond.fieldLink RX4 151 "WireLoom$Text" "wordCount" "I", Cond.fieldLink RX4 154 "WireLoom$Text" "words" "[I", Cond.methodLink RX4 306 yX4_bestPlace, Cond.instanceMethod yX4_bestPlace, Cond.selects RX4 yX4_bestPlace yX4_bestPlace, Cond.code yX4_bestPlace cX4_bestPlace 5 (some .int), Cond.methodLink RX4 309 yX4_bestGuard, Cond.instanceMethod yX4_bestGuard, Cond.selects RX4 yX4_bestGuard yX4_bestGuard, Cond.code yX4_bestGuard cX4_bestGuard 5 (some .int), Cond.methodLink RX4 312 yX4_bitsOfShare, Cond.static yX4_bitsOfShare, Cond.code yX4_bitsOfShare cX4_bitsOfShare 9 (some .long), Cond.methodLink RX4 280 yX2_wearOfAll, Cond.instanceMethod yX2_wearOfAll, Cond.selects RX2 yX2_wearOfAll yX2_wearOfAll, Cond.code yX2_wearOfAll cX2_wearOfAll 3 (some .int), Cond.methodLink RX4 316 yX4_digestBuffer, Cond.instanceMethod yX4_digestBuffer]
def wsX4_digest_r12 : List Cond := [Cond.selects RX4 yX4_digestBuffer yX4_digestBuffer, Cond.code yX4_digestBuffer cX4_digestBuffer 6 (some .long), Cond.fieldLink RX4 129 "WireLoom$Text" "length" "I", Cond.fieldLink RX4 331 "WireLoom$Text" "codes" "[I"]
def wsX4_digest : List Cond := .code yX4_digest cX4_digest 4 (some .long) :: ((wsX4_digest_r1 ++ (wsX4_digest_r2 ++ (wsX4_digest_r3 ++ (wsX4_digest_r4 ++ (wsX4_digest_r5 ++ (wsX4_digest_r6 ++ (wsX4_digest_r7 ++ (wsX4_digest_r8 ++ (wsX4_digest_r9 ++ (wsX4_digest_r10 ++ (wsX4_digest_r11 ++ wsX4_digest_r12))))))))))) ++ wsX40 ++ wsX20 ++ wsX10 ++ wsX00 ++ wsX30 ++ (vx_atS RX4 83 "java/lang/IllegalArgumentException" ["java/lang/RuntimeException", "java/lang/Exception"]).filter goodWord ++ (vx_atS RX4 56 "java/lang/IndexOutOfBoundsException" ["java/lang/RuntimeException", "java/lang/Exception"]).filter goodWord)
def wsX5_init : List Cond := .code yX5_init cX5_init 1 none :: ([.methodLink RX5 1 objectInit, .instanceMethod objectInit, .code objectInit ⟨#[0xb1]⟩ 1 none, .arrayClass .int, .fieldLink RX5 7 "WireLoomModel" "s" "[I", .arrayClass .boolean, .fieldLink RX5 13 "WireLoomModel" "isKept" "[Z", .fieldLink RX5 17 "WireLoomModel" "text" "[I", .fieldLink RX5 20 "WireLoomModel" "words" "[I"] ++ wsX50)
def wsX5_thrown : List Cond := .code yX5_thrown cX5_thrown 1 (some .int) :: ([.fieldLink RX5 23 "WireLoomModel" "thrown" "I"] ++ wsX50)
def wsX5_in : List Cond := .code yX5_in cX5_in 3 (some .boolean) :: ([])
def wsX5_holds : List Cond := .code yX5_holds cX5_holds 2 (some .boolean) :: ([.fieldLink RX5 23 "WireLoomModel" "thrown" "I"] ++ wsX50)
def wsX5_has : List Cond := .code yX5_has cX5_has 2 (some .boolean) :: ([])
def wsX5_ones : List Cond := .code yX5_ones cX5_ones 3 (some .int) :: ([])
def wsX5_isThread : List Cond := .code yX5_isThread cX5_isThread 1 (some .boolean) :: ([.methodLink RX5 27 yX5_in, .static yX5_in, .initialized RX5, .code yX5_in cX5_in 3 (some .boolean)])
def wsX5_isRing : List Cond := .code yX5_isRing cX5_isRing 1 (some .boolean) :: ([.methodLink RX5 27 yX5_in, .static yX5_in, .initialized RX5, .code yX5_in cX5_in 3 (some .boolean)])
def wsX5_reached : List Cond := .code yX5_reached cX5_reached 9 (some .int) :: ([.fieldLink RX5 7 "WireLoomModel" "s" "[I", .methodLink RX5 31 yX5_has, .static yX5_has, .initialized RX5, .code yX5_has cX5_has 2 (some .boolean)] ++ wsX50)
def wsX5_hopsTo : List Cond := .code yX5_hopsTo cX5_hopsTo 5 (some .int) :: ([.methodLink RX5 35 yX5_reached, .instanceMethod yX5_reached, .selects RX5 yX5_reached yX5_reached, .initialized RX5, .code yX5_reached cX5_reached 9 (some .int), .fieldLink RX5 7 "WireLoomModel" "s" "[I", .methodLink RX5 31 yX5_has, .static yX5_has, .code yX5_has cX5_has 2 (some .boolean)] ++ wsX50)
def wsX5_strengthIn : List Cond := .code yX5_strengthIn cX5_strengthIn 7 (some .int) :: ([.fieldLink RX5 7 "WireLoomModel" "s" "[I", .methodLink RX5 39 yX5_hopsTo, .instanceMethod yX5_hopsTo, .selects RX5 yX5_hopsTo yX5_hopsTo, .initialized RX5, .code yX5_hopsTo cX5_hopsTo 5 (some .int), .methodLink RX5 35 yX5_reached, .instanceMethod yX5_reached, .selects RX5 yX5_reached yX5_reached, .code yX5_reached cX5_reached 9 (some .int), .methodLink RX5 31 yX5_has, .static yX5_has, .code yX5_has cX5_has 2 (some .boolean)] ++ wsX50)
def wsX5_answers : List Cond := .code yX5_answers cX5_answers 5 (some .int) :: ([.fieldLink RX5 7 "WireLoomModel" "s" "[I", .methodLink RX5 42 yX5_strengthIn, .instanceMethod yX5_strengthIn, .selects RX5 yX5_strengthIn yX5_strengthIn, .initialized RX5, .code yX5_strengthIn cX5_strengthIn 7 (some .int), .methodLink RX5 39 yX5_hopsTo, .instanceMethod yX5_hopsTo, .selects RX5 yX5_hopsTo yX5_hopsTo, .code yX5_hopsTo cX5_hopsTo 5 (some .int), .methodLink RX5 35 yX5_reached, .instanceMethod yX5_reached, .selects RX5 yX5_reached yX5_reached, .code yX5_reached cX5_reached 9 (some .int), .methodLink RX5 31 yX5_has, .static yX5_has, .code yX5_has cX5_has 2 (some .boolean)] ++ wsX50)
def wsX5_turned : List Cond := .code yX5_turned cX5_turned 3 (some .int) :: ([.fieldLink RX5 7 "WireLoomModel" "s" "[I"] ++ wsX50)
def wsX5_wordOf_r1 : List Cond := [Cond.methodLink RX5 45 yX5_answers, Cond.instanceMethod yX5_answers, Cond.selects RX5 yX5_answers yX5_answers, Cond.initialized RX5, Cond.code yX5_answers cX5_answers 5 (some .int), Cond.fieldLink RX5 7 "WireLoomModel" "s" "[I", Cond.methodLink RX5 42 yX5_strengthIn, Cond.instanceMethod yX5_strengthIn, Cond.selects RX5 yX5_strengthIn yX5_strengthIn, Cond.code yX5_strengthIn cX5_strengthIn 7 (some .int), Cond.methodLink RX5 39 yX5_hopsTo, Cond.instanceMethod yX5_hopsTo, Cond.selects RX5 yX5_hopsTo yX5_hopsTo, Cond.code yX5_hopsTo cX5_hopsTo 5 (some .int), Cond.methodLink RX5 35 yX5_reached, Cond.instanceMethod yX5_reached, Cond.selects RX5 yX5_reached yX5_reached, Cond.code yX5_reached cX5_reached 9 (some .int), Cond.methodLink RX5 31 yX5_has, Cond.static yX5_has, Cond.code yX5_has cX5_has 2 (some .boolean), Cond.methodLink RX5 49 yX5_turned, Cond.instanceMethod yX5_turned, Cond.selects RX5 yX5_turned yX5_turned]
def wsX5_wordOf_r2 : List Cond := [Cond.code yX5_turned cX5_turned 3 (some .int)]
def wsX5_wordOf : List Cond := .code yX5_wordOf cX5_wordOf 3 (some .int) :: ((wsX5_wordOf_r1 ++ wsX5_wordOf_r2) ++ wsX50)
def wsX5_meant : List Cond := .code yX5_meant cX5_meant 3 (some .int) :: ([.fieldLink RX5 7 "WireLoomModel" "s" "[I", .methodLink RX5 49 yX5_turned, .instanceMethod yX5_turned, .selects RX5 yX5_turned yX5_turned, .initialized RX5, .code yX5_turned cX5_turned 3 (some .int)] ++ wsX50)
def wsX5_wears : List Cond := .code yX5_wears cX5_wears 5 none :: ([.fieldLink RX5 7 "WireLoomModel" "s" "[I"] ++ wsX50)
def wsX5_reads_r1 : List Cond := [Cond.fieldLink RX5 7 "WireLoomModel" "s" "[I", Cond.methodLink RX5 52 yX5_wordOf, Cond.instanceMethod yX5_wordOf, Cond.selects RX5 yX5_wordOf yX5_wordOf, Cond.initialized RX5, Cond.code yX5_wordOf cX5_wordOf 3 (some .int), Cond.methodLink RX5 45 yX5_answers, Cond.instanceMethod yX5_answers, Cond.selects RX5 yX5_answers yX5_answers, Cond.code yX5_answers cX5_answers 5 (some .int), Cond.methodLink RX5 42 yX5_strengthIn, Cond.instanceMethod yX5_strengthIn, Cond.selects RX5 yX5_strengthIn yX5_strengthIn, Cond.code yX5_strengthIn cX5_strengthIn 7 (some .int), Cond.methodLink RX5 39 yX5_hopsTo, Cond.instanceMethod yX5_hopsTo, Cond.selects RX5 yX5_hopsTo yX5_hopsTo, Cond.code yX5_hopsTo cX5_hopsTo 5 (some .int), Cond.methodLink RX5 35 yX5_reached, Cond.instanceMethod yX5_reached, Cond.selects RX5 yX5_reached yX5_reached, Cond.code yX5_reached cX5_reached 9 (some .int), Cond.methodLink RX5 31 yX5_has, Cond.static yX5_has]
def wsX5_reads_r2 : List Cond := [Cond.code yX5_has cX5_has 2 (some .boolean), Cond.methodLink RX5 49 yX5_turned, Cond.instanceMethod yX5_turned, Cond.selects RX5 yX5_turned yX5_turned, Cond.code yX5_turned cX5_turned 3 (some .int), Cond.methodLink RX5 55 yX5_wears, Cond.instanceMethod yX5_wears, Cond.selects RX5 yX5_wears yX5_wears, Cond.code yX5_wears cX5_wears 5 none]
def wsX5_reads : List Cond := .code yX5_reads cX5_reads 5 (some .int) :: ((wsX5_reads_r1 ++ wsX5_reads_r2) ++ wsX50)
def wsX5_lays : List Cond := .code yX5_lays cX5_lays 6 (some .int) :: ([.fieldLink RX5 7 "WireLoomModel" "s" "[I", .methodLink RX5 49 yX5_turned, .instanceMethod yX5_turned, .selects RX5 yX5_turned yX5_turned, .initialized RX5, .code yX5_turned cX5_turned 3 (some .int), .methodLink RX5 31 yX5_has, .static yX5_has, .code yX5_has cX5_has 2 (some .boolean), .methodLink RX5 55 yX5_wears, .instanceMethod yX5_wears, .selects RX5 yX5_wears yX5_wears, .code yX5_wears cX5_wears 5 none, .methodLink RX5 59 yX5_ones, .static yX5_ones, .code yX5_ones cX5_ones 3 (some .int)] ++ wsX50)
def wsX5_crossings : List Cond := .code yX5_crossings cX5_crossings 4 (some .int) :: ([.fieldLink RX5 7 "WireLoomModel" "s" "[I", .methodLink RX5 59 yX5_ones, .static yX5_ones, .initialized RX5, .code yX5_ones cX5_ones 3 (some .int)] ++ wsX50)
def wsX5_right_r1 : List Cond := [Cond.methodLink RX5 52 yX5_wordOf, Cond.instanceMethod yX5_wordOf, Cond.selects RX5 yX5_wordOf yX5_wordOf, Cond.initialized RX5, Cond.code yX5_wordOf cX5_wordOf 3 (some .int), Cond.methodLink RX5 45 yX5_answers, Cond.instanceMethod yX5_answers, Cond.selects RX5 yX5_answers yX5_answers, Cond.code yX5_answers cX5_answers 5 (some .int), Cond.fieldLink RX5 7 "WireLoomModel" "s" "[I", Cond.methodLink RX5 42 yX5_strengthIn, Cond.instanceMethod yX5_strengthIn, Cond.selects RX5 yX5_strengthIn yX5_strengthIn, Cond.code yX5_strengthIn cX5_strengthIn 7 (some .int), Cond.methodLink RX5 39 yX5_hopsTo, Cond.instanceMethod yX5_hopsTo, Cond.selects RX5 yX5_hopsTo yX5_hopsTo, Cond.code yX5_hopsTo cX5_hopsTo 5 (some .int), Cond.methodLink RX5 35 yX5_reached, Cond.instanceMethod yX5_reached, Cond.selects RX5 yX5_reached yX5_reached, Cond.code yX5_reached cX5_reached 9 (some .int), Cond.methodLink RX5 31 yX5_has, Cond.static yX5_has]
def wsX5_right_r2 : List Cond := [Cond.code yX5_has cX5_has 2 (some .boolean), Cond.methodLink RX5 49 yX5_turned, Cond.instanceMethod yX5_turned, Cond.selects RX5 yX5_turned yX5_turned, Cond.code yX5_turned cX5_turned 3 (some .int), Cond.methodLink RX5 63 yX5_meant, Cond.instanceMethod yX5_meant, Cond.selects RX5 yX5_meant yX5_meant, Cond.code yX5_meant cX5_meant 3 (some .int)]
def wsX5_right : List Cond := .code yX5_right cX5_right 4 (some .int) :: ((wsX5_right_r1 ++ wsX5_right_r2) ++ wsX50)
def wsX5_tells : List Cond := .code yX5_tells cX5_tells 3 none :: ([.fieldLink RX5 7 "WireLoomModel" "s" "[I"] ++ wsX50)
def wsX5_steps_r1 : List Cond := [Cond.fieldLink RX5 7 "WireLoomModel" "s" "[I", Cond.methodLink RX5 66 yX5_reads, Cond.instanceMethod yX5_reads, Cond.selects RX5 yX5_reads yX5_reads, Cond.initialized RX5, Cond.code yX5_reads cX5_reads 5 (some .int), Cond.methodLink RX5 52 yX5_wordOf, Cond.instanceMethod yX5_wordOf, Cond.selects RX5 yX5_wordOf yX5_wordOf, Cond.code yX5_wordOf cX5_wordOf 3 (some .int), Cond.methodLink RX5 45 yX5_answers, Cond.instanceMethod yX5_answers, Cond.selects RX5 yX5_answers yX5_answers, Cond.code yX5_answers cX5_answers 5 (some .int), Cond.methodLink RX5 42 yX5_strengthIn, Cond.instanceMethod yX5_strengthIn, Cond.selects RX5 yX5_strengthIn yX5_strengthIn, Cond.code yX5_strengthIn cX5_strengthIn 7 (some .int), Cond.methodLink RX5 39 yX5_hopsTo, Cond.instanceMethod yX5_hopsTo, Cond.selects RX5 yX5_hopsTo yX5_hopsTo, Cond.code yX5_hopsTo cX5_hopsTo 5 (some .int), Cond.methodLink RX5 35 yX5_reached, Cond.instanceMethod yX5_reached]
def wsX5_steps_r2 : List Cond := [Cond.selects RX5 yX5_reached yX5_reached, Cond.code yX5_reached cX5_reached 9 (some .int), Cond.methodLink RX5 31 yX5_has, Cond.static yX5_has, Cond.code yX5_has cX5_has 2 (some .boolean), Cond.methodLink RX5 49 yX5_turned, Cond.instanceMethod yX5_turned, Cond.selects RX5 yX5_turned yX5_turned, Cond.code yX5_turned cX5_turned 3 (some .int), Cond.methodLink RX5 55 yX5_wears, Cond.instanceMethod yX5_wears, Cond.selects RX5 yX5_wears yX5_wears, Cond.code yX5_wears cX5_wears 5 none, Cond.methodLink RX5 69 yX5_tells, Cond.instanceMethod yX5_tells, Cond.selects RX5 yX5_tells yX5_tells, Cond.code yX5_tells cX5_tells 3 none]
def wsX5_steps : List Cond := .code yX5_steps cX5_steps 5 none :: ((wsX5_steps_r1 ++ wsX5_steps_r2) ++ wsX50)
def wsX5_goes_r1 : List Cond := [Cond.fieldLink RX5 7 "WireLoomModel" "s" "[I", Cond.methodLink RX5 73 yX5_steps, Cond.instanceMethod yX5_steps, Cond.selects RX5 yX5_steps yX5_steps, Cond.initialized RX5, Cond.code yX5_steps cX5_steps 5 none, Cond.methodLink RX5 66 yX5_reads, Cond.instanceMethod yX5_reads, Cond.selects RX5 yX5_reads yX5_reads, Cond.code yX5_reads cX5_reads 5 (some .int), Cond.methodLink RX5 52 yX5_wordOf, Cond.instanceMethod yX5_wordOf, Cond.selects RX5 yX5_wordOf yX5_wordOf, Cond.code yX5_wordOf cX5_wordOf 3 (some .int), Cond.methodLink RX5 45 yX5_answers, Cond.instanceMethod yX5_answers, Cond.selects RX5 yX5_answers yX5_answers, Cond.code yX5_answers cX5_answers 5 (some .int), Cond.methodLink RX5 42 yX5_strengthIn, Cond.instanceMethod yX5_strengthIn, Cond.selects RX5 yX5_strengthIn yX5_strengthIn, Cond.code yX5_strengthIn cX5_strengthIn 7 (some .int), Cond.methodLink RX5 39 yX5_hopsTo, Cond.instanceMethod yX5_hopsTo]
def wsX5_goes_r2 : List Cond := [Cond.selects RX5 yX5_hopsTo yX5_hopsTo, Cond.code yX5_hopsTo cX5_hopsTo 5 (some .int), Cond.methodLink RX5 35 yX5_reached, Cond.instanceMethod yX5_reached, Cond.selects RX5 yX5_reached yX5_reached, Cond.code yX5_reached cX5_reached 9 (some .int), Cond.methodLink RX5 31 yX5_has, Cond.static yX5_has, Cond.code yX5_has cX5_has 2 (some .boolean), Cond.methodLink RX5 49 yX5_turned, Cond.instanceMethod yX5_turned, Cond.selects RX5 yX5_turned yX5_turned, Cond.code yX5_turned cX5_turned 3 (some .int), Cond.methodLink RX5 55 yX5_wears, Cond.instanceMethod yX5_wears, Cond.selects RX5 yX5_wears yX5_wears, Cond.code yX5_wears cX5_wears 5 none, Cond.methodLink RX5 69 yX5_tells, Cond.instanceMethod yX5_tells, Cond.selects RX5 yX5_tells yX5_tells, Cond.code yX5_tells cX5_tells 3 none]
def wsX5_goes : List Cond := .code yX5_goes cX5_goes 4 (some .int) :: ((wsX5_goes_r1 ++ wsX5_goes_r2) ++ wsX50)
def wsX5_copies : List Cond := .code yX5_copies cX5_copies 4 none :: ([.fieldLink RX5 7 "WireLoomModel" "s" "[I"] ++ wsX50)
def wsX5_save : List Cond := .code yX5_save cX5_save 2 none :: ([.fieldLink RX5 76 "WireLoomModel" "saved" "I", .methodLink RX5 79 yX5_copies, .instanceMethod yX5_copies, .selects RX5 yX5_copies yX5_copies, .initialized RX5, .code yX5_copies cX5_copies 4 none, .fieldLink RX5 7 "WireLoomModel" "s" "[I"] ++ wsX50)
def wsX5_cross_r1 : List Cond := [Cond.fieldLink RX5 7 "WireLoomModel" "s" "[I", Cond.methodLink RX5 83 yX5_isThread, Cond.static yX5_isThread, Cond.initialized RX5, Cond.code yX5_isThread cX5_isThread 1 (some .boolean), Cond.methodLink RX5 27 yX5_in, Cond.static yX5_in, Cond.code yX5_in cX5_in 3 (some .boolean), Cond.methodLink RX5 87 yX5_isRing, Cond.static yX5_isRing, Cond.code yX5_isRing cX5_isRing 1 (some .boolean), Cond.methodLink RX5 90 yX5_holds, Cond.instanceMethod yX5_holds, Cond.selects RX5 yX5_holds yX5_holds, Cond.code yX5_holds cX5_holds 2 (some .boolean), Cond.fieldLink RX5 23 "WireLoomModel" "thrown" "I", Cond.methodLink RX5 93 yX5_save, Cond.instanceMethod yX5_save, Cond.selects RX5 yX5_save yX5_save, Cond.code yX5_save cX5_save 2 none, Cond.fieldLink RX5 76 "WireLoomModel" "saved" "I", Cond.methodLink RX5 79 yX5_copies, Cond.instanceMethod yX5_copies, Cond.selects RX5 yX5_copies yX5_copies]
def wsX5_cross_r2 : List Cond := [Cond.code yX5_copies cX5_copies 4 none, Cond.methodLink RX5 55 yX5_wears, Cond.instanceMethod yX5_wears, Cond.selects RX5 yX5_wears yX5_wears, Cond.code yX5_wears cX5_wears 5 none]
def wsX5_cross : List Cond := .code yX5_cross cX5_cross 3 (some .int) :: ((wsX5_cross_r1 ++ wsX5_cross_r2) ++ wsX50)
def wsX5_lay_r1 : List Cond := [Cond.methodLink RX5 83 yX5_isThread, Cond.static yX5_isThread, Cond.initialized RX5, Cond.code yX5_isThread cX5_isThread 1 (some .boolean), Cond.methodLink RX5 27 yX5_in, Cond.static yX5_in, Cond.code yX5_in cX5_in 3 (some .boolean), Cond.methodLink RX5 90 yX5_holds, Cond.instanceMethod yX5_holds, Cond.selects RX5 yX5_holds yX5_holds, Cond.code yX5_holds cX5_holds 2 (some .boolean), Cond.fieldLink RX5 23 "WireLoomModel" "thrown" "I", Cond.methodLink RX5 93 yX5_save, Cond.instanceMethod yX5_save, Cond.selects RX5 yX5_save yX5_save, Cond.code yX5_save cX5_save 2 none, Cond.fieldLink RX5 76 "WireLoomModel" "saved" "I", Cond.methodLink RX5 79 yX5_copies, Cond.instanceMethod yX5_copies, Cond.selects RX5 yX5_copies yX5_copies, Cond.code yX5_copies cX5_copies 4 none, Cond.fieldLink RX5 7 "WireLoomModel" "s" "[I", Cond.methodLink RX5 96 yX5_lays, Cond.instanceMethod yX5_lays]
def wsX5_lay_r2 : List Cond := [Cond.selects RX5 yX5_lays yX5_lays, Cond.code yX5_lays cX5_lays 6 (some .int), Cond.methodLink RX5 49 yX5_turned, Cond.instanceMethod yX5_turned, Cond.selects RX5 yX5_turned yX5_turned, Cond.code yX5_turned cX5_turned 3 (some .int), Cond.methodLink RX5 31 yX5_has, Cond.static yX5_has, Cond.code yX5_has cX5_has 2 (some .boolean), Cond.methodLink RX5 55 yX5_wears, Cond.instanceMethod yX5_wears, Cond.selects RX5 yX5_wears yX5_wears, Cond.code yX5_wears cX5_wears 5 none, Cond.methodLink RX5 59 yX5_ones, Cond.static yX5_ones, Cond.code yX5_ones cX5_ones 3 (some .int)]
def wsX5_lay : List Cond := .code yX5_lay cX5_lay 3 (some .int) :: ((wsX5_lay_r1 ++ wsX5_lay_r2) ++ wsX50)
def wsX5_guard : List Cond := .code yX5_guard cX5_guard 2 (some .int) :: ([.fieldLink RX5 7 "WireLoomModel" "s" "[I", .methodLink RX5 83 yX5_isThread, .static yX5_isThread, .initialized RX5, .code yX5_isThread cX5_isThread 1 (some .boolean), .methodLink RX5 27 yX5_in, .static yX5_in, .code yX5_in cX5_in 3 (some .boolean), .methodLink RX5 90 yX5_holds, .instanceMethod yX5_holds, .selects RX5 yX5_holds yX5_holds, .code yX5_holds cX5_holds 2 (some .boolean), .fieldLink RX5 23 "WireLoomModel" "thrown" "I", .methodLink RX5 93 yX5_save, .instanceMethod yX5_save, .selects RX5 yX5_save yX5_save, .code yX5_save cX5_save 2 none, .fieldLink RX5 76 "WireLoomModel" "saved" "I", .methodLink RX5 79 yX5_copies, .instanceMethod yX5_copies, .selects RX5 yX5_copies yX5_copies, .code yX5_copies cX5_copies 4 none] ++ wsX50)
def wsX5_threadsOf : List Cond := .code yX5_threadsOf cX5_threadsOf 4 (some .int) :: ([.fieldLink RX5 7 "WireLoomModel" "s" "[I", .methodLink RX5 31 yX5_has, .static yX5_has, .initialized RX5, .code yX5_has cX5_has 2 (some .boolean)] ++ wsX50)
def wsX5_change_r1 : List Cond := [Cond.fieldLink RX5 7 "WireLoomModel" "s" "[I", Cond.methodLink RX5 87 yX5_isRing, Cond.static yX5_isRing, Cond.initialized RX5, Cond.code yX5_isRing cX5_isRing 1 (some .boolean), Cond.methodLink RX5 27 yX5_in, Cond.static yX5_in, Cond.code yX5_in cX5_in 3 (some .boolean), Cond.methodLink RX5 90 yX5_holds, Cond.instanceMethod yX5_holds, Cond.selects RX5 yX5_holds yX5_holds, Cond.code yX5_holds cX5_holds 2 (some .boolean), Cond.fieldLink RX5 23 "WireLoomModel" "thrown" "I", Cond.methodLink RX5 93 yX5_save, Cond.instanceMethod yX5_save, Cond.selects RX5 yX5_save yX5_save, Cond.code yX5_save cX5_save 2 none, Cond.fieldLink RX5 76 "WireLoomModel" "saved" "I", Cond.methodLink RX5 79 yX5_copies, Cond.instanceMethod yX5_copies, Cond.selects RX5 yX5_copies yX5_copies, Cond.code yX5_copies cX5_copies 4 none, Cond.methodLink RX5 99 yX5_threadsOf, Cond.instanceMethod yX5_threadsOf]
def wsX5_change_r2 : List Cond := [Cond.selects RX5 yX5_threadsOf yX5_threadsOf, Cond.code yX5_threadsOf cX5_threadsOf 4 (some .int), Cond.methodLink RX5 31 yX5_has, Cond.static yX5_has, Cond.code yX5_has cX5_has 2 (some .boolean), Cond.methodLink RX5 59 yX5_ones, Cond.static yX5_ones, Cond.code yX5_ones cX5_ones 3 (some .int)]
def wsX5_change : List Cond := .code yX5_change cX5_change 4 (some .int) :: ((wsX5_change_r1 ++ wsX5_change_r2) ++ wsX50)
def wsX5_set : List Cond := .code yX5_set cX5_set 4 (some .int) :: ([.fieldLink RX5 7 "WireLoomModel" "s" "[I", .methodLink RX5 27 yX5_in, .static yX5_in, .initialized RX5, .code yX5_in cX5_in 3 (some .boolean), .methodLink RX5 90 yX5_holds, .instanceMethod yX5_holds, .selects RX5 yX5_holds yX5_holds, .code yX5_holds cX5_holds 2 (some .boolean), .fieldLink RX5 23 "WireLoomModel" "thrown" "I", .methodLink RX5 93 yX5_save, .instanceMethod yX5_save, .selects RX5 yX5_save yX5_save, .code yX5_save cX5_save 2 none, .fieldLink RX5 76 "WireLoomModel" "saved" "I", .methodLink RX5 79 yX5_copies, .instanceMethod yX5_copies, .selects RX5 yX5_copies yX5_copies, .code yX5_copies cX5_copies 4 none] ++ wsX50)
def wsX5_read_r1 : List Cond := [Cond.methodLink RX5 83 yX5_isThread, Cond.static yX5_isThread, Cond.initialized RX5, Cond.code yX5_isThread cX5_isThread 1 (some .boolean), Cond.methodLink RX5 27 yX5_in, Cond.static yX5_in, Cond.code yX5_in cX5_in 3 (some .boolean), Cond.methodLink RX5 90 yX5_holds, Cond.instanceMethod yX5_holds, Cond.selects RX5 yX5_holds yX5_holds, Cond.code yX5_holds cX5_holds 2 (some .boolean), Cond.fieldLink RX5 23 "WireLoomModel" "thrown" "I", Cond.methodLink RX5 93 yX5_save, Cond.instanceMethod yX5_save, Cond.selects RX5 yX5_save yX5_save, Cond.code yX5_save cX5_save 2 none, Cond.fieldLink RX5 76 "WireLoomModel" "saved" "I", Cond.methodLink RX5 79 yX5_copies, Cond.instanceMethod yX5_copies, Cond.selects RX5 yX5_copies yX5_copies, Cond.code yX5_copies cX5_copies 4 none, Cond.fieldLink RX5 7 "WireLoomModel" "s" "[I", Cond.methodLink RX5 66 yX5_reads, Cond.instanceMethod yX5_reads]
def wsX5_read_r2 : List Cond := [Cond.selects RX5 yX5_reads yX5_reads, Cond.code yX5_reads cX5_reads 5 (some .int), Cond.methodLink RX5 52 yX5_wordOf, Cond.instanceMethod yX5_wordOf, Cond.selects RX5 yX5_wordOf yX5_wordOf, Cond.code yX5_wordOf cX5_wordOf 3 (some .int), Cond.methodLink RX5 45 yX5_answers, Cond.instanceMethod yX5_answers, Cond.selects RX5 yX5_answers yX5_answers, Cond.code yX5_answers cX5_answers 5 (some .int), Cond.methodLink RX5 42 yX5_strengthIn, Cond.instanceMethod yX5_strengthIn, Cond.selects RX5 yX5_strengthIn yX5_strengthIn, Cond.code yX5_strengthIn cX5_strengthIn 7 (some .int), Cond.methodLink RX5 39 yX5_hopsTo, Cond.instanceMethod yX5_hopsTo, Cond.selects RX5 yX5_hopsTo yX5_hopsTo, Cond.code yX5_hopsTo cX5_hopsTo 5 (some .int), Cond.methodLink RX5 35 yX5_reached, Cond.instanceMethod yX5_reached, Cond.selects RX5 yX5_reached yX5_reached, Cond.code yX5_reached cX5_reached 9 (some .int), Cond.methodLink RX5 31 yX5_has, Cond.static yX5_has]
def wsX5_read_r3 : List Cond := [Cond.code yX5_has cX5_has 2 (some .boolean), Cond.methodLink RX5 49 yX5_turned, Cond.instanceMethod yX5_turned, Cond.selects RX5 yX5_turned yX5_turned, Cond.code yX5_turned cX5_turned 3 (some .int), Cond.methodLink RX5 55 yX5_wears, Cond.instanceMethod yX5_wears, Cond.selects RX5 yX5_wears yX5_wears, Cond.code yX5_wears cX5_wears 5 none]
def wsX5_read : List Cond := .code yX5_read cX5_read 2 (some .int) :: ((wsX5_read_r1 ++ (wsX5_read_r2 ++ wsX5_read_r3)) ++ wsX50)
def wsX5_start : List Cond := .code yX5_start cX5_start 3 (some .int) :: ([.fieldLink RX5 23 "WireLoomModel" "thrown" "I", .fieldLink RX5 7 "WireLoomModel" "s" "[I", .methodLink RX5 93 yX5_save, .instanceMethod yX5_save, .selects RX5 yX5_save yX5_save, .initialized RX5, .code yX5_save cX5_save 2 none, .fieldLink RX5 76 "WireLoomModel" "saved" "I", .methodLink RX5 79 yX5_copies, .instanceMethod yX5_copies, .selects RX5 yX5_copies yX5_copies, .code yX5_copies cX5_copies 4 none] ++ wsX50)
def wsX5_go_r1 : List Cond := [Cond.methodLink RX5 27 yX5_in, Cond.static yX5_in, Cond.initialized RX5, Cond.code yX5_in cX5_in 3 (some .boolean), Cond.methodLink RX5 90 yX5_holds, Cond.instanceMethod yX5_holds, Cond.selects RX5 yX5_holds yX5_holds, Cond.code yX5_holds cX5_holds 2 (some .boolean), Cond.fieldLink RX5 23 "WireLoomModel" "thrown" "I", Cond.methodLink RX5 93 yX5_save, Cond.instanceMethod yX5_save, Cond.selects RX5 yX5_save yX5_save, Cond.code yX5_save cX5_save 2 none, Cond.fieldLink RX5 76 "WireLoomModel" "saved" "I", Cond.methodLink RX5 79 yX5_copies, Cond.instanceMethod yX5_copies, Cond.selects RX5 yX5_copies yX5_copies, Cond.code yX5_copies cX5_copies 4 none, Cond.fieldLink RX5 7 "WireLoomModel" "s" "[I", Cond.methodLink RX5 102 yX5_goes, Cond.instanceMethod yX5_goes, Cond.selects RX5 yX5_goes yX5_goes, Cond.code yX5_goes cX5_goes 4 (some .int), Cond.methodLink RX5 73 yX5_steps]
def wsX5_go_r2 : List Cond := [Cond.instanceMethod yX5_steps, Cond.selects RX5 yX5_steps yX5_steps, Cond.code yX5_steps cX5_steps 5 none, Cond.methodLink RX5 66 yX5_reads, Cond.instanceMethod yX5_reads, Cond.selects RX5 yX5_reads yX5_reads, Cond.code yX5_reads cX5_reads 5 (some .int), Cond.methodLink RX5 52 yX5_wordOf, Cond.instanceMethod yX5_wordOf, Cond.selects RX5 yX5_wordOf yX5_wordOf, Cond.code yX5_wordOf cX5_wordOf 3 (some .int), Cond.methodLink RX5 45 yX5_answers, Cond.instanceMethod yX5_answers, Cond.selects RX5 yX5_answers yX5_answers, Cond.code yX5_answers cX5_answers 5 (some .int), Cond.methodLink RX5 42 yX5_strengthIn, Cond.instanceMethod yX5_strengthIn, Cond.selects RX5 yX5_strengthIn yX5_strengthIn, Cond.code yX5_strengthIn cX5_strengthIn 7 (some .int), Cond.methodLink RX5 39 yX5_hopsTo, Cond.instanceMethod yX5_hopsTo, Cond.selects RX5 yX5_hopsTo yX5_hopsTo, Cond.code yX5_hopsTo cX5_hopsTo 5 (some .int), Cond.methodLink RX5 35 yX5_reached]
def wsX5_go_r3 : List Cond := [Cond.instanceMethod yX5_reached, Cond.selects RX5 yX5_reached yX5_reached, Cond.code yX5_reached cX5_reached 9 (some .int), Cond.methodLink RX5 31 yX5_has, Cond.static yX5_has, Cond.code yX5_has cX5_has 2 (some .boolean), Cond.methodLink RX5 49 yX5_turned, Cond.instanceMethod yX5_turned, Cond.selects RX5 yX5_turned yX5_turned, Cond.code yX5_turned cX5_turned 3 (some .int), Cond.methodLink RX5 55 yX5_wears, Cond.instanceMethod yX5_wears, Cond.selects RX5 yX5_wears yX5_wears, Cond.code yX5_wears cX5_wears 5 none, Cond.methodLink RX5 69 yX5_tells, Cond.instanceMethod yX5_tells, Cond.selects RX5 yX5_tells yX5_tells, Cond.code yX5_tells cX5_tells 3 none]
def wsX5_go : List Cond := .code yX5_go cX5_go 2 (some .int) :: ((wsX5_go_r1 ++ (wsX5_go_r2 ++ wsX5_go_r3)) ++ wsX50)
def wsX5_append : List Cond := .code yX5_append cX5_append 2 (some .int) :: ([.fieldLink RX5 105 "WireLoomModel" "length" "I", .fieldLink RX5 17 "WireLoomModel" "text" "[I", .methodLink RX5 27 yX5_in, .static yX5_in, .initialized RX5, .code yX5_in cX5_in 3 (some .boolean), .methodLink RX5 90 yX5_holds, .instanceMethod yX5_holds, .selects RX5 yX5_holds yX5_holds, .code yX5_holds cX5_holds 2 (some .boolean), .fieldLink RX5 23 "WireLoomModel" "thrown" "I"] ++ wsX50)
def wsX5_clearBuffer : List Cond := .code yX5_clearBuffer cX5_clearBuffer 2 (some .int) :: ([.fieldLink RX5 23 "WireLoomModel" "thrown" "I", .fieldLink RX5 105 "WireLoomModel" "length" "I"] ++ wsX50)
def wsX5_digit : List Cond := .code yX5_digit cX5_digit 3 (some .int) :: ([.fieldLink RX5 108 "WireLoomModel" "at" "I", .fieldLink RX5 105 "WireLoomModel" "length" "I", .fieldLink RX5 17 "WireLoomModel" "text" "[I", .methodLink RX5 27 yX5_in, .static yX5_in, .initialized RX5, .code yX5_in cX5_in 3 (some .boolean)] ++ wsX50)
def wsX5_isWord : List Cond := .code yX5_isWord cX5_isWord 3 (some .boolean) :: ([.fieldLink RX5 20 "WireLoomModel" "words" "[I", .fieldLink RX5 115 "WireLoomModel" "many" "I", .methodLink RX5 111 yX5_digit, .instanceMethod yX5_digit, .selects RX5 yX5_digit yX5_digit, .initialized RX5, .code yX5_digit cX5_digit 3 (some .int), .fieldLink RX5 108 "WireLoomModel" "at" "I", .fieldLink RX5 105 "WireLoomModel" "length" "I", .fieldLink RX5 17 "WireLoomModel" "text" "[I", .methodLink RX5 27 yX5_in, .static yX5_in, .code yX5_in cX5_in 3 (some .boolean)] ++ wsX50)
def wsX5_isProgram : List Cond := .code yX5_isProgram cX5_isProgram 1 (some .boolean) :: ([.fieldLink RX5 108 "WireLoomModel" "at" "I", .fieldLink RX5 115 "WireLoomModel" "many" "I", .fieldLink RX5 105 "WireLoomModel" "length" "I", .fieldLink RX5 17 "WireLoomModel" "text" "[I", .methodLink RX5 118 yX5_isWord, .instanceMethod yX5_isWord, .selects RX5 yX5_isWord yX5_isWord, .initialized RX5, .code yX5_isWord cX5_isWord 3 (some .boolean), .fieldLink RX5 20 "WireLoomModel" "words" "[I", .methodLink RX5 111 yX5_digit, .instanceMethod yX5_digit, .selects RX5 yX5_digit yX5_digit, .code yX5_digit cX5_digit 3 (some .int), .methodLink RX5 27 yX5_in, .static yX5_in, .code yX5_in cX5_in 3 (some .boolean)] ++ wsX50)
def wsX5_firstError : List Cond := .code yX5_firstError cX5_firstError 1 (some .int) :: ([.fieldLink RX5 23 "WireLoomModel" "thrown" "I", .fieldLink RX5 108 "WireLoomModel" "at" "I", .methodLink RX5 122 yX5_isProgram, .instanceMethod yX5_isProgram, .selects RX5 yX5_isProgram yX5_isProgram, .initialized RX5, .code yX5_isProgram cX5_isProgram 1 (some .boolean), .fieldLink RX5 115 "WireLoomModel" "many" "I", .fieldLink RX5 105 "WireLoomModel" "length" "I", .fieldLink RX5 17 "WireLoomModel" "text" "[I", .methodLink RX5 118 yX5_isWord, .instanceMethod yX5_isWord, .selects RX5 yX5_isWord yX5_isWord, .code yX5_isWord cX5_isWord 3 (some .boolean), .fieldLink RX5 20 "WireLoomModel" "words" "[I", .methodLink RX5 111 yX5_digit, .instanceMethod yX5_digit, .selects RX5 yX5_digit yX5_digit, .code yX5_digit cX5_digit 3 (some .int), .methodLink RX5 27 yX5_in, .static yX5_in, .code yX5_in cX5_in 3 (some .boolean)] ++ wsX50)
def wsX5_loads : List Cond := .code yX5_loads cX5_loads 5 (some .int) :: ([.fieldLink RX5 115 "WireLoomModel" "many" "I", .fieldLink RX5 20 "WireLoomModel" "words" "[I", .methodLink RX5 96 yX5_lays, .instanceMethod yX5_lays, .selects RX5 yX5_lays yX5_lays, .initialized RX5, .code yX5_lays cX5_lays 6 (some .int), .fieldLink RX5 7 "WireLoomModel" "s" "[I", .methodLink RX5 49 yX5_turned, .instanceMethod yX5_turned, .selects RX5 yX5_turned yX5_turned, .code yX5_turned cX5_turned 3 (some .int), .methodLink RX5 31 yX5_has, .static yX5_has, .code yX5_has cX5_has 2 (some .boolean), .methodLink RX5 55 yX5_wears, .instanceMethod yX5_wears, .selects RX5 yX5_wears yX5_wears, .code yX5_wears cX5_wears 5 none, .methodLink RX5 59 yX5_ones, .static yX5_ones, .code yX5_ones cX5_ones 3 (some .int)] ++ wsX50)
def wsX5_load_r1 : List Cond := [Cond.fieldLink RX5 105 "WireLoomModel" "length" "I", Cond.methodLink RX5 83 yX5_isThread, Cond.static yX5_isThread, Cond.initialized RX5, Cond.code yX5_isThread cX5_isThread 1 (some .boolean), Cond.methodLink RX5 27 yX5_in, Cond.static yX5_in, Cond.code yX5_in cX5_in 3 (some .boolean), Cond.methodLink RX5 122 yX5_isProgram, Cond.instanceMethod yX5_isProgram, Cond.selects RX5 yX5_isProgram yX5_isProgram, Cond.code yX5_isProgram cX5_isProgram 1 (some .boolean), Cond.fieldLink RX5 108 "WireLoomModel" "at" "I", Cond.fieldLink RX5 115 "WireLoomModel" "many" "I", Cond.fieldLink RX5 17 "WireLoomModel" "text" "[I", Cond.methodLink RX5 118 yX5_isWord, Cond.instanceMethod yX5_isWord, Cond.selects RX5 yX5_isWord yX5_isWord, Cond.code yX5_isWord cX5_isWord 3 (some .boolean), Cond.fieldLink RX5 20 "WireLoomModel" "words" "[I", Cond.methodLink RX5 111 yX5_digit, Cond.instanceMethod yX5_digit, Cond.selects RX5 yX5_digit yX5_digit, Cond.code yX5_digit cX5_digit 3 (some .int)]
def wsX5_load_r2 : List Cond := [Cond.methodLink RX5 90 yX5_holds, Cond.instanceMethod yX5_holds, Cond.selects RX5 yX5_holds yX5_holds, Cond.code yX5_holds cX5_holds 2 (some .boolean), Cond.fieldLink RX5 23 "WireLoomModel" "thrown" "I", Cond.methodLink RX5 93 yX5_save, Cond.instanceMethod yX5_save, Cond.selects RX5 yX5_save yX5_save, Cond.code yX5_save cX5_save 2 none, Cond.fieldLink RX5 76 "WireLoomModel" "saved" "I", Cond.methodLink RX5 79 yX5_copies, Cond.instanceMethod yX5_copies, Cond.selects RX5 yX5_copies yX5_copies, Cond.code yX5_copies cX5_copies 4 none, Cond.fieldLink RX5 7 "WireLoomModel" "s" "[I", Cond.methodLink RX5 125 yX5_loads, Cond.instanceMethod yX5_loads, Cond.selects RX5 yX5_loads yX5_loads, Cond.code yX5_loads cX5_loads 5 (some .int), Cond.methodLink RX5 96 yX5_lays, Cond.instanceMethod yX5_lays, Cond.selects RX5 yX5_lays yX5_lays, Cond.code yX5_lays cX5_lays 6 (some .int), Cond.methodLink RX5 49 yX5_turned]
def wsX5_load_r3 : List Cond := [Cond.instanceMethod yX5_turned, Cond.selects RX5 yX5_turned yX5_turned, Cond.code yX5_turned cX5_turned 3 (some .int), Cond.methodLink RX5 31 yX5_has, Cond.static yX5_has, Cond.code yX5_has cX5_has 2 (some .boolean), Cond.methodLink RX5 55 yX5_wears, Cond.instanceMethod yX5_wears, Cond.selects RX5 yX5_wears yX5_wears, Cond.code yX5_wears cX5_wears 5 none, Cond.methodLink RX5 59 yX5_ones, Cond.static yX5_ones, Cond.code yX5_ones cX5_ones 3 (some .int)]
def wsX5_load : List Cond := .code yX5_load cX5_load 2 (some .int) :: ((wsX5_load_r1 ++ (wsX5_load_r2 ++ wsX5_load_r3)) ++ wsX50)
def wsX5_sign : List Cond := .code yX5_sign cX5_sign 1 (some .int) :: ([])
def wsX5_write_r1 : List Cond := [Cond.fieldLink RX5 105 "WireLoomModel" "length" "I", Cond.fieldLink RX5 17 "WireLoomModel" "text" "[I", Cond.methodLink RX5 83 yX5_isThread, Cond.static yX5_isThread, Cond.initialized RX5, Cond.code yX5_isThread cX5_isThread 1 (some .boolean), Cond.methodLink RX5 27 yX5_in, Cond.static yX5_in, Cond.code yX5_in cX5_in 3 (some .boolean), Cond.methodLink RX5 90 yX5_holds, Cond.instanceMethod yX5_holds, Cond.selects RX5 yX5_holds yX5_holds, Cond.code yX5_holds cX5_holds 2 (some .boolean), Cond.fieldLink RX5 23 "WireLoomModel" "thrown" "I", Cond.methodLink RX5 52 yX5_wordOf, Cond.instanceMethod yX5_wordOf, Cond.selects RX5 yX5_wordOf yX5_wordOf, Cond.code yX5_wordOf cX5_wordOf 3 (some .int), Cond.methodLink RX5 45 yX5_answers, Cond.instanceMethod yX5_answers, Cond.selects RX5 yX5_answers yX5_answers, Cond.code yX5_answers cX5_answers 5 (some .int), Cond.fieldLink RX5 7 "WireLoomModel" "s" "[I", Cond.methodLink RX5 42 yX5_strengthIn]
def wsX5_write_r2 : List Cond := [Cond.instanceMethod yX5_strengthIn, Cond.selects RX5 yX5_strengthIn yX5_strengthIn, Cond.code yX5_strengthIn cX5_strengthIn 7 (some .int), Cond.methodLink RX5 39 yX5_hopsTo, Cond.instanceMethod yX5_hopsTo, Cond.selects RX5 yX5_hopsTo yX5_hopsTo, Cond.code yX5_hopsTo cX5_hopsTo 5 (some .int), Cond.methodLink RX5 35 yX5_reached, Cond.instanceMethod yX5_reached, Cond.selects RX5 yX5_reached yX5_reached, Cond.code yX5_reached cX5_reached 9 (some .int), Cond.methodLink RX5 31 yX5_has, Cond.static yX5_has, Cond.code yX5_has cX5_has 2 (some .boolean), Cond.methodLink RX5 49 yX5_turned, Cond.instanceMethod yX5_turned, Cond.selects RX5 yX5_turned yX5_turned, Cond.code yX5_turned cX5_turned 3 (some .int), Cond.methodLink RX5 128 yX5_sign, Cond.static yX5_sign, Cond.code yX5_sign cX5_sign 1 (some .int)]
def wsX5_write : List Cond := .code yX5_write cX5_write 5 (some .int) :: ((wsX5_write_r1 ++ wsX5_write_r2) ++ wsX50)
def wsX5_keep : List Cond := .code yX5_keep cX5_keep 2 (some .int) :: ([.fieldLink RX5 13 "WireLoomModel" "isKept" "[Z", .methodLink RX5 27 yX5_in, .static yX5_in, .initialized RX5, .code yX5_in cX5_in 3 (some .boolean), .methodLink RX5 90 yX5_holds, .instanceMethod yX5_holds, .selects RX5 yX5_holds yX5_holds, .code yX5_holds cX5_holds 2 (some .boolean), .fieldLink RX5 23 "WireLoomModel" "thrown" "I", .methodLink RX5 79 yX5_copies, .instanceMethod yX5_copies, .selects RX5 yX5_copies yX5_copies, .code yX5_copies cX5_copies 4 none, .fieldLink RX5 7 "WireLoomModel" "s" "[I", .methodLink RX5 131 yX5_crossings, .instanceMethod yX5_crossings, .selects RX5 yX5_crossings yX5_crossings, .code yX5_crossings cX5_crossings 4 (some .int), .methodLink RX5 59 yX5_ones, .static yX5_ones, .code yX5_ones cX5_ones 3 (some .int)] ++ wsX50)
def wsX5_goBack_r1 : List Cond := [Cond.fieldLink RX5 13 "WireLoomModel" "isKept" "[Z", Cond.methodLink RX5 27 yX5_in, Cond.static yX5_in, Cond.initialized RX5, Cond.code yX5_in cX5_in 3 (some .boolean), Cond.methodLink RX5 90 yX5_holds, Cond.instanceMethod yX5_holds, Cond.selects RX5 yX5_holds yX5_holds, Cond.code yX5_holds cX5_holds 2 (some .boolean), Cond.fieldLink RX5 23 "WireLoomModel" "thrown" "I", Cond.methodLink RX5 93 yX5_save, Cond.instanceMethod yX5_save, Cond.selects RX5 yX5_save yX5_save, Cond.code yX5_save cX5_save 2 none, Cond.fieldLink RX5 76 "WireLoomModel" "saved" "I", Cond.methodLink RX5 79 yX5_copies, Cond.instanceMethod yX5_copies, Cond.selects RX5 yX5_copies yX5_copies, Cond.code yX5_copies cX5_copies 4 none, Cond.fieldLink RX5 7 "WireLoomModel" "s" "[I", Cond.methodLink RX5 131 yX5_crossings, Cond.instanceMethod yX5_crossings, Cond.selects RX5 yX5_crossings yX5_crossings, Cond.code yX5_crossings cX5_crossings 4 (some .int)]
def wsX5_goBack_r2 : List Cond := [Cond.methodLink RX5 59 yX5_ones, Cond.static yX5_ones, Cond.code yX5_ones cX5_ones 3 (some .int)]
def wsX5_goBack : List Cond := .code yX5_goBack cX5_goBack 2 (some .int) :: ((wsX5_goBack_r1 ++ wsX5_goBack_r2) ++ wsX50)
def wsX5_undo : List Cond := .code yX5_undo cX5_undo 1 (some .int) :: ([.fieldLink RX5 76 "WireLoomModel" "saved" "I", .methodLink RX5 90 yX5_holds, .instanceMethod yX5_holds, .selects RX5 yX5_holds yX5_holds, .initialized RX5, .code yX5_holds cX5_holds 2 (some .boolean), .fieldLink RX5 23 "WireLoomModel" "thrown" "I", .methodLink RX5 79 yX5_copies, .instanceMethod yX5_copies, .selects RX5 yX5_copies yX5_copies, .code yX5_copies cX5_copies 4 none, .fieldLink RX5 7 "WireLoomModel" "s" "[I"] ++ wsX50)
def wsX5_ofThread_r1 : List Cond := [Cond.fieldLink RX5 7 "WireLoomModel" "s" "[I", Cond.methodLink RX5 63 yX5_meant, Cond.instanceMethod yX5_meant, Cond.selects RX5 yX5_meant yX5_meant, Cond.initialized RX5, Cond.code yX5_meant cX5_meant 3 (some .int), Cond.methodLink RX5 49 yX5_turned, Cond.instanceMethod yX5_turned, Cond.selects RX5 yX5_turned yX5_turned, Cond.code yX5_turned cX5_turned 3 (some .int), Cond.methodLink RX5 52 yX5_wordOf, Cond.instanceMethod yX5_wordOf, Cond.selects RX5 yX5_wordOf yX5_wordOf, Cond.code yX5_wordOf cX5_wordOf 3 (some .int), Cond.methodLink RX5 45 yX5_answers, Cond.instanceMethod yX5_answers, Cond.selects RX5 yX5_answers yX5_answers, Cond.code yX5_answers cX5_answers 5 (some .int), Cond.methodLink RX5 42 yX5_strengthIn, Cond.instanceMethod yX5_strengthIn, Cond.selects RX5 yX5_strengthIn yX5_strengthIn, Cond.code yX5_strengthIn cX5_strengthIn 7 (some .int), Cond.methodLink RX5 39 yX5_hopsTo, Cond.instanceMethod yX5_hopsTo]
def wsX5_ofThread_r2 : List Cond := [Cond.selects RX5 yX5_hopsTo yX5_hopsTo, Cond.code yX5_hopsTo cX5_hopsTo 5 (some .int), Cond.methodLink RX5 35 yX5_reached, Cond.instanceMethod yX5_reached, Cond.selects RX5 yX5_reached yX5_reached, Cond.code yX5_reached cX5_reached 9 (some .int), Cond.methodLink RX5 31 yX5_has, Cond.static yX5_has, Cond.code yX5_has cX5_has 2 (some .boolean), Cond.methodLink RX5 59 yX5_ones, Cond.static yX5_ones, Cond.code yX5_ones cX5_ones 3 (some .int)]
def wsX5_ofThread : List Cond := .code yX5_ofThread cX5_ofThread 3 (some .int) :: ((wsX5_ofThread_r1 ++ wsX5_ofThread_r2) ++ wsX50)
def wsX5_threadOf_r1 : List Cond := [Cond.methodLink RX5 83 yX5_isThread, Cond.static yX5_isThread, Cond.initialized RX5, Cond.code yX5_isThread cX5_isThread 1 (some .boolean), Cond.methodLink RX5 27 yX5_in, Cond.static yX5_in, Cond.code yX5_in cX5_in 3 (some .boolean), Cond.methodLink RX5 90 yX5_holds, Cond.instanceMethod yX5_holds, Cond.selects RX5 yX5_holds yX5_holds, Cond.code yX5_holds cX5_holds 2 (some .boolean), Cond.fieldLink RX5 23 "WireLoomModel" "thrown" "I", Cond.methodLink RX5 134 yX5_ofThread, Cond.instanceMethod yX5_ofThread, Cond.selects RX5 yX5_ofThread yX5_ofThread, Cond.code yX5_ofThread cX5_ofThread 3 (some .int), Cond.fieldLink RX5 7 "WireLoomModel" "s" "[I", Cond.methodLink RX5 63 yX5_meant, Cond.instanceMethod yX5_meant, Cond.selects RX5 yX5_meant yX5_meant, Cond.code yX5_meant cX5_meant 3 (some .int), Cond.methodLink RX5 49 yX5_turned, Cond.instanceMethod yX5_turned, Cond.selects RX5 yX5_turned yX5_turned]
def wsX5_threadOf_r2 : List Cond := [Cond.code yX5_turned cX5_turned 3 (some .int), Cond.methodLink RX5 52 yX5_wordOf, Cond.instanceMethod yX5_wordOf, Cond.selects RX5 yX5_wordOf yX5_wordOf, Cond.code yX5_wordOf cX5_wordOf 3 (some .int), Cond.methodLink RX5 45 yX5_answers, Cond.instanceMethod yX5_answers, Cond.selects RX5 yX5_answers yX5_answers, Cond.code yX5_answers cX5_answers 5 (some .int), Cond.methodLink RX5 42 yX5_strengthIn, Cond.instanceMethod yX5_strengthIn, Cond.selects RX5 yX5_strengthIn yX5_strengthIn, Cond.code yX5_strengthIn cX5_strengthIn 7 (some .int), Cond.methodLink RX5 39 yX5_hopsTo, Cond.instanceMethod yX5_hopsTo, Cond.selects RX5 yX5_hopsTo yX5_hopsTo, Cond.code yX5_hopsTo cX5_hopsTo 5 (some .int), Cond.methodLink RX5 35 yX5_reached, Cond.instanceMethod yX5_reached, Cond.selects RX5 yX5_reached yX5_reached, Cond.code yX5_reached cX5_reached 9 (some .int), Cond.methodLink RX5 31 yX5_has, Cond.static yX5_has, Cond.code yX5_has cX5_has 2 (some .boolean)]
def wsX5_threadOf_r3 : List Cond := [Cond.methodLink RX5 59 yX5_ones, Cond.static yX5_ones, Cond.code yX5_ones cX5_ones 3 (some .int)]
def wsX5_threadOf : List Cond := .code yX5_threadOf cX5_threadOf 3 (some .int) :: ((wsX5_threadOf_r1 ++ (wsX5_threadOf_r2 ++ wsX5_threadOf_r3)) ++ wsX50)
def wsX5_makers : List Cond := .code yX5_makers cX5_makers 4 (some .int) :: ([.methodLink RX5 45 yX5_answers, .instanceMethod yX5_answers, .selects RX5 yX5_answers yX5_answers, .initialized RX5, .code yX5_answers cX5_answers 5 (some .int), .fieldLink RX5 7 "WireLoomModel" "s" "[I", .methodLink RX5 42 yX5_strengthIn, .instanceMethod yX5_strengthIn, .selects RX5 yX5_strengthIn yX5_strengthIn, .code yX5_strengthIn cX5_strengthIn 7 (some .int), .methodLink RX5 39 yX5_hopsTo, .instanceMethod yX5_hopsTo, .selects RX5 yX5_hopsTo yX5_hopsTo, .code yX5_hopsTo cX5_hopsTo 5 (some .int), .methodLink RX5 35 yX5_reached, .instanceMethod yX5_reached, .selects RX5 yX5_reached yX5_reached, .code yX5_reached cX5_reached 9 (some .int), .methodLink RX5 31 yX5_has, .static yX5_has, .code yX5_has cX5_has 2 (some .boolean)] ++ wsX50)
def wsX5_ofRing_r1 : List Cond := [Cond.fieldLink RX5 7 "WireLoomModel" "s" "[I", Cond.methodLink RX5 99 yX5_threadsOf, Cond.instanceMethod yX5_threadsOf, Cond.selects RX5 yX5_threadsOf yX5_threadsOf, Cond.initialized RX5, Cond.code yX5_threadsOf cX5_threadsOf 4 (some .int), Cond.methodLink RX5 31 yX5_has, Cond.static yX5_has, Cond.code yX5_has cX5_has 2 (some .boolean), Cond.methodLink RX5 59 yX5_ones, Cond.static yX5_ones, Cond.code yX5_ones cX5_ones 3 (some .int), Cond.methodLink RX5 137 yX5_makers, Cond.instanceMethod yX5_makers, Cond.selects RX5 yX5_makers yX5_makers, Cond.code yX5_makers cX5_makers 4 (some .int), Cond.methodLink RX5 45 yX5_answers, Cond.instanceMethod yX5_answers, Cond.selects RX5 yX5_answers yX5_answers, Cond.code yX5_answers cX5_answers 5 (some .int), Cond.methodLink RX5 42 yX5_strengthIn, Cond.instanceMethod yX5_strengthIn, Cond.selects RX5 yX5_strengthIn yX5_strengthIn, Cond.code yX5_strengthIn cX5_strengthIn 7 (some .int)]
def wsX5_ofRing_r2 : List Cond := [Cond.methodLink RX5 39 yX5_hopsTo, Cond.instanceMethod yX5_hopsTo, Cond.selects RX5 yX5_hopsTo yX5_hopsTo, Cond.code yX5_hopsTo cX5_hopsTo 5 (some .int), Cond.methodLink RX5 35 yX5_reached, Cond.instanceMethod yX5_reached, Cond.selects RX5 yX5_reached yX5_reached, Cond.code yX5_reached cX5_reached 9 (some .int)]
def wsX5_ofRing : List Cond := .code yX5_ofRing cX5_ofRing 4 (some .int) :: ((wsX5_ofRing_r1 ++ wsX5_ofRing_r2) ++ wsX50)
def wsX5_ringOf_r1 : List Cond := [Cond.methodLink RX5 87 yX5_isRing, Cond.static yX5_isRing, Cond.initialized RX5, Cond.code yX5_isRing cX5_isRing 1 (some .boolean), Cond.methodLink RX5 27 yX5_in, Cond.static yX5_in, Cond.code yX5_in cX5_in 3 (some .boolean), Cond.methodLink RX5 90 yX5_holds, Cond.instanceMethod yX5_holds, Cond.selects RX5 yX5_holds yX5_holds, Cond.code yX5_holds cX5_holds 2 (some .boolean), Cond.fieldLink RX5 23 "WireLoomModel" "thrown" "I", Cond.methodLink RX5 140 yX5_ofRing, Cond.instanceMethod yX5_ofRing, Cond.selects RX5 yX5_ofRing yX5_ofRing, Cond.code yX5_ofRing cX5_ofRing 4 (some .int), Cond.fieldLink RX5 7 "WireLoomModel" "s" "[I", Cond.methodLink RX5 99 yX5_threadsOf, Cond.instanceMethod yX5_threadsOf, Cond.selects RX5 yX5_threadsOf yX5_threadsOf, Cond.code yX5_threadsOf cX5_threadsOf 4 (some .int), Cond.methodLink RX5 31 yX5_has, Cond.static yX5_has, Cond.code yX5_has cX5_has 2 (some .boolean)]
def wsX5_ringOf_r2 : List Cond := [Cond.methodLink RX5 59 yX5_ones, Cond.static yX5_ones, Cond.code yX5_ones cX5_ones 3 (some .int), Cond.methodLink RX5 137 yX5_makers, Cond.instanceMethod yX5_makers, Cond.selects RX5 yX5_makers yX5_makers, Cond.code yX5_makers cX5_makers 4 (some .int), Cond.methodLink RX5 45 yX5_answers, Cond.instanceMethod yX5_answers, Cond.selects RX5 yX5_answers yX5_answers, Cond.code yX5_answers cX5_answers 5 (some .int), Cond.methodLink RX5 42 yX5_strengthIn, Cond.instanceMethod yX5_strengthIn, Cond.selects RX5 yX5_strengthIn yX5_strengthIn, Cond.code yX5_strengthIn cX5_strengthIn 7 (some .int), Cond.methodLink RX5 39 yX5_hopsTo, Cond.instanceMethod yX5_hopsTo, Cond.selects RX5 yX5_hopsTo yX5_hopsTo, Cond.code yX5_hopsTo cX5_hopsTo 5 (some .int), Cond.methodLink RX5 35 yX5_reached, Cond.instanceMethod yX5_reached, Cond.selects RX5 yX5_reached yX5_reached, Cond.code yX5_reached cX5_reached 9 (some .int)]
def wsX5_ringOf : List Cond := .code yX5_ringOf cX5_ringOf 3 (some .int) :: ((wsX5_ringOf_r1 ++ wsX5_ringOf_r2) ++ wsX50)
def wsX5_strength_r1 : List Cond := [Cond.methodLink RX5 83 yX5_isThread, Cond.static yX5_isThread, Cond.initialized RX5, Cond.code yX5_isThread cX5_isThread 1 (some .boolean), Cond.methodLink RX5 27 yX5_in, Cond.static yX5_in, Cond.code yX5_in cX5_in 3 (some .boolean), Cond.methodLink RX5 87 yX5_isRing, Cond.static yX5_isRing, Cond.code yX5_isRing cX5_isRing 1 (some .boolean), Cond.methodLink RX5 90 yX5_holds, Cond.instanceMethod yX5_holds, Cond.selects RX5 yX5_holds yX5_holds, Cond.code yX5_holds cX5_holds 2 (some .boolean), Cond.fieldLink RX5 23 "WireLoomModel" "thrown" "I", Cond.methodLink RX5 42 yX5_strengthIn, Cond.instanceMethod yX5_strengthIn, Cond.selects RX5 yX5_strengthIn yX5_strengthIn, Cond.code yX5_strengthIn cX5_strengthIn 7 (some .int), Cond.fieldLink RX5 7 "WireLoomModel" "s" "[I", Cond.methodLink RX5 39 yX5_hopsTo, Cond.instanceMethod yX5_hopsTo, Cond.selects RX5 yX5_hopsTo yX5_hopsTo, Cond.code yX5_hopsTo cX5_hopsTo 5 (some .int)]
def wsX5_strength_r2 : List Cond := [Cond.methodLink RX5 35 yX5_reached, Cond.instanceMethod yX5_reached, Cond.selects RX5 yX5_reached yX5_reached, Cond.code yX5_reached cX5_reached 9 (some .int), Cond.methodLink RX5 31 yX5_has, Cond.static yX5_has, Cond.code yX5_has cX5_has 2 (some .boolean)]
def wsX5_strength : List Cond := .code yX5_strength cX5_strength 4 (some .int) :: ((wsX5_strength_r1 ++ wsX5_strength_r2) ++ wsX50)
def wsX5_ofMachine : List Cond := .code yX5_ofMachine cX5_ofMachine 2 (some .int) :: ([.fieldLink RX5 7 "WireLoomModel" "s" "[I"] ++ wsX50)
def wsX5_machine : List Cond := .code yX5_machine cX5_machine 2 (some .int) :: ([.methodLink RX5 27 yX5_in, .static yX5_in, .initialized RX5, .code yX5_in cX5_in 3 (some .boolean), .methodLink RX5 90 yX5_holds, .instanceMethod yX5_holds, .selects RX5 yX5_holds yX5_holds, .code yX5_holds cX5_holds 2 (some .boolean), .fieldLink RX5 23 "WireLoomModel" "thrown" "I", .methodLink RX5 143 yX5_ofMachine, .instanceMethod yX5_ofMachine, .selects RX5 yX5_ofMachine yX5_ofMachine, .code yX5_ofMachine cX5_ofMachine 2 (some .int), .fieldLink RX5 7 "WireLoomModel" "s" "[I"] ++ wsX50)
def wsX5_toldAgo : List Cond := .code yX5_toldAgo cX5_toldAgo 2 (some .int) :: ([.fieldLink RX5 7 "WireLoomModel" "s" "[I"] ++ wsX50)
def wsX5_told : List Cond := .code yX5_told cX5_told 2 (some .int) :: ([.methodLink RX5 27 yX5_in, .static yX5_in, .initialized RX5, .code yX5_in cX5_in 3 (some .boolean), .methodLink RX5 90 yX5_holds, .instanceMethod yX5_holds, .selects RX5 yX5_holds yX5_holds, .code yX5_holds cX5_holds 2 (some .boolean), .fieldLink RX5 23 "WireLoomModel" "thrown" "I", .methodLink RX5 146 yX5_toldAgo, .instanceMethod yX5_toldAgo, .selects RX5 yX5_toldAgo yX5_toldAgo, .code yX5_toldAgo cX5_toldAgo 2 (some .int), .fieldLink RX5 7 "WireLoomModel" "s" "[I"] ++ wsX50)
def wsX5_byRings : List Cond := .code yX5_byRings cX5_byRings 3 (some .int) :: ([.methodLink RX5 99 yX5_threadsOf, .instanceMethod yX5_threadsOf, .selects RX5 yX5_threadsOf yX5_threadsOf, .initialized RX5, .code yX5_threadsOf cX5_threadsOf 4 (some .int), .fieldLink RX5 7 "WireLoomModel" "s" "[I", .methodLink RX5 31 yX5_has, .static yX5_has, .code yX5_has cX5_has 2 (some .boolean), .methodLink RX5 59 yX5_ones, .static yX5_ones, .code yX5_ones cX5_ones 3 (some .int)] ++ wsX50)
def wsX5_greatestWear : List Cond := .code yX5_greatestWear cX5_greatestWear 3 (some .int) :: ([.fieldLink RX5 7 "WireLoomModel" "s" "[I"] ++ wsX50)
def wsX5_pairs_r1 : List Cond := [Cond.fieldLink RX5 7 "WireLoomModel" "s" "[I", Cond.methodLink RX5 59 yX5_ones, Cond.static yX5_ones, Cond.initialized RX5, Cond.code yX5_ones cX5_ones 3 (some .int), Cond.methodLink RX5 52 yX5_wordOf, Cond.instanceMethod yX5_wordOf, Cond.selects RX5 yX5_wordOf yX5_wordOf, Cond.code yX5_wordOf cX5_wordOf 3 (some .int), Cond.methodLink RX5 45 yX5_answers, Cond.instanceMethod yX5_answers, Cond.selects RX5 yX5_answers yX5_answers, Cond.code yX5_answers cX5_answers 5 (some .int), Cond.methodLink RX5 42 yX5_strengthIn, Cond.instanceMethod yX5_strengthIn, Cond.selects RX5 yX5_strengthIn yX5_strengthIn, Cond.code yX5_strengthIn cX5_strengthIn 7 (some .int), Cond.methodLink RX5 39 yX5_hopsTo, Cond.instanceMethod yX5_hopsTo, Cond.selects RX5 yX5_hopsTo yX5_hopsTo, Cond.code yX5_hopsTo cX5_hopsTo 5 (some .int), Cond.methodLink RX5 35 yX5_reached, Cond.instanceMethod yX5_reached, Cond.selects RX5 yX5_reached yX5_reached]
def wsX5_pairs_r2 : List Cond := [Cond.code yX5_reached cX5_reached 9 (some .int), Cond.methodLink RX5 31 yX5_has, Cond.static yX5_has, Cond.code yX5_has cX5_has 2 (some .boolean), Cond.methodLink RX5 49 yX5_turned, Cond.instanceMethod yX5_turned, Cond.selects RX5 yX5_turned yX5_turned, Cond.code yX5_turned cX5_turned 3 (some .int)]
def wsX5_pairs : List Cond := .code yX5_pairs cX5_pairs 7 (some .int) :: ((wsX5_pairs_r1 ++ wsX5_pairs_r2) ++ wsX50)
def wsX5_counted_r1 : List Cond := [Cond.fieldLink RX5 7 "WireLoomModel" "s" "[I", Cond.fieldLink RX5 76 "WireLoomModel" "saved" "I", Cond.methodLink RX5 131 yX5_crossings, Cond.instanceMethod yX5_crossings, Cond.selects RX5 yX5_crossings yX5_crossings, Cond.initialized RX5, Cond.code yX5_crossings cX5_crossings 4 (some .int), Cond.methodLink RX5 59 yX5_ones, Cond.static yX5_ones, Cond.code yX5_ones cX5_ones 3 (some .int), Cond.methodLink RX5 149 yX5_byRings, Cond.instanceMethod yX5_byRings, Cond.selects RX5 yX5_byRings yX5_byRings, Cond.code yX5_byRings cX5_byRings 3 (some .int), Cond.methodLink RX5 99 yX5_threadsOf, Cond.instanceMethod yX5_threadsOf, Cond.selects RX5 yX5_threadsOf yX5_threadsOf, Cond.code yX5_threadsOf cX5_threadsOf 4 (some .int), Cond.methodLink RX5 31 yX5_has, Cond.static yX5_has, Cond.code yX5_has cX5_has 2 (some .boolean), Cond.methodLink RX5 152 yX5_right, Cond.instanceMethod yX5_right, Cond.selects RX5 yX5_right yX5_right]
def wsX5_counted_r2 : List Cond := [Cond.code yX5_right cX5_right 4 (some .int), Cond.methodLink RX5 52 yX5_wordOf, Cond.instanceMethod yX5_wordOf, Cond.selects RX5 yX5_wordOf yX5_wordOf, Cond.code yX5_wordOf cX5_wordOf 3 (some .int), Cond.methodLink RX5 45 yX5_answers, Cond.instanceMethod yX5_answers, Cond.selects RX5 yX5_answers yX5_answers, Cond.code yX5_answers cX5_answers 5 (some .int), Cond.methodLink RX5 42 yX5_strengthIn, Cond.instanceMethod yX5_strengthIn, Cond.selects RX5 yX5_strengthIn yX5_strengthIn, Cond.code yX5_strengthIn cX5_strengthIn 7 (some .int), Cond.methodLink RX5 39 yX5_hopsTo, Cond.instanceMethod yX5_hopsTo, Cond.selects RX5 yX5_hopsTo yX5_hopsTo, Cond.code yX5_hopsTo cX5_hopsTo 5 (some .int), Cond.methodLink RX5 35 yX5_reached, Cond.instanceMethod yX5_reached, Cond.selects RX5 yX5_reached yX5_reached, Cond.code yX5_reached cX5_reached 9 (some .int), Cond.methodLink RX5 49 yX5_turned, Cond.instanceMethod yX5_turned, Cond.selects RX5 yX5_turned yX5_turned]
def wsX5_counted_r3 : List Cond := [Cond.code yX5_turned cX5_turned 3 (some .int), Cond.methodLink RX5 63 yX5_meant, Cond.instanceMethod yX5_meant, Cond.selects RX5 yX5_meant yX5_meant, Cond.code yX5_meant cX5_meant 3 (some .int), Cond.methodLink RX5 155 yX5_greatestWear, Cond.instanceMethod yX5_greatestWear, Cond.selects RX5 yX5_greatestWear yX5_greatestWear, Cond.code yX5_greatestWear cX5_greatestWear 3 (some .int), Cond.methodLink RX5 158 yX5_pairs, Cond.instanceMethod yX5_pairs, Cond.selects RX5 yX5_pairs yX5_pairs, Cond.code yX5_pairs cX5_pairs 7 (some .int)]
def wsX5_counted : List Cond := .code yX5_counted cX5_counted 2 (some .int) :: ((wsX5_counted_r1 ++ (wsX5_counted_r2 ++ wsX5_counted_r3)) ++ wsX50)
def wsX5_count_r1 : List Cond := [Cond.methodLink RX5 27 yX5_in, Cond.static yX5_in, Cond.initialized RX5, Cond.code yX5_in cX5_in 3 (some .boolean), Cond.methodLink RX5 90 yX5_holds, Cond.instanceMethod yX5_holds, Cond.selects RX5 yX5_holds yX5_holds, Cond.code yX5_holds cX5_holds 2 (some .boolean), Cond.fieldLink RX5 23 "WireLoomModel" "thrown" "I", Cond.methodLink RX5 162 yX5_counted, Cond.instanceMethod yX5_counted, Cond.selects RX5 yX5_counted yX5_counted, Cond.code yX5_counted cX5_counted 2 (some .int), Cond.fieldLink RX5 7 "WireLoomModel" "s" "[I", Cond.fieldLink RX5 76 "WireLoomModel" "saved" "I", Cond.methodLink RX5 131 yX5_crossings, Cond.instanceMethod yX5_crossings, Cond.selects RX5 yX5_crossings yX5_crossings, Cond.code yX5_crossings cX5_crossings 4 (some .int), Cond.methodLink RX5 59 yX5_ones, Cond.static yX5_ones, Cond.code yX5_ones cX5_ones 3 (some .int), Cond.methodLink RX5 149 yX5_byRings, Cond.instanceMethod yX5_byRings]
def wsX5_count_r2 : List Cond := [Cond.selects RX5 yX5_byRings yX5_byRings, Cond.code yX5_byRings cX5_byRings 3 (some .int), Cond.methodLink RX5 99 yX5_threadsOf, Cond.instanceMethod yX5_threadsOf, Cond.selects RX5 yX5_threadsOf yX5_threadsOf, Cond.code yX5_threadsOf cX5_threadsOf 4 (some .int), Cond.methodLink RX5 31 yX5_has, Cond.static yX5_has, Cond.code yX5_has cX5_has 2 (some .boolean), Cond.methodLink RX5 152 yX5_right, Cond.instanceMethod yX5_right, Cond.selects RX5 yX5_right yX5_right, Cond.code yX5_right cX5_right 4 (some .int), Cond.methodLink RX5 52 yX5_wordOf, Cond.instanceMethod yX5_wordOf, Cond.selects RX5 yX5_wordOf yX5_wordOf, Cond.code yX5_wordOf cX5_wordOf 3 (some .int), Cond.methodLink RX5 45 yX5_answers, Cond.instanceMethod yX5_answers, Cond.selects RX5 yX5_answers yX5_answers, Cond.code yX5_answers cX5_answers 5 (some .int), Cond.methodLink RX5 42 yX5_strengthIn, Cond.instanceMethod yX5_strengthIn, Cond.selects RX5 yX5_strengthIn yX5_strengthIn]
def wsX5_count_r3 : List Cond := [Cond.code yX5_strengthIn cX5_strengthIn 7 (some .int), Cond.methodLink RX5 39 yX5_hopsTo, Cond.instanceMethod yX5_hopsTo, Cond.selects RX5 yX5_hopsTo yX5_hopsTo, Cond.code yX5_hopsTo cX5_hopsTo 5 (some .int), Cond.methodLink RX5 35 yX5_reached, Cond.instanceMethod yX5_reached, Cond.selects RX5 yX5_reached yX5_reached, Cond.code yX5_reached cX5_reached 9 (some .int), Cond.methodLink RX5 49 yX5_turned, Cond.instanceMethod yX5_turned, Cond.selects RX5 yX5_turned yX5_turned, Cond.code yX5_turned cX5_turned 3 (some .int), Cond.methodLink RX5 63 yX5_meant, Cond.instanceMethod yX5_meant, Cond.selects RX5 yX5_meant yX5_meant, Cond.code yX5_meant cX5_meant 3 (some .int), Cond.methodLink RX5 155 yX5_greatestWear, Cond.instanceMethod yX5_greatestWear, Cond.selects RX5 yX5_greatestWear yX5_greatestWear, Cond.code yX5_greatestWear cX5_greatestWear 3 (some .int), Cond.methodLink RX5 158 yX5_pairs, Cond.instanceMethod yX5_pairs, Cond.selects RX5 yX5_pairs yX5_pairs]
def wsX5_count_r4 : List Cond := [Cond.code yX5_pairs cX5_pairs 7 (some .int)]
def wsX5_count : List Cond := .code yX5_count cX5_count 2 (some .int) :: ((wsX5_count_r1 ++ (wsX5_count_r2 ++ (wsX5_count_r3 ++ wsX5_count_r4))) ++ wsX50)
def wsX5_setting : List Cond := .code yX5_setting cX5_setting 2 (some .int) :: ([.fieldLink RX5 7 "WireLoomModel" "s" "[I", .methodLink RX5 27 yX5_in, .static yX5_in, .initialized RX5, .code yX5_in cX5_in 3 (some .boolean), .methodLink RX5 90 yX5_holds, .instanceMethod yX5_holds, .selects RX5 yX5_holds yX5_holds, .code yX5_holds cX5_holds 2 (some .boolean), .fieldLink RX5 23 "WireLoomModel" "thrown" "I"] ++ wsX50)
def wsX5_wouldLoad_r1 : List Cond := [Cond.methodLink RX5 79 yX5_copies, Cond.instanceMethod yX5_copies, Cond.selects RX5 yX5_copies yX5_copies, Cond.initialized RX5, Cond.code yX5_copies cX5_copies 4 none, Cond.fieldLink RX5 7 "WireLoomModel" "s" "[I", Cond.methodLink RX5 125 yX5_loads, Cond.instanceMethod yX5_loads, Cond.selects RX5 yX5_loads yX5_loads, Cond.code yX5_loads cX5_loads 5 (some .int), Cond.fieldLink RX5 115 "WireLoomModel" "many" "I", Cond.fieldLink RX5 20 "WireLoomModel" "words" "[I", Cond.methodLink RX5 96 yX5_lays, Cond.instanceMethod yX5_lays, Cond.selects RX5 yX5_lays yX5_lays, Cond.code yX5_lays cX5_lays 6 (some .int), Cond.methodLink RX5 49 yX5_turned, Cond.instanceMethod yX5_turned, Cond.selects RX5 yX5_turned yX5_turned, Cond.code yX5_turned cX5_turned 3 (some .int), Cond.methodLink RX5 31 yX5_has, Cond.static yX5_has, Cond.code yX5_has cX5_has 2 (some .boolean), Cond.methodLink RX5 55 yX5_wears]
def wsX5_wouldLoad_r2 : List Cond := [Cond.instanceMethod yX5_wears, Cond.selects RX5 yX5_wears yX5_wears, Cond.code yX5_wears cX5_wears 5 none, Cond.methodLink RX5 59 yX5_ones, Cond.static yX5_ones, Cond.code yX5_ones cX5_ones 3 (some .int)]
def wsX5_wouldLoad : List Cond := .code yX5_wouldLoad cX5_wouldLoad 2 (some .int) :: ((wsX5_wouldLoad_r1 ++ wsX5_wouldLoad_r2) ++ wsX50)
def wsX5_ifLoaded_r1 : List Cond := [Cond.methodLink RX5 83 yX5_isThread, Cond.static yX5_isThread, Cond.initialized RX5, Cond.code yX5_isThread cX5_isThread 1 (some .boolean), Cond.methodLink RX5 27 yX5_in, Cond.static yX5_in, Cond.code yX5_in cX5_in 3 (some .boolean), Cond.methodLink RX5 90 yX5_holds, Cond.instanceMethod yX5_holds, Cond.selects RX5 yX5_holds yX5_holds, Cond.code yX5_holds cX5_holds 2 (some .boolean), Cond.fieldLink RX5 23 "WireLoomModel" "thrown" "I", Cond.methodLink RX5 122 yX5_isProgram, Cond.instanceMethod yX5_isProgram, Cond.selects RX5 yX5_isProgram yX5_isProgram, Cond.code yX5_isProgram cX5_isProgram 1 (some .boolean), Cond.fieldLink RX5 108 "WireLoomModel" "at" "I", Cond.fieldLink RX5 115 "WireLoomModel" "many" "I", Cond.fieldLink RX5 105 "WireLoomModel" "length" "I", Cond.fieldLink RX5 17 "WireLoomModel" "text" "[I", Cond.methodLink RX5 118 yX5_isWord, Cond.instanceMethod yX5_isWord, Cond.selects RX5 yX5_isWord yX5_isWord, Cond.code yX5_isWord cX5_isWord 3 (some .boolean)]
def wsX5_ifLoaded_r2 : List Cond := [Cond.fieldLink RX5 20 "WireLoomModel" "words" "[I", Cond.methodLink RX5 111 yX5_digit, Cond.instanceMethod yX5_digit, Cond.selects RX5 yX5_digit yX5_digit, Cond.code yX5_digit cX5_digit 3 (some .int), Cond.methodLink RX5 165 yX5_wouldLoad, Cond.instanceMethod yX5_wouldLoad, Cond.selects RX5 yX5_wouldLoad yX5_wouldLoad, Cond.code yX5_wouldLoad cX5_wouldLoad 2 (some .int), Cond.methodLink RX5 79 yX5_copies, Cond.instanceMethod yX5_copies, Cond.selects RX5 yX5_copies yX5_copies, Cond.code yX5_copies cX5_copies 4 none, Cond.fieldLink RX5 7 "WireLoomModel" "s" "[I", Cond.methodLink RX5 125 yX5_loads, Cond.instanceMethod yX5_loads, Cond.selects RX5 yX5_loads yX5_loads, Cond.code yX5_loads cX5_loads 5 (some .int), Cond.methodLink RX5 96 yX5_lays, Cond.instanceMethod yX5_lays, Cond.selects RX5 yX5_lays yX5_lays, Cond.code yX5_lays cX5_lays 6 (some .int), Cond.methodLink RX5 49 yX5_turned, Cond.instanceMethod yX5_turned]
def wsX5_ifLoaded_r3 : List Cond := [Cond.selects RX5 yX5_turned yX5_turned, Cond.code yX5_turned cX5_turned 3 (some .int), Cond.methodLink RX5 31 yX5_has, Cond.static yX5_has, Cond.code yX5_has cX5_has 2 (some .boolean), Cond.methodLink RX5 55 yX5_wears, Cond.instanceMethod yX5_wears, Cond.selects RX5 yX5_wears yX5_wears, Cond.code yX5_wears cX5_wears 5 none, Cond.methodLink RX5 59 yX5_ones, Cond.static yX5_ones, Cond.code yX5_ones cX5_ones 3 (some .int)]
def wsX5_ifLoaded : List Cond := .code yX5_ifLoaded cX5_ifLoaded 2 (some .int) :: ((wsX5_ifLoaded_r1 ++ (wsX5_ifLoaded_r2 ++ wsX5_ifLoaded_r3)) ++ wsX50)
def wsX5_placeFound_r1 : List Cond := [Cond.methodLink RX5 122 yX5_isProgram, Cond.instanceMethod yX5_isProgram, Cond.selects RX5 yX5_isProgram yX5_isProgram, Cond.initialized RX5, Cond.code yX5_isProgram cX5_isProgram 1 (some .boolean), Cond.fieldLink RX5 108 "WireLoomModel" "at" "I", Cond.fieldLink RX5 115 "WireLoomModel" "many" "I", Cond.fieldLink RX5 105 "WireLoomModel" "length" "I", Cond.fieldLink RX5 17 "WireLoomModel" "text" "[I", Cond.methodLink RX5 118 yX5_isWord, Cond.instanceMethod yX5_isWord, Cond.selects RX5 yX5_isWord yX5_isWord, Cond.code yX5_isWord cX5_isWord 3 (some .boolean), Cond.fieldLink RX5 20 "WireLoomModel" "words" "[I", Cond.methodLink RX5 111 yX5_digit, Cond.instanceMethod yX5_digit, Cond.selects RX5 yX5_digit yX5_digit, Cond.code yX5_digit cX5_digit 3 (some .int), Cond.methodLink RX5 27 yX5_in, Cond.static yX5_in, Cond.code yX5_in cX5_in 3 (some .boolean), Cond.methodLink RX5 165 yX5_wouldLoad, Cond.instanceMethod yX5_wouldLoad, Cond.selects RX5 yX5_wouldLoad yX5_wouldLoad]
def wsX5_placeFound_r2 : List Cond := [Cond.code yX5_wouldLoad cX5_wouldLoad 2 (some .int), Cond.methodLink RX5 79 yX5_copies, Cond.instanceMethod yX5_copies, Cond.selects RX5 yX5_copies yX5_copies, Cond.code yX5_copies cX5_copies 4 none, Cond.fieldLink RX5 7 "WireLoomModel" "s" "[I", Cond.methodLink RX5 125 yX5_loads, Cond.instanceMethod yX5_loads, Cond.selects RX5 yX5_loads yX5_loads, Cond.code yX5_loads cX5_loads 5 (some .int), Cond.methodLink RX5 96 yX5_lays, Cond.instanceMethod yX5_lays, Cond.selects RX5 yX5_lays yX5_lays, Cond.code yX5_lays cX5_lays 6 (some .int), Cond.methodLink RX5 49 yX5_turned, Cond.instanceMethod yX5_turned, Cond.selects RX5 yX5_turned yX5_turned, Cond.code yX5_turned cX5_turned 3 (some .int), Cond.methodLink RX5 31 yX5_has, Cond.static yX5_has, Cond.code yX5_has cX5_has 2 (some .boolean), Cond.methodLink RX5 55 yX5_wears, Cond.instanceMethod yX5_wears, Cond.selects RX5 yX5_wears yX5_wears]
def wsX5_placeFound_r3 : List Cond := [Cond.code yX5_wears cX5_wears 5 none, Cond.methodLink RX5 59 yX5_ones, Cond.static yX5_ones, Cond.code yX5_ones cX5_ones 3 (some .int)]
def wsX5_placeFound : List Cond := .code yX5_placeFound cX5_placeFound 3 (some .int) :: ((wsX5_placeFound_r1 ++ (wsX5_placeFound_r2 ++ wsX5_placeFound_r3)) ++ wsX50)
def wsX5_bestPlace_r1 : List Cond := [Cond.fieldLink RX5 23 "WireLoomModel" "thrown" "I", Cond.methodLink RX5 168 yX5_placeFound, Cond.instanceMethod yX5_placeFound, Cond.selects RX5 yX5_placeFound yX5_placeFound, Cond.initialized RX5, Cond.code yX5_placeFound cX5_placeFound 3 (some .int), Cond.methodLink RX5 122 yX5_isProgram, Cond.instanceMethod yX5_isProgram, Cond.selects RX5 yX5_isProgram yX5_isProgram, Cond.code yX5_isProgram cX5_isProgram 1 (some .boolean), Cond.fieldLink RX5 108 "WireLoomModel" "at" "I", Cond.fieldLink RX5 115 "WireLoomModel" "many" "I", Cond.fieldLink RX5 105 "WireLoomModel" "length" "I", Cond.fieldLink RX5 17 "WireLoomModel" "text" "[I", Cond.methodLink RX5 118 yX5_isWord, Cond.instanceMethod yX5_isWord, Cond.selects RX5 yX5_isWord yX5_isWord, Cond.code yX5_isWord cX5_isWord 3 (some .boolean), Cond.fieldLink RX5 20 "WireLoomModel" "words" "[I", Cond.methodLink RX5 111 yX5_digit, Cond.instanceMethod yX5_digit, Cond.selects RX5 yX5_digit yX5_digit, Cond.code yX5_digit cX5_digit 3 (some .int), Cond.methodLink RX5 27 yX5_in]
def wsX5_bestPlace_r2 : List Cond := [Cond.static yX5_in, Cond.code yX5_in cX5_in 3 (some .boolean), Cond.methodLink RX5 165 yX5_wouldLoad, Cond.instanceMethod yX5_wouldLoad, Cond.selects RX5 yX5_wouldLoad yX5_wouldLoad, Cond.code yX5_wouldLoad cX5_wouldLoad 2 (some .int), Cond.methodLink RX5 79 yX5_copies, Cond.instanceMethod yX5_copies, Cond.selects RX5 yX5_copies yX5_copies, Cond.code yX5_copies cX5_copies 4 none, Cond.fieldLink RX5 7 "WireLoomModel" "s" "[I", Cond.methodLink RX5 125 yX5_loads, Cond.instanceMethod yX5_loads, Cond.selects RX5 yX5_loads yX5_loads, Cond.code yX5_loads cX5_loads 5 (some .int), Cond.methodLink RX5 96 yX5_lays, Cond.instanceMethod yX5_lays, Cond.selects RX5 yX5_lays yX5_lays, Cond.code yX5_lays cX5_lays 6 (some .int), Cond.methodLink RX5 49 yX5_turned, Cond.instanceMethod yX5_turned, Cond.selects RX5 yX5_turned yX5_turned, Cond.code yX5_turned cX5_turned 3 (some .int), Cond.methodLink RX5 31 yX5_has]
def wsX5_bestPlace_r3 : List Cond := [Cond.static yX5_has, Cond.code yX5_has cX5_has 2 (some .boolean), Cond.methodLink RX5 55 yX5_wears, Cond.instanceMethod yX5_wears, Cond.selects RX5 yX5_wears yX5_wears, Cond.code yX5_wears cX5_wears 5 none, Cond.methodLink RX5 59 yX5_ones, Cond.static yX5_ones, Cond.code yX5_ones cX5_ones 3 (some .int)]
def wsX5_bestPlace : List Cond := .code yX5_bestPlace cX5_bestPlace 1 (some .int) :: ((wsX5_bestPlace_r1 ++ (wsX5_bestPlace_r2 ++ wsX5_bestPlace_r3)) ++ wsX50)
def wsX5_guardFound_r1 : List Cond := [Cond.fieldLink RX5 7 "WireLoomModel" "s" "[I", Cond.methodLink RX5 31 yX5_has, Cond.static yX5_has, Cond.initialized RX5, Cond.code yX5_has cX5_has 2 (some .boolean), Cond.methodLink RX5 79 yX5_copies, Cond.instanceMethod yX5_copies, Cond.selects RX5 yX5_copies yX5_copies, Cond.code yX5_copies cX5_copies 4 none, Cond.methodLink RX5 152 yX5_right, Cond.instanceMethod yX5_right, Cond.selects RX5 yX5_right yX5_right, Cond.code yX5_right cX5_right 4 (some .int), Cond.methodLink RX5 52 yX5_wordOf, Cond.instanceMethod yX5_wordOf, Cond.selects RX5 yX5_wordOf yX5_wordOf, Cond.code yX5_wordOf cX5_wordOf 3 (some .int), Cond.methodLink RX5 45 yX5_answers, Cond.instanceMethod yX5_answers, Cond.selects RX5 yX5_answers yX5_answers, Cond.code yX5_answers cX5_answers 5 (some .int), Cond.methodLink RX5 42 yX5_strengthIn, Cond.instanceMethod yX5_strengthIn, Cond.selects RX5 yX5_strengthIn yX5_strengthIn]
def wsX5_guardFound_r2 : List Cond := [Cond.code yX5_strengthIn cX5_strengthIn 7 (some .int), Cond.methodLink RX5 39 yX5_hopsTo, Cond.instanceMethod yX5_hopsTo, Cond.selects RX5 yX5_hopsTo yX5_hopsTo, Cond.code yX5_hopsTo cX5_hopsTo 5 (some .int), Cond.methodLink RX5 35 yX5_reached, Cond.instanceMethod yX5_reached, Cond.selects RX5 yX5_reached yX5_reached, Cond.code yX5_reached cX5_reached 9 (some .int), Cond.methodLink RX5 49 yX5_turned, Cond.instanceMethod yX5_turned, Cond.selects RX5 yX5_turned yX5_turned, Cond.code yX5_turned cX5_turned 3 (some .int), Cond.methodLink RX5 63 yX5_meant, Cond.instanceMethod yX5_meant, Cond.selects RX5 yX5_meant yX5_meant, Cond.code yX5_meant cX5_meant 3 (some .int)]
def wsX5_guardFound : List Cond := .code yX5_guardFound cX5_guardFound 5 (some .int) :: ((wsX5_guardFound_r1 ++ wsX5_guardFound_r2) ++ wsX50)
def wsX5_bestGuard_r1 : List Cond := [Cond.fieldLink RX5 23 "WireLoomModel" "thrown" "I", Cond.methodLink RX5 171 yX5_guardFound, Cond.instanceMethod yX5_guardFound, Cond.selects RX5 yX5_guardFound yX5_guardFound, Cond.initialized RX5, Cond.code yX5_guardFound cX5_guardFound 5 (some .int), Cond.fieldLink RX5 7 "WireLoomModel" "s" "[I", Cond.methodLink RX5 31 yX5_has, Cond.static yX5_has, Cond.code yX5_has cX5_has 2 (some .boolean), Cond.methodLink RX5 79 yX5_copies, Cond.instanceMethod yX5_copies, Cond.selects RX5 yX5_copies yX5_copies, Cond.code yX5_copies cX5_copies 4 none, Cond.methodLink RX5 152 yX5_right, Cond.instanceMethod yX5_right, Cond.selects RX5 yX5_right yX5_right, Cond.code yX5_right cX5_right 4 (some .int), Cond.methodLink RX5 52 yX5_wordOf, Cond.instanceMethod yX5_wordOf, Cond.selects RX5 yX5_wordOf yX5_wordOf, Cond.code yX5_wordOf cX5_wordOf 3 (some .int), Cond.methodLink RX5 45 yX5_answers, Cond.instanceMethod yX5_answers]
def wsX5_bestGuard_r2 : List Cond := [Cond.selects RX5 yX5_answers yX5_answers, Cond.code yX5_answers cX5_answers 5 (some .int), Cond.methodLink RX5 42 yX5_strengthIn, Cond.instanceMethod yX5_strengthIn, Cond.selects RX5 yX5_strengthIn yX5_strengthIn, Cond.code yX5_strengthIn cX5_strengthIn 7 (some .int), Cond.methodLink RX5 39 yX5_hopsTo, Cond.instanceMethod yX5_hopsTo, Cond.selects RX5 yX5_hopsTo yX5_hopsTo, Cond.code yX5_hopsTo cX5_hopsTo 5 (some .int), Cond.methodLink RX5 35 yX5_reached, Cond.instanceMethod yX5_reached, Cond.selects RX5 yX5_reached yX5_reached, Cond.code yX5_reached cX5_reached 9 (some .int), Cond.methodLink RX5 49 yX5_turned, Cond.instanceMethod yX5_turned, Cond.selects RX5 yX5_turned yX5_turned, Cond.code yX5_turned cX5_turned 3 (some .int), Cond.methodLink RX5 63 yX5_meant, Cond.instanceMethod yX5_meant, Cond.selects RX5 yX5_meant yX5_meant, Cond.code yX5_meant cX5_meant 3 (some .int)]
def wsX5_bestGuard : List Cond := .code yX5_bestGuard cX5_bestGuard 1 (some .int) :: ((wsX5_bestGuard_r1 ++ wsX5_bestGuard_r2) ++ wsX50)
def wsX5_readingsLeft_r1 : List Cond := [Cond.methodLink RX5 52 yX5_wordOf, Cond.instanceMethod yX5_wordOf, Cond.selects RX5 yX5_wordOf yX5_wordOf, Cond.initialized RX5, Cond.code yX5_wordOf cX5_wordOf 3 (some .int), Cond.methodLink RX5 45 yX5_answers, Cond.instanceMethod yX5_answers, Cond.selects RX5 yX5_answers yX5_answers, Cond.code yX5_answers cX5_answers 5 (some .int), Cond.fieldLink RX5 7 "WireLoomModel" "s" "[I", Cond.methodLink RX5 42 yX5_strengthIn, Cond.instanceMethod yX5_strengthIn, Cond.selects RX5 yX5_strengthIn yX5_strengthIn, Cond.code yX5_strengthIn cX5_strengthIn 7 (some .int), Cond.methodLink RX5 39 yX5_hopsTo, Cond.instanceMethod yX5_hopsTo, Cond.selects RX5 yX5_hopsTo yX5_hopsTo, Cond.code yX5_hopsTo cX5_hopsTo 5 (some .int), Cond.methodLink RX5 35 yX5_reached, Cond.instanceMethod yX5_reached, Cond.selects RX5 yX5_reached yX5_reached, Cond.code yX5_reached cX5_reached 9 (some .int), Cond.methodLink RX5 31 yX5_has, Cond.static yX5_has]
def wsX5_readingsLeft_r2 : List Cond := [Cond.code yX5_has cX5_has 2 (some .boolean), Cond.methodLink RX5 49 yX5_turned, Cond.instanceMethod yX5_turned, Cond.selects RX5 yX5_turned yX5_turned, Cond.code yX5_turned cX5_turned 3 (some .int), Cond.methodLink RX5 79 yX5_copies, Cond.instanceMethod yX5_copies, Cond.selects RX5 yX5_copies yX5_copies, Cond.code yX5_copies cX5_copies 4 none, Cond.methodLink RX5 66 yX5_reads, Cond.instanceMethod yX5_reads, Cond.selects RX5 yX5_reads yX5_reads, Cond.code yX5_reads cX5_reads 5 (some .int), Cond.methodLink RX5 55 yX5_wears, Cond.instanceMethod yX5_wears, Cond.selects RX5 yX5_wears yX5_wears, Cond.code yX5_wears cX5_wears 5 none]
def wsX5_readingsLeft : List Cond := .code yX5_readingsLeft cX5_readingsLeft 4 (some .int) :: ((wsX5_readingsLeft_r1 ++ wsX5_readingsLeft_r2) ++ wsX50)
def wsX5_lastsFor_r1 : List Cond := [Cond.methodLink RX5 83 yX5_isThread, Cond.static yX5_isThread, Cond.initialized RX5, Cond.code yX5_isThread cX5_isThread 1 (some .boolean), Cond.methodLink RX5 27 yX5_in, Cond.static yX5_in, Cond.code yX5_in cX5_in 3 (some .boolean), Cond.methodLink RX5 90 yX5_holds, Cond.instanceMethod yX5_holds, Cond.selects RX5 yX5_holds yX5_holds, Cond.code yX5_holds cX5_holds 2 (some .boolean), Cond.fieldLink RX5 23 "WireLoomModel" "thrown" "I", Cond.methodLink RX5 174 yX5_readingsLeft, Cond.instanceMethod yX5_readingsLeft, Cond.selects RX5 yX5_readingsLeft yX5_readingsLeft, Cond.code yX5_readingsLeft cX5_readingsLeft 4 (some .int), Cond.methodLink RX5 52 yX5_wordOf, Cond.instanceMethod yX5_wordOf, Cond.selects RX5 yX5_wordOf yX5_wordOf, Cond.code yX5_wordOf cX5_wordOf 3 (some .int), Cond.methodLink RX5 45 yX5_answers, Cond.instanceMethod yX5_answers, Cond.selects RX5 yX5_answers yX5_answers, Cond.code yX5_answers cX5_answers 5 (some .int)]
def wsX5_lastsFor_r2 : List Cond := [Cond.fieldLink RX5 7 "WireLoomModel" "s" "[I", Cond.methodLink RX5 42 yX5_strengthIn, Cond.instanceMethod yX5_strengthIn, Cond.selects RX5 yX5_strengthIn yX5_strengthIn, Cond.code yX5_strengthIn cX5_strengthIn 7 (some .int), Cond.methodLink RX5 39 yX5_hopsTo, Cond.instanceMethod yX5_hopsTo, Cond.selects RX5 yX5_hopsTo yX5_hopsTo, Cond.code yX5_hopsTo cX5_hopsTo 5 (some .int), Cond.methodLink RX5 35 yX5_reached, Cond.instanceMethod yX5_reached, Cond.selects RX5 yX5_reached yX5_reached, Cond.code yX5_reached cX5_reached 9 (some .int), Cond.methodLink RX5 31 yX5_has, Cond.static yX5_has, Cond.code yX5_has cX5_has 2 (some .boolean), Cond.methodLink RX5 49 yX5_turned, Cond.instanceMethod yX5_turned, Cond.selects RX5 yX5_turned yX5_turned, Cond.code yX5_turned cX5_turned 3 (some .int), Cond.methodLink RX5 79 yX5_copies, Cond.instanceMethod yX5_copies, Cond.selects RX5 yX5_copies yX5_copies, Cond.code yX5_copies cX5_copies 4 none]
def wsX5_lastsFor_r3 : List Cond := [Cond.methodLink RX5 66 yX5_reads, Cond.instanceMethod yX5_reads, Cond.selects RX5 yX5_reads yX5_reads, Cond.code yX5_reads cX5_reads 5 (some .int), Cond.methodLink RX5 55 yX5_wears, Cond.instanceMethod yX5_wears, Cond.selects RX5 yX5_wears yX5_wears, Cond.code yX5_wears cX5_wears 5 none]
def wsX5_lastsFor : List Cond := .code yX5_lastsFor cX5_lastsFor 2 (some .int) :: ((wsX5_lastsFor_r1 ++ (wsX5_lastsFor_r2 ++ wsX5_lastsFor_r3)) ++ wsX50)
def wsX5_gone_r1 : List Cond := [Cond.fieldLink RX5 7 "WireLoomModel" "s" "[I", Cond.methodLink RX5 79 yX5_copies, Cond.instanceMethod yX5_copies, Cond.selects RX5 yX5_copies yX5_copies, Cond.initialized RX5, Cond.code yX5_copies cX5_copies 4 none, Cond.methodLink RX5 102 yX5_goes, Cond.instanceMethod yX5_goes, Cond.selects RX5 yX5_goes yX5_goes, Cond.code yX5_goes cX5_goes 4 (some .int), Cond.methodLink RX5 73 yX5_steps, Cond.instanceMethod yX5_steps, Cond.selects RX5 yX5_steps yX5_steps, Cond.code yX5_steps cX5_steps 5 none, Cond.methodLink RX5 66 yX5_reads, Cond.instanceMethod yX5_reads, Cond.selects RX5 yX5_reads yX5_reads, Cond.code yX5_reads cX5_reads 5 (some .int), Cond.methodLink RX5 52 yX5_wordOf, Cond.instanceMethod yX5_wordOf, Cond.selects RX5 yX5_wordOf yX5_wordOf, Cond.code yX5_wordOf cX5_wordOf 3 (some .int), Cond.methodLink RX5 45 yX5_answers, Cond.instanceMethod yX5_answers]
def wsX5_gone_r2 : List Cond := [Cond.selects RX5 yX5_answers yX5_answers, Cond.code yX5_answers cX5_answers 5 (some .int), Cond.methodLink RX5 42 yX5_strengthIn, Cond.instanceMethod yX5_strengthIn, Cond.selects RX5 yX5_strengthIn yX5_strengthIn, Cond.code yX5_strengthIn cX5_strengthIn 7 (some .int), Cond.methodLink RX5 39 yX5_hopsTo, Cond.instanceMethod yX5_hopsTo, Cond.selects RX5 yX5_hopsTo yX5_hopsTo, Cond.code yX5_hopsTo cX5_hopsTo 5 (some .int), Cond.methodLink RX5 35 yX5_reached, Cond.instanceMethod yX5_reached, Cond.selects RX5 yX5_reached yX5_reached, Cond.code yX5_reached cX5_reached 9 (some .int), Cond.methodLink RX5 31 yX5_has, Cond.static yX5_has, Cond.code yX5_has cX5_has 2 (some .boolean), Cond.methodLink RX5 49 yX5_turned, Cond.instanceMethod yX5_turned, Cond.selects RX5 yX5_turned yX5_turned, Cond.code yX5_turned cX5_turned 3 (some .int), Cond.methodLink RX5 55 yX5_wears, Cond.instanceMethod yX5_wears, Cond.selects RX5 yX5_wears yX5_wears]
def wsX5_gone_r3 : List Cond := [Cond.code yX5_wears cX5_wears 5 none, Cond.methodLink RX5 69 yX5_tells, Cond.instanceMethod yX5_tells, Cond.selects RX5 yX5_tells yX5_tells, Cond.code yX5_tells cX5_tells 3 none]
def wsX5_gone : List Cond := .code yX5_gone cX5_gone 4 (some .int) :: ((wsX5_gone_r1 ++ (wsX5_gone_r2 ++ wsX5_gone_r3)) ++ wsX50)
def wsX5_ifGone_r1 : List Cond := [Cond.methodLink RX5 27 yX5_in, Cond.static yX5_in, Cond.initialized RX5, Cond.code yX5_in cX5_in 3 (some .boolean), Cond.methodLink RX5 90 yX5_holds, Cond.instanceMethod yX5_holds, Cond.selects RX5 yX5_holds yX5_holds, Cond.code yX5_holds cX5_holds 2 (some .boolean), Cond.fieldLink RX5 23 "WireLoomModel" "thrown" "I", Cond.methodLink RX5 177 yX5_gone, Cond.instanceMethod yX5_gone, Cond.selects RX5 yX5_gone yX5_gone, Cond.code yX5_gone cX5_gone 4 (some .int), Cond.fieldLink RX5 7 "WireLoomModel" "s" "[I", Cond.methodLink RX5 79 yX5_copies, Cond.instanceMethod yX5_copies, Cond.selects RX5 yX5_copies yX5_copies, Cond.code yX5_copies cX5_copies 4 none, Cond.methodLink RX5 102 yX5_goes, Cond.instanceMethod yX5_goes, Cond.selects RX5 yX5_goes yX5_goes, Cond.code yX5_goes cX5_goes 4 (some .int), Cond.methodLink RX5 73 yX5_steps, Cond.instanceMethod yX5_steps]
def wsX5_ifGone_r2 : List Cond := [Cond.selects RX5 yX5_steps yX5_steps, Cond.code yX5_steps cX5_steps 5 none, Cond.methodLink RX5 66 yX5_reads, Cond.instanceMethod yX5_reads, Cond.selects RX5 yX5_reads yX5_reads, Cond.code yX5_reads cX5_reads 5 (some .int), Cond.methodLink RX5 52 yX5_wordOf, Cond.instanceMethod yX5_wordOf, Cond.selects RX5 yX5_wordOf yX5_wordOf, Cond.code yX5_wordOf cX5_wordOf 3 (some .int), Cond.methodLink RX5 45 yX5_answers, Cond.instanceMethod yX5_answers, Cond.selects RX5 yX5_answers yX5_answers, Cond.code yX5_answers cX5_answers 5 (some .int), Cond.methodLink RX5 42 yX5_strengthIn, Cond.instanceMethod yX5_strengthIn, Cond.selects RX5 yX5_strengthIn yX5_strengthIn, Cond.code yX5_strengthIn cX5_strengthIn 7 (some .int), Cond.methodLink RX5 39 yX5_hopsTo, Cond.instanceMethod yX5_hopsTo, Cond.selects RX5 yX5_hopsTo yX5_hopsTo, Cond.code yX5_hopsTo cX5_hopsTo 5 (some .int), Cond.methodLink RX5 35 yX5_reached, Cond.instanceMethod yX5_reached]
def wsX5_ifGone_r3 : List Cond := [Cond.selects RX5 yX5_reached yX5_reached, Cond.code yX5_reached cX5_reached 9 (some .int), Cond.methodLink RX5 31 yX5_has, Cond.static yX5_has, Cond.code yX5_has cX5_has 2 (some .boolean), Cond.methodLink RX5 49 yX5_turned, Cond.instanceMethod yX5_turned, Cond.selects RX5 yX5_turned yX5_turned, Cond.code yX5_turned cX5_turned 3 (some .int), Cond.methodLink RX5 55 yX5_wears, Cond.instanceMethod yX5_wears, Cond.selects RX5 yX5_wears yX5_wears, Cond.code yX5_wears cX5_wears 5 none, Cond.methodLink RX5 69 yX5_tells, Cond.instanceMethod yX5_tells, Cond.selects RX5 yX5_tells yX5_tells, Cond.code yX5_tells cX5_tells 3 none]
def wsX5_ifGone : List Cond := .code yX5_ifGone cX5_ifGone 3 (some .int) :: ((wsX5_ifGone_r1 ++ (wsX5_ifGone_r2 ++ wsX5_ifGone_r3)) ++ wsX50)
def wsX5_share_r1 : List Cond := [Cond.constantDouble RX5 180 (4625196817309499392), Cond.methodLink RX5 152 yX5_right, Cond.instanceMethod yX5_right, Cond.selects RX5 yX5_right yX5_right, Cond.initialized RX5, Cond.code yX5_right cX5_right 4 (some .int), Cond.methodLink RX5 52 yX5_wordOf, Cond.instanceMethod yX5_wordOf, Cond.selects RX5 yX5_wordOf yX5_wordOf, Cond.code yX5_wordOf cX5_wordOf 3 (some .int), Cond.methodLink RX5 45 yX5_answers, Cond.instanceMethod yX5_answers, Cond.selects RX5 yX5_answers yX5_answers, Cond.code yX5_answers cX5_answers 5 (some .int), Cond.fieldLink RX5 7 "WireLoomModel" "s" "[I", Cond.methodLink RX5 42 yX5_strengthIn, Cond.instanceMethod yX5_strengthIn, Cond.selects RX5 yX5_strengthIn yX5_strengthIn, Cond.code yX5_strengthIn cX5_strengthIn 7 (some .int), Cond.methodLink RX5 39 yX5_hopsTo, Cond.instanceMethod yX5_hopsTo, Cond.selects RX5 yX5_hopsTo yX5_hopsTo, Cond.code yX5_hopsTo cX5_hopsTo 5 (some .int), Cond.methodLink RX5 35 yX5_reached]
def wsX5_share_r2 : List Cond := [Cond.instanceMethod yX5_reached, Cond.selects RX5 yX5_reached yX5_reached, Cond.code yX5_reached cX5_reached 9 (some .int), Cond.methodLink RX5 31 yX5_has, Cond.static yX5_has, Cond.code yX5_has cX5_has 2 (some .boolean), Cond.methodLink RX5 49 yX5_turned, Cond.instanceMethod yX5_turned, Cond.selects RX5 yX5_turned yX5_turned, Cond.code yX5_turned cX5_turned 3 (some .int), Cond.methodLink RX5 63 yX5_meant, Cond.instanceMethod yX5_meant, Cond.selects RX5 yX5_meant yX5_meant, Cond.code yX5_meant cX5_meant 3 (some .int)]
def wsX5_share : List Cond := .code yX5_share cX5_share 1 (some .double) :: ((wsX5_share_r1 ++ wsX5_share_r2) ++ wsX50)
def wsX5_rightShare_r1 : List Cond := [Cond.fieldLink RX5 23 "WireLoomModel" "thrown" "I", Cond.methodLink RX5 182 yX5_share, Cond.instanceMethod yX5_share, Cond.selects RX5 yX5_share yX5_share, Cond.initialized RX5, Cond.code yX5_share cX5_share 1 (some .double), Cond.constantDouble RX5 180 (4625196817309499392), Cond.methodLink RX5 152 yX5_right, Cond.instanceMethod yX5_right, Cond.selects RX5 yX5_right yX5_right, Cond.code yX5_right cX5_right 4 (some .int), Cond.methodLink RX5 52 yX5_wordOf, Cond.instanceMethod yX5_wordOf, Cond.selects RX5 yX5_wordOf yX5_wordOf, Cond.code yX5_wordOf cX5_wordOf 3 (some .int), Cond.methodLink RX5 45 yX5_answers, Cond.instanceMethod yX5_answers, Cond.selects RX5 yX5_answers yX5_answers, Cond.code yX5_answers cX5_answers 5 (some .int), Cond.fieldLink RX5 7 "WireLoomModel" "s" "[I", Cond.methodLink RX5 42 yX5_strengthIn, Cond.instanceMethod yX5_strengthIn, Cond.selects RX5 yX5_strengthIn yX5_strengthIn, Cond.code yX5_strengthIn cX5_strengthIn 7 (some .int)]
def wsX5_rightShare_r2 : List Cond := [Cond.methodLink RX5 39 yX5_hopsTo, Cond.instanceMethod yX5_hopsTo, Cond.selects RX5 yX5_hopsTo yX5_hopsTo, Cond.code yX5_hopsTo cX5_hopsTo 5 (some .int), Cond.methodLink RX5 35 yX5_reached, Cond.instanceMethod yX5_reached, Cond.selects RX5 yX5_reached yX5_reached, Cond.code yX5_reached cX5_reached 9 (some .int), Cond.methodLink RX5 31 yX5_has, Cond.static yX5_has, Cond.code yX5_has cX5_has 2 (some .boolean), Cond.methodLink RX5 49 yX5_turned, Cond.instanceMethod yX5_turned, Cond.selects RX5 yX5_turned yX5_turned, Cond.code yX5_turned cX5_turned 3 (some .int), Cond.methodLink RX5 63 yX5_meant, Cond.instanceMethod yX5_meant, Cond.selects RX5 yX5_meant yX5_meant, Cond.code yX5_meant cX5_meant 3 (some .int)]
def wsX5_rightShare : List Cond := .code yX5_rightShare cX5_rightShare 1 (some .double) :: ((wsX5_rightShare_r1 ++ wsX5_rightShare_r2) ++ wsX50)
def wsX5_mean : List Cond := .code yX5_mean cX5_mean 3 (some .float) :: ([.fieldLink RX5 7 "WireLoomModel" "s" "[I", .constantFloat RX5 186 (1090519040)] ++ wsX50)
def wsX5_meanWear : List Cond := .code yX5_meanWear cX5_meanWear 1 (some .float) :: ([.fieldLink RX5 23 "WireLoomModel" "thrown" "I", .methodLink RX5 187 yX5_mean, .instanceMethod yX5_mean, .selects RX5 yX5_mean yX5_mean, .initialized RX5, .code yX5_mean cX5_mean 3 (some .float), .fieldLink RX5 7 "WireLoomModel" "s" "[I", .constantFloat RX5 186 (1090519040)] ++ wsX50)
def wsX5_mix : List Cond := .code yX5_mix cX5_mix 3 none :: ([.constantLong RX5 191 (31), .fieldLink RX5 193 "WireLoomModel" "hash" "J"] ++ wsX50)
def wsX5_bits : List Cond := .code yX5_bits cX5_bits 10 (some .long) :: ([.constantDouble RX5 197 (4611686018427387904)])
def wsX5_mixThreads_r1 : List Cond := [Cond.methodLink RX5 134 yX5_ofThread, Cond.instanceMethod yX5_ofThread, Cond.selects RX5 yX5_ofThread yX5_ofThread, Cond.initialized RX5, Cond.code yX5_ofThread cX5_ofThread 3 (some .int), Cond.fieldLink RX5 7 "WireLoomModel" "s" "[I", Cond.methodLink RX5 63 yX5_meant, Cond.instanceMethod yX5_meant, Cond.selects RX5 yX5_meant yX5_meant, Cond.code yX5_meant cX5_meant 3 (some .int), Cond.methodLink RX5 49 yX5_turned, Cond.instanceMethod yX5_turned, Cond.selects RX5 yX5_turned yX5_turned, Cond.code yX5_turned cX5_turned 3 (some .int), Cond.methodLink RX5 52 yX5_wordOf, Cond.instanceMethod yX5_wordOf, Cond.selects RX5 yX5_wordOf yX5_wordOf, Cond.code yX5_wordOf cX5_wordOf 3 (some .int), Cond.methodLink RX5 45 yX5_answers, Cond.instanceMethod yX5_answers, Cond.selects RX5 yX5_answers yX5_answers, Cond.code yX5_answers cX5_answers 5 (some .int), Cond.methodLink RX5 42 yX5_strengthIn, Cond.instanceMethod yX5_strengthIn]
def wsX5_mixThreads_r2 : List Cond := [Cond.selects RX5 yX5_strengthIn yX5_strengthIn, Cond.code yX5_strengthIn cX5_strengthIn 7 (some .int), Cond.methodLink RX5 39 yX5_hopsTo, Cond.instanceMethod yX5_hopsTo, Cond.selects RX5 yX5_hopsTo yX5_hopsTo, Cond.code yX5_hopsTo cX5_hopsTo 5 (some .int), Cond.methodLink RX5 35 yX5_reached, Cond.instanceMethod yX5_reached, Cond.selects RX5 yX5_reached yX5_reached, Cond.code yX5_reached cX5_reached 9 (some .int), Cond.methodLink RX5 31 yX5_has, Cond.static yX5_has, Cond.code yX5_has cX5_has 2 (some .boolean), Cond.methodLink RX5 59 yX5_ones, Cond.static yX5_ones, Cond.code yX5_ones cX5_ones 3 (some .int), Cond.methodLink RX5 199 yX5_mix, Cond.instanceMethod yX5_mix, Cond.selects RX5 yX5_mix yX5_mix, Cond.code yX5_mix cX5_mix 3 none, Cond.constantLong RX5 191 (31), Cond.fieldLink RX5 193 "WireLoomModel" "hash" "J", Cond.methodLink RX5 174 yX5_readingsLeft, Cond.instanceMethod yX5_readingsLeft]
def wsX5_mixThreads_r3 : List Cond := [Cond.selects RX5 yX5_readingsLeft yX5_readingsLeft, Cond.code yX5_readingsLeft cX5_readingsLeft 4 (some .int), Cond.methodLink RX5 79 yX5_copies, Cond.instanceMethod yX5_copies, Cond.selects RX5 yX5_copies yX5_copies, Cond.code yX5_copies cX5_copies 4 none, Cond.methodLink RX5 66 yX5_reads, Cond.instanceMethod yX5_reads, Cond.selects RX5 yX5_reads yX5_reads, Cond.code yX5_reads cX5_reads 5 (some .int), Cond.methodLink RX5 55 yX5_wears, Cond.instanceMethod yX5_wears, Cond.selects RX5 yX5_wears yX5_wears, Cond.code yX5_wears cX5_wears 5 none, Cond.methodLink RX5 140 yX5_ofRing, Cond.instanceMethod yX5_ofRing, Cond.selects RX5 yX5_ofRing yX5_ofRing, Cond.code yX5_ofRing cX5_ofRing 4 (some .int), Cond.methodLink RX5 99 yX5_threadsOf, Cond.instanceMethod yX5_threadsOf, Cond.selects RX5 yX5_threadsOf yX5_threadsOf, Cond.code yX5_threadsOf cX5_threadsOf 4 (some .int), Cond.methodLink RX5 137 yX5_makers, Cond.instanceMethod yX5_makers]
def wsX5_mixThreads_r4 : List Cond := [Cond.selects RX5 yX5_makers yX5_makers, Cond.code yX5_makers cX5_makers 4 (some .int)]
def wsX5_mixThreads : List Cond := .code yX5_mixThreads cX5_mixThreads 3 none :: ((wsX5_mixThreads_r1 ++ (wsX5_mixThreads_r2 ++ (wsX5_mixThreads_r3 ++ wsX5_mixThreads_r4))) ++ wsX50)
def wsX5_digest_r1 : List Cond := [Cond.fieldLink RX5 23 "WireLoomModel" "thrown" "I", Cond.constantLong RX5 203 (3371), Cond.fieldLink RX5 193 "WireLoomModel" "hash" "J", Cond.fieldLink RX5 7 "WireLoomModel" "s" "[I", Cond.constantLong RX5 208 (-1), Cond.constantLong RX5 210 (4503599627370496), Cond.constantLong RX5 212 (1023), Cond.constantLong RX5 218 (8388608), Cond.constantLong RX5 220 (127), Cond.fieldLink RX5 13 "WireLoomModel" "isKept" "[Z", Cond.fieldLink RX5 105 "WireLoomModel" "length" "I", Cond.fieldLink RX5 17 "WireLoomModel" "text" "[I", Cond.methodLink RX5 162 yX5_counted, Cond.instanceMethod yX5_counted, Cond.selects RX5 yX5_counted yX5_counted, Cond.initialized RX5, Cond.code yX5_counted cX5_counted 2 (some .int), Cond.fieldLink RX5 76 "WireLoomModel" "saved" "I", Cond.methodLink RX5 131 yX5_crossings, Cond.instanceMethod yX5_crossings, Cond.selects RX5 yX5_crossings yX5_crossings, Cond.code yX5_crossings cX5_crossings 4 (some .int), Cond.methodLink RX5 59 yX5_ones, Cond.static yX5_ones]
def wsX5_digest_r2 : List Cond := [Cond.code yX5_ones cX5_ones 3 (some .int), Cond.methodLink RX5 149 yX5_byRings, Cond.instanceMethod yX5_byRings, Cond.selects RX5 yX5_byRings yX5_byRings, Cond.code yX5_byRings cX5_byRings 3 (some .int), Cond.methodLink RX5 99 yX5_threadsOf, Cond.instanceMethod yX5_threadsOf, Cond.selects RX5 yX5_threadsOf yX5_threadsOf, Cond.code yX5_threadsOf cX5_threadsOf 4 (some .int), Cond.methodLink RX5 31 yX5_has, Cond.static yX5_has, Cond.code yX5_has cX5_has 2 (some .boolean), Cond.methodLink RX5 152 yX5_right, Cond.instanceMethod yX5_right, Cond.selects RX5 yX5_right yX5_right, Cond.code yX5_right cX5_right 4 (some .int), Cond.methodLink RX5 52 yX5_wordOf, Cond.instanceMethod yX5_wordOf, Cond.selects RX5 yX5_wordOf yX5_wordOf, Cond.code yX5_wordOf cX5_wordOf 3 (some .int), Cond.methodLink RX5 45 yX5_answers, Cond.instanceMethod yX5_answers, Cond.selects RX5 yX5_answers yX5_answers, Cond.code yX5_answers cX5_answers 5 (some .int)]
def wsX5_digest_r3 : List Cond := [Cond.methodLink RX5 42 yX5_strengthIn, Cond.instanceMethod yX5_strengthIn, Cond.selects RX5 yX5_strengthIn yX5_strengthIn, Cond.code yX5_strengthIn cX5_strengthIn 7 (some .int), Cond.methodLink RX5 39 yX5_hopsTo, Cond.instanceMethod yX5_hopsTo, Cond.selects RX5 yX5_hopsTo yX5_hopsTo, Cond.code yX5_hopsTo cX5_hopsTo 5 (some .int), Cond.methodLink RX5 35 yX5_reached, Cond.instanceMethod yX5_reached, Cond.selects RX5 yX5_reached yX5_reached, Cond.code yX5_reached cX5_reached 9 (some .int), Cond.methodLink RX5 49 yX5_turned, Cond.instanceMethod yX5_turned, Cond.selects RX5 yX5_turned yX5_turned, Cond.code yX5_turned cX5_turned 3 (some .int), Cond.methodLink RX5 63 yX5_meant, Cond.instanceMethod yX5_meant, Cond.selects RX5 yX5_meant yX5_meant, Cond.code yX5_meant cX5_meant 3 (some .int), Cond.methodLink RX5 155 yX5_greatestWear, Cond.instanceMethod yX5_greatestWear, Cond.selects RX5 yX5_greatestWear yX5_greatestWear, Cond.code yX5_greatestWear cX5_greatestWear 3 (some .int)]
def wsX5_digest_r4 : List Cond := [Cond.methodLink RX5 158 yX5_pairs, Cond.instanceMethod yX5_pairs, Cond.selects RX5 yX5_pairs yX5_pairs, Cond.code yX5_pairs cX5_pairs 7 (some .int), Cond.methodLink RX5 199 yX5_mix, Cond.instanceMethod yX5_mix, Cond.selects RX5 yX5_mix yX5_mix, Cond.code yX5_mix cX5_mix 3 none, Cond.constantLong RX5 191 (31), Cond.methodLink RX5 205 yX5_mixThreads, Cond.instanceMethod yX5_mixThreads, Cond.selects RX5 yX5_mixThreads yX5_mixThreads, Cond.code yX5_mixThreads cX5_mixThreads 3 none, Cond.methodLink RX5 134 yX5_ofThread, Cond.instanceMethod yX5_ofThread, Cond.selects RX5 yX5_ofThread yX5_ofThread, Cond.code yX5_ofThread cX5_ofThread 3 (some .int), Cond.methodLink RX5 174 yX5_readingsLeft, Cond.instanceMethod yX5_readingsLeft, Cond.selects RX5 yX5_readingsLeft yX5_readingsLeft, Cond.code yX5_readingsLeft cX5_readingsLeft 4 (some .int), Cond.methodLink RX5 79 yX5_copies, Cond.instanceMethod yX5_copies, Cond.selects RX5 yX5_copies yX5_copies]
def wsX5_digest_r5 : List Cond := [Cond.code yX5_copies cX5_copies 4 none, Cond.methodLink RX5 66 yX5_reads, Cond.instanceMethod yX5_reads, Cond.selects RX5 yX5_reads yX5_reads, Cond.code yX5_reads cX5_reads 5 (some .int), Cond.methodLink RX5 55 yX5_wears, Cond.instanceMethod yX5_wears, Cond.selects RX5 yX5_wears yX5_wears, Cond.code yX5_wears cX5_wears 5 none, Cond.methodLink RX5 140 yX5_ofRing, Cond.instanceMethod yX5_ofRing, Cond.selects RX5 yX5_ofRing yX5_ofRing, Cond.code yX5_ofRing cX5_ofRing 4 (some .int), Cond.methodLink RX5 137 yX5_makers, Cond.instanceMethod yX5_makers, Cond.selects RX5 yX5_makers yX5_makers, Cond.code yX5_makers cX5_makers 4 (some .int), Cond.methodLink RX5 143 yX5_ofMachine, Cond.instanceMethod yX5_ofMachine, Cond.selects RX5 yX5_ofMachine yX5_ofMachine, Cond.code yX5_ofMachine cX5_ofMachine 2 (some .int), Cond.methodLink RX5 146 yX5_toldAgo, Cond.instanceMethod yX5_toldAgo, Cond.selects RX5 yX5_toldAgo yX5_toldAgo]
def wsX5_digest_r6 : List Cond := [Cond.code yX5_toldAgo cX5_toldAgo 2 (some .int), Cond.methodLink RX5 177 yX5_gone, Cond.instanceMethod yX5_gone, Cond.selects RX5 yX5_gone yX5_gone, Cond.code yX5_gone cX5_gone 4 (some .int), Cond.methodLink RX5 102 yX5_goes, Cond.instanceMethod yX5_goes, Cond.selects RX5 yX5_goes yX5_goes, Cond.code yX5_goes cX5_goes 4 (some .int), Cond.methodLink RX5 73 yX5_steps, Cond.instanceMethod yX5_steps, Cond.selects RX5 yX5_steps yX5_steps, Cond.code yX5_steps cX5_steps 5 none, Cond.methodLink RX5 69 yX5_tells, Cond.instanceMethod yX5_tells, Cond.selects RX5 yX5_tells yX5_tells, Cond.code yX5_tells cX5_tells 3 none, Cond.methodLink RX5 122 yX5_isProgram, Cond.instanceMethod yX5_isProgram, Cond.selects RX5 yX5_isProgram yX5_isProgram, Cond.code yX5_isProgram cX5_isProgram 1 (some .boolean), Cond.fieldLink RX5 108 "WireLoomModel" "at" "I", Cond.fieldLink RX5 115 "WireLoomModel" "many" "I", Cond.methodLink RX5 118 yX5_isWord]
def wsX5_digest_r7 : List Cond := [Cond.instanceMethod yX5_isWord, Cond.selects RX5 yX5_isWord yX5_isWord, Cond.code yX5_isWord cX5_isWord 3 (some .boolean), Cond.fieldLink RX5 20 "WireLoomModel" "words" "[I", Cond.methodLink RX5 111 yX5_digit, Cond.instanceMethod yX5_digit, Cond.selects RX5 yX5_digit yX5_digit, Cond.code yX5_digit cX5_digit 3 (some .int), Cond.methodLink RX5 27 yX5_in, Cond.static yX5_in, Cond.code yX5_in cX5_in 3 (some .boolean), Cond.methodLink RX5 165 yX5_wouldLoad, Cond.instanceMethod yX5_wouldLoad, Cond.selects RX5 yX5_wouldLoad yX5_wouldLoad, Cond.code yX5_wouldLoad cX5_wouldLoad 2 (some .int), Cond.methodLink RX5 125 yX5_loads, Cond.instanceMethod yX5_loads, Cond.selects RX5 yX5_loads yX5_loads, Cond.code yX5_loads cX5_loads 5 (some .int), Cond.methodLink RX5 96 yX5_lays, Cond.instanceMethod yX5_lays, Cond.selects RX5 yX5_lays yX5_lays, Cond.code yX5_lays cX5_lays 6 (some .int), Cond.methodLink RX5 168 yX5_placeFound]
def wsX5_digest_r8 : List Cond := [Cond.instanceMethod yX5_placeFound, Cond.selects RX5 yX5_placeFound yX5_placeFound, Cond.code yX5_placeFound cX5_placeFound 3 (some .int), Cond.methodLink RX5 171 yX5_guardFound, Cond.instanceMethod yX5_guardFound, Cond.selects RX5 yX5_guardFound yX5_guardFound, Cond.code yX5_guardFound cX5_guardFound 5 (some .int), Cond.methodLink RX5 182 yX5_share, Cond.instanceMethod yX5_share, Cond.selects RX5 yX5_share yX5_share, Cond.code yX5_share cX5_share 1 (some .double), Cond.constantDouble RX5 180 (4625196817309499392), Cond.methodLink RX5 214 yX5_bits, Cond.static yX5_bits, Cond.code yX5_bits cX5_bits 10 (some .long), Cond.constantDouble RX5 197 (4611686018427387904), Cond.methodLink RX5 187 yX5_mean, Cond.instanceMethod yX5_mean, Cond.selects RX5 yX5_mean yX5_mean, Cond.code yX5_mean cX5_mean 3 (some .float), Cond.constantFloat RX5 186 (1090519040)]
def wsX5_digest : List Cond := .code yX5_digest cX5_digest 2 (some .long) :: ((wsX5_digest_r1 ++ (wsX5_digest_r2 ++ (wsX5_digest_r3 ++ (wsX5_digest_r4 ++ (wsX5_digest_r5 ++ (wsX5_digest_r6 ++ (wsX5_digest_r7 ++ wsX5_digest_r8))))))) ++ wsX50)
def wsJ9_max_7cf53 : List Cond := .code yJ9_max_7cf53 cJ9_max_7cf53 2 (some .int) :: ([])
def wsJ9_min_7cf53 : List Cond := .code yJ9_min_7cf53 cJ9_min_7cf53 2 (some .int) :: ([])
def wsL_cross_r1 : List Cond := [Cond.classLink RL 13 "java/lang/IndexOutOfBoundsException", Cond.methodLink RL 7 yX4_cross, Cond.instanceMethod yX4_cross, Cond.selects RX4 yX4_cross yX4_cross, Cond.initialized RX4, Cond.code yX4_cross cX4_cross 3 (some .int), Cond.classLink RX4 52 "java/lang/IndexOutOfBoundsException", Cond.initialized "java/lang/IndexOutOfBoundsException", Cond.fieldLink RX4 22 "WireLoom" "past" "LWireLoom$Past;", Cond.fieldLink RX4 10 "WireLoom" "now" "LWireLoom$State;", Cond.fieldLink RX4 63 "WireLoom$State" "rings" "[I", Cond.methodLink RX4 45 yX4_isThread, Cond.static yX4_isThread, Cond.code yX4_isThread cX4_isThread 1 (some .boolean), Cond.methodLink RX4 75 yX4_isWithin, Cond.static yX4_isWithin, Cond.code yX4_isWithin cX4_isWithin 3 (some .boolean), Cond.methodLink RX4 49 yX4_isRing, Cond.static yX4_isRing, Cond.code yX4_isRing cX4_isRing 1 (some .boolean), Cond.methodLink RX4 59 yX1_push, Cond.instanceMethod yX1_push, Cond.selects RX1 yX1_push yX1_push, Cond.initialized RX1]
def wsL_cross_r2 : List Cond := [Cond.code yX1_push cX1_push 2 none, Cond.fieldLink RX1 11 "WireLoom$Past" "saved" "[LWireLoom$State;", Cond.fieldLink RX1 16 "WireLoom$Past" "oldest" "I", Cond.fieldLink RX1 20 "WireLoom$Past" "size" "I", Cond.methodLink RX1 23 yX2_become, Cond.instanceMethod yX2_become, Cond.selects RX2 yX2_become yX2_become, Cond.initialized RX2, Cond.code yX2_become cX2_become 2 none, Cond.fieldLink RX2 9 "WireLoom$State" "rings" "[I", Cond.methodLink RX2 31 arraycopyName, Cond.native arraycopyName, Cond.static arraycopyName, Cond.initialized "java/lang/System", Cond.fieldLink RX2 15 "WireLoom$State" "readings" "[I", Cond.fieldLink RX2 18 "WireLoom$State" "wear" "[I", Cond.fieldLink RX2 21 "WireLoom$State" "settings" "[I", Cond.fieldLink RX2 27 "WireLoom$State" "machine" "LWireLoom$Machine;", Cond.fieldLink RX2 41 "WireLoom$State" "guarded" "I", Cond.fieldLink RX2 45 "WireLoom$State" "crossingsChanged" "I", Cond.fieldLink RX2 48 "WireLoom$State" "readingsDone" "I", Cond.methodLink RX2 37 yX0_becomeLike, Cond.instanceMethod yX0_becomeLike, Cond.selects RX0 yX0_becomeLike yX0_becomeLike]
def wsL_cross_r3 : List Cond := [Cond.initialized RX0, Cond.code yX0_becomeLike cX0_becomeLike 2 none, Cond.fieldLink RX0 11 "WireLoom$Machine" "cells" "[I", Cond.methodLink RX0 38 arraycopyName, Cond.fieldLink RX0 15 "WireLoom$Machine" "latest" "[I", Cond.fieldLink RX0 21 "WireLoom$Machine" "place" "I", Cond.fieldLink RX0 25 "WireLoom$Machine" "count" "I", Cond.fieldLink RX0 28 "WireLoom$Machine" "running" "Z", Cond.fieldLink RX0 32 "WireLoom$Machine" "steps" "I", Cond.fieldLink RX0 35 "WireLoom$Machine" "tellings" "I", Cond.methodLink RX4 66 yX2_layThrough, Cond.instanceMethod yX2_layThrough, Cond.selects RX2 yX2_layThrough yX2_layThrough, Cond.code yX2_layThrough cX2_layThrough 5 (some .int), Cond.methodLink RX2 58 yX2_wearRings, Cond.instanceMethod yX2_wearRings, Cond.selects RX2 yX2_wearRings yX2_wearRings, Cond.code yX2_wearRings cX2_wearRings 4 none, Cond.methodLink RX2 74 Lib.Math.min.name, Cond.static Lib.Math.min.name, Cond.initialized "java/lang/Math", Cond.code Lib.Math.min.name Lib.Math.min.code 2 (some .int), Cond.static yX4_bit, Cond.code yX4_bit cX4_bit 2 (some .int)]
def wsL_cross_r4 : List Cond := [Cond.methodLink RX2 62 yJ6_bitCount_0f7a4, Cond.static yJ6_bitCount_0f7a4, Cond.initialized RJ6, Cond.code yJ6_bitCount_0f7a4 cJ6_bitCount_0f7a4 1 (some .int), Cond.constant RJ6 265 (1431655765), Cond.constant RJ6 266 (858993459), Cond.constant RJ6 267 (252645135), Cond.methodLink RX4 70 yX4_bit]
def wsL_cross : List Cond := .codeWith yL_cross cL_cross 5 (some .int) [(0, 10, 13, 13)] :: ((wsL_cross_r1 ++ (wsL_cross_r2 ++ (wsL_cross_r3 ++ wsL_cross_r4))) ++ wsX40 ++ wsX20 ++ wsX10 ++ wsX00 ++ (vx_atS RX4 56 "java/lang/IndexOutOfBoundsException" ["java/lang/RuntimeException", "java/lang/Exception"]).filter goodWord)
def wsL_lay_r1 : List Cond := [Cond.classLink RL 13 "java/lang/IndexOutOfBoundsException", Cond.classLink RL 18 "java/lang/IllegalArgumentException", Cond.methodLink RL 15 yX4_lay, Cond.instanceMethod yX4_lay, Cond.selects RX4 yX4_lay yX4_lay, Cond.initialized RX4, Cond.code yX4_lay cX4_lay 3 (some .int), Cond.classLink RX4 52 "java/lang/IndexOutOfBoundsException", Cond.initialized "java/lang/IndexOutOfBoundsException", Cond.classLink RX4 79 "java/lang/IllegalArgumentException", Cond.initialized "java/lang/IllegalArgumentException", Cond.fieldLink RX4 22 "WireLoom" "past" "LWireLoom$Past;", Cond.fieldLink RX4 10 "WireLoom" "now" "LWireLoom$State;", Cond.methodLink RX4 45 yX4_isThread, Cond.static yX4_isThread, Cond.code yX4_isThread cX4_isThread 1 (some .boolean), Cond.methodLink RX4 75 yX4_isWithin, Cond.static yX4_isWithin, Cond.code yX4_isWithin cX4_isWithin 3 (some .boolean), Cond.methodLink RX4 59 yX1_push, Cond.instanceMethod yX1_push, Cond.selects RX1 yX1_push yX1_push, Cond.initialized RX1, Cond.code yX1_push cX1_push 2 none]
def wsL_lay_r2 : List Cond := [Cond.fieldLink RX1 11 "WireLoom$Past" "saved" "[LWireLoom$State;", Cond.fieldLink RX1 16 "WireLoom$Past" "oldest" "I", Cond.fieldLink RX1 20 "WireLoom$Past" "size" "I", Cond.methodLink RX1 23 yX2_become, Cond.instanceMethod yX2_become, Cond.selects RX2 yX2_become yX2_become, Cond.initialized RX2, Cond.code yX2_become cX2_become 2 none, Cond.fieldLink RX2 9 "WireLoom$State" "rings" "[I", Cond.methodLink RX2 31 arraycopyName, Cond.native arraycopyName, Cond.static arraycopyName, Cond.initialized "java/lang/System", Cond.fieldLink RX2 15 "WireLoom$State" "readings" "[I", Cond.fieldLink RX2 18 "WireLoom$State" "wear" "[I", Cond.fieldLink RX2 21 "WireLoom$State" "settings" "[I", Cond.fieldLink RX2 27 "WireLoom$State" "machine" "LWireLoom$Machine;", Cond.fieldLink RX2 41 "WireLoom$State" "guarded" "I", Cond.fieldLink RX2 45 "WireLoom$State" "crossingsChanged" "I", Cond.fieldLink RX2 48 "WireLoom$State" "readingsDone" "I", Cond.methodLink RX2 37 yX0_becomeLike, Cond.instanceMethod yX0_becomeLike, Cond.selects RX0 yX0_becomeLike yX0_becomeLike, Cond.initialized RX0]
def wsL_lay_r3 : List Cond := [Cond.code yX0_becomeLike cX0_becomeLike 2 none, Cond.fieldLink RX0 11 "WireLoom$Machine" "cells" "[I", Cond.methodLink RX0 38 arraycopyName, Cond.fieldLink RX0 15 "WireLoom$Machine" "latest" "[I", Cond.fieldLink RX0 21 "WireLoom$Machine" "place" "I", Cond.fieldLink RX0 25 "WireLoom$Machine" "count" "I", Cond.fieldLink RX0 28 "WireLoom$Machine" "running" "Z", Cond.fieldLink RX0 32 "WireLoom$Machine" "steps" "I", Cond.fieldLink RX0 35 "WireLoom$Machine" "tellings" "I", Cond.methodLink RX4 84 yX2_asWord, Cond.instanceMethod yX2_asWord, Cond.selects RX2 yX2_asWord yX2_asWord, Cond.code yX2_asWord cX2_asWord 2 (some .int), Cond.methodLink RX4 66 yX2_layThrough, Cond.instanceMethod yX2_layThrough, Cond.selects RX2 yX2_layThrough yX2_layThrough, Cond.code yX2_layThrough cX2_layThrough 5 (some .int), Cond.methodLink RX2 58 yX2_wearRings, Cond.instanceMethod yX2_wearRings, Cond.selects RX2 yX2_wearRings yX2_wearRings, Cond.code yX2_wearRings cX2_wearRings 4 none, Cond.methodLink RX2 74 Lib.Math.min.name, Cond.static Lib.Math.min.name, Cond.initialized "java/lang/Math"]
def wsL_lay_r4 : List Cond := [Cond.code Lib.Math.min.name Lib.Math.min.code 2 (some .int), Cond.static yX4_bit, Cond.code yX4_bit cX4_bit 2 (some .int), Cond.methodLink RX2 62 yJ6_bitCount_0f7a4, Cond.static yJ6_bitCount_0f7a4, Cond.initialized RJ6, Cond.code yJ6_bitCount_0f7a4 cJ6_bitCount_0f7a4 1 (some .int), Cond.constant RJ6 265 (1431655765), Cond.constant RJ6 266 (858993459), Cond.constant RJ6 267 (252645135)]
def wsL_lay : List Cond := .codeWith yL_lay cL_lay 5 (some .int) [(0, 10, 13, 13), (0, 10, 17, 18)] :: ((wsL_lay_r1 ++ (wsL_lay_r2 ++ (wsL_lay_r3 ++ wsL_lay_r4))) ++ wsX40 ++ wsX10 ++ wsX20 ++ wsX00 ++ (vx_atS RX4 56 "java/lang/IndexOutOfBoundsException" ["java/lang/RuntimeException", "java/lang/Exception"]).filter goodWord ++ (vx_atS RX4 83 "java/lang/IllegalArgumentException" ["java/lang/RuntimeException", "java/lang/Exception"]).filter goodWord)
def wsL_guard_r1 : List Cond := [Cond.classLink RL 13 "java/lang/IndexOutOfBoundsException", Cond.methodLink RL 20 yX4_guard, Cond.instanceMethod yX4_guard, Cond.selects RX4 yX4_guard yX4_guard, Cond.initialized RX4, Cond.code yX4_guard cX4_guard 2 (some .int), Cond.classLink RX4 52 "java/lang/IndexOutOfBoundsException", Cond.initialized "java/lang/IndexOutOfBoundsException", Cond.fieldLink RX4 22 "WireLoom" "past" "LWireLoom$Past;", Cond.fieldLink RX4 10 "WireLoom" "now" "LWireLoom$State;", Cond.fieldLink RX4 88 "WireLoom$State" "guarded" "I", Cond.methodLink RX4 45 yX4_isThread, Cond.static yX4_isThread, Cond.code yX4_isThread cX4_isThread 1 (some .boolean), Cond.methodLink RX4 75 yX4_isWithin, Cond.static yX4_isWithin, Cond.code yX4_isWithin cX4_isWithin 3 (some .boolean), Cond.methodLink RX4 59 yX1_push, Cond.instanceMethod yX1_push, Cond.selects RX1 yX1_push yX1_push, Cond.initialized RX1, Cond.code yX1_push cX1_push 2 none, Cond.fieldLink RX1 11 "WireLoom$Past" "saved" "[LWireLoom$State;", Cond.fieldLink RX1 16 "WireLoom$Past" "oldest" "I"]
def wsL_guard_r2 : List Cond := [Cond.fieldLink RX1 20 "WireLoom$Past" "size" "I", Cond.methodLink RX1 23 yX2_become, Cond.instanceMethod yX2_become, Cond.selects RX2 yX2_become yX2_become, Cond.initialized RX2, Cond.code yX2_become cX2_become 2 none, Cond.fieldLink RX2 9 "WireLoom$State" "rings" "[I", Cond.methodLink RX2 31 arraycopyName, Cond.native arraycopyName, Cond.static arraycopyName, Cond.initialized "java/lang/System", Cond.fieldLink RX2 15 "WireLoom$State" "readings" "[I", Cond.fieldLink RX2 18 "WireLoom$State" "wear" "[I", Cond.fieldLink RX2 21 "WireLoom$State" "settings" "[I", Cond.fieldLink RX2 27 "WireLoom$State" "machine" "LWireLoom$Machine;", Cond.fieldLink RX2 41 "WireLoom$State" "guarded" "I", Cond.fieldLink RX2 45 "WireLoom$State" "crossingsChanged" "I", Cond.fieldLink RX2 48 "WireLoom$State" "readingsDone" "I", Cond.methodLink RX2 37 yX0_becomeLike, Cond.instanceMethod yX0_becomeLike, Cond.selects RX0 yX0_becomeLike yX0_becomeLike, Cond.initialized RX0, Cond.code yX0_becomeLike cX0_becomeLike 2 none, Cond.fieldLink RX0 11 "WireLoom$Machine" "cells" "[I"]
def wsL_guard_r3 : List Cond := [Cond.methodLink RX0 38 arraycopyName, Cond.fieldLink RX0 15 "WireLoom$Machine" "latest" "[I", Cond.fieldLink RX0 21 "WireLoom$Machine" "place" "I", Cond.fieldLink RX0 25 "WireLoom$Machine" "count" "I", Cond.fieldLink RX0 28 "WireLoom$Machine" "running" "Z", Cond.fieldLink RX0 32 "WireLoom$Machine" "steps" "I", Cond.fieldLink RX0 35 "WireLoom$Machine" "tellings" "I", Cond.methodLink RX4 70 yX4_bit, Cond.static yX4_bit, Cond.code yX4_bit cX4_bit 2 (some .int)]
def wsL_guard : List Cond := .codeWith yL_guard cL_guard 4 (some .int) [(0, 9, 12, 13)] :: ((wsL_guard_r1 ++ (wsL_guard_r2 ++ wsL_guard_r3)) ++ wsX40 ++ wsX20 ++ wsX10 ++ wsX00 ++ (vx_atS RX4 56 "java/lang/IndexOutOfBoundsException" ["java/lang/RuntimeException", "java/lang/Exception"]).filter goodWord)
def wsL_change_r1 : List Cond := [Cond.classLink RL 13 "java/lang/IndexOutOfBoundsException", Cond.methodLink RL 24 yX4_change, Cond.instanceMethod yX4_change, Cond.selects RX4 yX4_change yX4_change, Cond.initialized RX4, Cond.code yX4_change cX4_change 2 (some .int), Cond.classLink RX4 52 "java/lang/IndexOutOfBoundsException", Cond.initialized "java/lang/IndexOutOfBoundsException", Cond.fieldLink RX4 22 "WireLoom" "past" "LWireLoom$Past;", Cond.fieldLink RX4 10 "WireLoom" "now" "LWireLoom$State;", Cond.methodLink RX4 49 yX4_isRing, Cond.static yX4_isRing, Cond.code yX4_isRing cX4_isRing 1 (some .boolean), Cond.methodLink RX4 75 yX4_isWithin, Cond.static yX4_isWithin, Cond.code yX4_isWithin cX4_isWithin 3 (some .boolean), Cond.methodLink RX4 59 yX1_push, Cond.instanceMethod yX1_push, Cond.selects RX1 yX1_push yX1_push, Cond.initialized RX1, Cond.code yX1_push cX1_push 2 none, Cond.fieldLink RX1 11 "WireLoom$Past" "saved" "[LWireLoom$State;", Cond.fieldLink RX1 16 "WireLoom$Past" "oldest" "I", Cond.fieldLink RX1 20 "WireLoom$Past" "size" "I"]
def wsL_change_r2 : List Cond := [Cond.methodLink RX1 23 yX2_become, Cond.instanceMethod yX2_become, Cond.selects RX2 yX2_become yX2_become, Cond.initialized RX2, Cond.code yX2_become cX2_become 2 none, Cond.fieldLink RX2 9 "WireLoom$State" "rings" "[I", Cond.methodLink RX2 31 arraycopyName, Cond.native arraycopyName, Cond.static arraycopyName, Cond.initialized "java/lang/System", Cond.fieldLink RX2 15 "WireLoom$State" "readings" "[I", Cond.fieldLink RX2 18 "WireLoom$State" "wear" "[I", Cond.fieldLink RX2 21 "WireLoom$State" "settings" "[I", Cond.fieldLink RX2 27 "WireLoom$State" "machine" "LWireLoom$Machine;", Cond.fieldLink RX2 41 "WireLoom$State" "guarded" "I", Cond.fieldLink RX2 45 "WireLoom$State" "crossingsChanged" "I", Cond.fieldLink RX2 48 "WireLoom$State" "readingsDone" "I", Cond.methodLink RX2 37 yX0_becomeLike, Cond.instanceMethod yX0_becomeLike, Cond.selects RX0 yX0_becomeLike yX0_becomeLike, Cond.initialized RX0, Cond.code yX0_becomeLike cX0_becomeLike 2 none, Cond.fieldLink RX0 11 "WireLoom$Machine" "cells" "[I", Cond.methodLink RX0 38 arraycopyName]
def wsL_change_r3 : List Cond := [Cond.fieldLink RX0 15 "WireLoom$Machine" "latest" "[I", Cond.fieldLink RX0 21 "WireLoom$Machine" "place" "I", Cond.fieldLink RX0 25 "WireLoom$Machine" "count" "I", Cond.fieldLink RX0 28 "WireLoom$Machine" "running" "Z", Cond.fieldLink RX0 32 "WireLoom$Machine" "steps" "I", Cond.fieldLink RX0 35 "WireLoom$Machine" "tellings" "I", Cond.methodLink RX4 94 yX2_renewRing, Cond.instanceMethod yX2_renewRing, Cond.selects RX2 yX2_renewRing yX2_renewRing, Cond.code yX2_renewRing cX2_renewRing 4 (some .int), Cond.methodLink RX2 67 yX2_threadsThrough, Cond.instanceMethod yX2_threadsThrough, Cond.selects RX2 yX2_threadsThrough yX2_threadsThrough, Cond.code yX2_threadsThrough cX2_threadsThrough 4 (some .int), Cond.static yX4_bit, Cond.code yX4_bit cX4_bit 2 (some .int), Cond.methodLink RX2 62 yJ6_bitCount_0f7a4, Cond.static yJ6_bitCount_0f7a4, Cond.initialized RJ6, Cond.code yJ6_bitCount_0f7a4 cJ6_bitCount_0f7a4 1 (some .int), Cond.constant RJ6 265 (1431655765), Cond.constant RJ6 266 (858993459), Cond.constant RJ6 267 (252645135)]
def wsL_change : List Cond := .codeWith yL_change cL_change 4 (some .int) [(0, 9, 12, 13)] :: ((wsL_change_r1 ++ (wsL_change_r2 ++ wsL_change_r3)) ++ wsX40 ++ wsX10 ++ wsX20 ++ wsX00 ++ (vx_atS RX4 56 "java/lang/IndexOutOfBoundsException" ["java/lang/RuntimeException", "java/lang/Exception"]).filter goodWord)
def wsL_set_r1 : List Cond := [Cond.classLink RL 13 "java/lang/IndexOutOfBoundsException", Cond.classLink RL 18 "java/lang/IllegalArgumentException", Cond.methodLink RL 27 yX4_set, Cond.instanceMethod yX4_set, Cond.selects RX4 yX4_set yX4_set, Cond.initialized RX4, Cond.code yX4_set cX4_set 4 (some .int), Cond.classLink RX4 52 "java/lang/IndexOutOfBoundsException", Cond.initialized "java/lang/IndexOutOfBoundsException", Cond.classLink RX4 79 "java/lang/IllegalArgumentException", Cond.initialized "java/lang/IllegalArgumentException", Cond.fieldLink RX4 22 "WireLoom" "past" "LWireLoom$Past;", Cond.fieldLink RX4 10 "WireLoom" "now" "LWireLoom$State;", Cond.fieldLink RX4 104 "WireLoom$State" "settings" "[I", Cond.methodLink RX4 97 yX4_isSetting, Cond.static yX4_isSetting, Cond.code yX4_isSetting cX4_isSetting 1 (some .boolean), Cond.methodLink RX4 75 yX4_isWithin, Cond.static yX4_isWithin, Cond.code yX4_isWithin cX4_isWithin 3 (some .boolean), Cond.methodLink RX4 59 yX1_push, Cond.instanceMethod yX1_push, Cond.selects RX1 yX1_push yX1_push, Cond.initialized RX1]
def wsL_set_r2 : List Cond := [Cond.code yX1_push cX1_push 2 none, Cond.fieldLink RX1 11 "WireLoom$Past" "saved" "[LWireLoom$State;", Cond.fieldLink RX1 16 "WireLoom$Past" "oldest" "I", Cond.fieldLink RX1 20 "WireLoom$Past" "size" "I", Cond.methodLink RX1 23 yX2_become, Cond.instanceMethod yX2_become, Cond.selects RX2 yX2_become yX2_become, Cond.initialized RX2, Cond.code yX2_become cX2_become 2 none, Cond.fieldLink RX2 9 "WireLoom$State" "rings" "[I", Cond.methodLink RX2 31 arraycopyName, Cond.native arraycopyName, Cond.static arraycopyName, Cond.initialized "java/lang/System", Cond.fieldLink RX2 15 "WireLoom$State" "readings" "[I", Cond.fieldLink RX2 18 "WireLoom$State" "wear" "[I", Cond.fieldLink RX2 21 "WireLoom$State" "settings" "[I", Cond.fieldLink RX2 27 "WireLoom$State" "machine" "LWireLoom$Machine;", Cond.fieldLink RX2 41 "WireLoom$State" "guarded" "I", Cond.fieldLink RX2 45 "WireLoom$State" "crossingsChanged" "I", Cond.fieldLink RX2 48 "WireLoom$State" "readingsDone" "I", Cond.methodLink RX2 37 yX0_becomeLike, Cond.instanceMethod yX0_becomeLike, Cond.selects RX0 yX0_becomeLike yX0_becomeLike]
def wsL_set_r3 : List Cond := [Cond.initialized RX0, Cond.code yX0_becomeLike cX0_becomeLike 2 none, Cond.fieldLink RX0 11 "WireLoom$Machine" "cells" "[I", Cond.methodLink RX0 38 arraycopyName, Cond.fieldLink RX0 15 "WireLoom$Machine" "latest" "[I", Cond.fieldLink RX0 21 "WireLoom$Machine" "place" "I", Cond.fieldLink RX0 25 "WireLoom$Machine" "count" "I", Cond.fieldLink RX0 28 "WireLoom$Machine" "running" "Z", Cond.fieldLink RX0 32 "WireLoom$Machine" "steps" "I", Cond.fieldLink RX0 35 "WireLoom$Machine" "tellings" "I"]
def wsL_set : List Cond := .codeWith yL_set cL_set 5 (some .int) [(0, 10, 13, 13), (0, 10, 17, 18)] :: ((wsL_set_r1 ++ (wsL_set_r2 ++ wsL_set_r3)) ++ wsX40 ++ wsX20 ++ wsX10 ++ wsX00 ++ (vx_atS RX4 56 "java/lang/IndexOutOfBoundsException" ["java/lang/RuntimeException", "java/lang/Exception"]).filter goodWord ++ (vx_atS RX4 83 "java/lang/IllegalArgumentException" ["java/lang/RuntimeException", "java/lang/Exception"]).filter goodWord)
def wsL_read_r1 : List Cond := [Cond.classLink RL 13 "java/lang/IndexOutOfBoundsException", Cond.methodLink RL 30 yX4_read, Cond.instanceMethod yX4_read, Cond.selects RX4 yX4_read yX4_read, Cond.initialized RX4, Cond.code yX4_read cX4_read 2 (some .int), Cond.classLink RX4 52 "java/lang/IndexOutOfBoundsException", Cond.initialized "java/lang/IndexOutOfBoundsException", Cond.fieldLink RX4 22 "WireLoom" "past" "LWireLoom$Past;", Cond.fieldLink RX4 10 "WireLoom" "now" "LWireLoom$State;", Cond.methodLink RX4 45 yX4_isThread, Cond.static yX4_isThread, Cond.code yX4_isThread cX4_isThread 1 (some .boolean), Cond.methodLink RX4 75 yX4_isWithin, Cond.static yX4_isWithin, Cond.code yX4_isWithin cX4_isWithin 3 (some .boolean), Cond.methodLink RX4 59 yX1_push, Cond.instanceMethod yX1_push, Cond.selects RX1 yX1_push yX1_push, Cond.initialized RX1, Cond.code yX1_push cX1_push 2 none, Cond.fieldLink RX1 11 "WireLoom$Past" "saved" "[LWireLoom$State;", Cond.fieldLink RX1 16 "WireLoom$Past" "oldest" "I", Cond.fieldLink RX1 20 "WireLoom$Past" "size" "I"]
def wsL_read_r2 : List Cond := [Cond.methodLink RX1 23 yX2_become, Cond.instanceMethod yX2_become, Cond.selects RX2 yX2_become yX2_become, Cond.initialized RX2, Cond.code yX2_become cX2_become 2 none, Cond.fieldLink RX2 9 "WireLoom$State" "rings" "[I", Cond.methodLink RX2 31 arraycopyName, Cond.native arraycopyName, Cond.static arraycopyName, Cond.initialized "java/lang/System", Cond.fieldLink RX2 15 "WireLoom$State" "readings" "[I", Cond.fieldLink RX2 18 "WireLoom$State" "wear" "[I", Cond.fieldLink RX2 21 "WireLoom$State" "settings" "[I", Cond.fieldLink RX2 27 "WireLoom$State" "machine" "LWireLoom$Machine;", Cond.fieldLink RX2 41 "WireLoom$State" "guarded" "I", Cond.fieldLink RX2 45 "WireLoom$State" "crossingsChanged" "I", Cond.fieldLink RX2 48 "WireLoom$State" "readingsDone" "I", Cond.methodLink RX2 37 yX0_becomeLike, Cond.instanceMethod yX0_becomeLike, Cond.selects RX0 yX0_becomeLike yX0_becomeLike, Cond.initialized RX0, Cond.code yX0_becomeLike cX0_becomeLike 2 none, Cond.fieldLink RX0 11 "WireLoom$Machine" "cells" "[I", Cond.methodLink RX0 38 arraycopyName]
def wsL_read_r3 : List Cond := [Cond.fieldLink RX0 15 "WireLoom$Machine" "latest" "[I", Cond.fieldLink RX0 21 "WireLoom$Machine" "place" "I", Cond.fieldLink RX0 25 "WireLoom$Machine" "count" "I", Cond.fieldLink RX0 28 "WireLoom$Machine" "running" "Z", Cond.fieldLink RX0 32 "WireLoom$Machine" "steps" "I", Cond.fieldLink RX0 35 "WireLoom$Machine" "tellings" "I", Cond.methodLink RX4 107 yX2_takeReading, Cond.instanceMethod yX2_takeReading, Cond.selects RX2 yX2_takeReading yX2_takeReading, Cond.code yX2_takeReading cX2_takeReading 3 (some .int), Cond.methodLink RX2 79 yX2_tells, Cond.instanceMethod yX2_tells, Cond.selects RX2 yX2_tells yX2_tells, Cond.code yX2_tells cX2_tells 2 (some .int), Cond.methodLink RX2 55 yX2_answering, Cond.instanceMethod yX2_answering, Cond.selects RX2 yX2_answering yX2_answering, Cond.code yX2_answering cX2_answering 8 (some .int), Cond.static yX4_bit, Cond.code yX4_bit cX4_bit 2 (some .int), Cond.methodLink RX2 102 yX2_strengthAt, Cond.instanceMethod yX2_strengthAt, Cond.selects RX2 yX2_strengthAt yX2_strengthAt, Cond.code yX2_strengthAt cX2_strengthAt 4 (some .int)]
def wsL_read_r4 : List Cond := [Cond.methodLink RX2 99 Lib.Math.max.name, Cond.static Lib.Math.max.name, Cond.initialized "java/lang/Math", Cond.code Lib.Math.max.name Lib.Math.max.code 2 (some .int), Cond.methodLink RX2 96 yX2_oneThreadOn, Cond.instanceMethod yX2_oneThreadOn, Cond.selects RX2 yX2_oneThreadOn yX2_oneThreadOn, Cond.code yX2_oneThreadOn cX2_oneThreadOn 6 (some .int), Cond.methodLink RX2 51 yX2_asWord, Cond.instanceMethod yX2_asWord, Cond.selects RX2 yX2_asWord yX2_asWord, Cond.code yX2_asWord cX2_asWord 2 (some .int), Cond.methodLink RX2 58 yX2_wearRings, Cond.instanceMethod yX2_wearRings, Cond.selects RX2 yX2_wearRings yX2_wearRings, Cond.code yX2_wearRings cX2_wearRings 4 none, Cond.methodLink RX2 74 Lib.Math.min.name, Cond.static Lib.Math.min.name, Cond.code Lib.Math.min.name Lib.Math.min.code 2 (some .int)]
def wsL_read : List Cond := .codeWith yL_read cL_read 4 (some .int) [(0, 9, 12, 13)] :: ((wsL_read_r1 ++ (wsL_read_r2 ++ (wsL_read_r3 ++ wsL_read_r4))) ++ wsX40 ++ wsX10 ++ wsX20 ++ wsX00 ++ (vx_atS RX4 56 "java/lang/IndexOutOfBoundsException" ["java/lang/RuntimeException", "java/lang/Exception"]).filter goodWord)
def wsL_go_r1 : List Cond := [Cond.classLink RL 18 "java/lang/IllegalArgumentException", Cond.methodLink RL 33 yX4_go, Cond.instanceMethod yX4_go, Cond.selects RX4 yX4_go yX4_go, Cond.initialized RX4, Cond.code yX4_go cX4_go 2 (some .int), Cond.classLink RX4 79 "java/lang/IllegalArgumentException", Cond.initialized "java/lang/IllegalArgumentException", Cond.fieldLink RX4 22 "WireLoom" "past" "LWireLoom$Past;", Cond.fieldLink RX4 10 "WireLoom" "now" "LWireLoom$State;", Cond.methodLink RX4 75 yX4_isWithin, Cond.static yX4_isWithin, Cond.code yX4_isWithin cX4_isWithin 3 (some .boolean), Cond.methodLink RX4 59 yX1_push, Cond.instanceMethod yX1_push, Cond.selects RX1 yX1_push yX1_push, Cond.initialized RX1, Cond.code yX1_push cX1_push 2 none, Cond.fieldLink RX1 11 "WireLoom$Past" "saved" "[LWireLoom$State;", Cond.fieldLink RX1 16 "WireLoom$Past" "oldest" "I", Cond.fieldLink RX1 20 "WireLoom$Past" "size" "I", Cond.methodLink RX1 23 yX2_become, Cond.instanceMethod yX2_become, Cond.selects RX2 yX2_become yX2_become]
def wsL_go_r2 : List Cond := [Cond.initialized RX2, Cond.code yX2_become cX2_become 2 none, Cond.fieldLink RX2 9 "WireLoom$State" "rings" "[I", Cond.methodLink RX2 31 arraycopyName, Cond.native arraycopyName, Cond.static arraycopyName, Cond.initialized "java/lang/System", Cond.fieldLink RX2 15 "WireLoom$State" "readings" "[I", Cond.fieldLink RX2 18 "WireLoom$State" "wear" "[I", Cond.fieldLink RX2 21 "WireLoom$State" "settings" "[I", Cond.fieldLink RX2 27 "WireLoom$State" "machine" "LWireLoom$Machine;", Cond.fieldLink RX2 41 "WireLoom$State" "guarded" "I", Cond.fieldLink RX2 45 "WireLoom$State" "crossingsChanged" "I", Cond.fieldLink RX2 48 "WireLoom$State" "readingsDone" "I", Cond.methodLink RX2 37 yX0_becomeLike, Cond.instanceMethod yX0_becomeLike, Cond.selects RX0 yX0_becomeLike yX0_becomeLike, Cond.initialized RX0, Cond.code yX0_becomeLike cX0_becomeLike 2 none, Cond.fieldLink RX0 11 "WireLoom$Machine" "cells" "[I", Cond.methodLink RX0 38 arraycopyName, Cond.fieldLink RX0 15 "WireLoom$Machine" "latest" "[I", Cond.fieldLink RX0 21 "WireLoom$Machine" "place" "I", Cond.fieldLink RX0 25 "WireLoom$Machine" "count" "I"]
def wsL_go_r3 : List Cond := [Cond.fieldLink RX0 28 "WireLoom$Machine" "running" "Z", Cond.fieldLink RX0 32 "WireLoom$Machine" "steps" "I", Cond.fieldLink RX0 35 "WireLoom$Machine" "tellings" "I", Cond.methodLink RX4 124 yX2_run, Cond.instanceMethod yX2_run, Cond.selects RX2 yX2_run yX2_run, Cond.code yX2_run cX2_run 4 (some .int), Cond.fieldLink RX2 82 "WireLoom$Machine" "running" "Z", Cond.fieldLink RX2 86 "WireLoom$Machine" "place" "I", Cond.methodLink RX2 89 yX2_takeReading, Cond.instanceMethod yX2_takeReading, Cond.selects RX2 yX2_takeReading yX2_takeReading, Cond.code yX2_takeReading cX2_takeReading 3 (some .int), Cond.methodLink RX2 79 yX2_tells, Cond.instanceMethod yX2_tells, Cond.selects RX2 yX2_tells yX2_tells, Cond.code yX2_tells cX2_tells 2 (some .int), Cond.methodLink RX2 55 yX2_answering, Cond.instanceMethod yX2_answering, Cond.selects RX2 yX2_answering yX2_answering, Cond.code yX2_answering cX2_answering 8 (some .int), Cond.static yX4_bit, Cond.code yX4_bit cX4_bit 2 (some .int), Cond.methodLink RX2 102 yX2_strengthAt]
def wsL_go_r4 : List Cond := [Cond.instanceMethod yX2_strengthAt, Cond.selects RX2 yX2_strengthAt yX2_strengthAt, Cond.code yX2_strengthAt cX2_strengthAt 4 (some .int), Cond.methodLink RX2 99 Lib.Math.max.name, Cond.static Lib.Math.max.name, Cond.initialized "java/lang/Math", Cond.code Lib.Math.max.name Lib.Math.max.code 2 (some .int), Cond.methodLink RX2 96 yX2_oneThreadOn, Cond.instanceMethod yX2_oneThreadOn, Cond.selects RX2 yX2_oneThreadOn yX2_oneThreadOn, Cond.code yX2_oneThreadOn cX2_oneThreadOn 6 (some .int), Cond.methodLink RX2 51 yX2_asWord, Cond.instanceMethod yX2_asWord, Cond.selects RX2 yX2_asWord yX2_asWord, Cond.code yX2_asWord cX2_asWord 2 (some .int), Cond.methodLink RX2 58 yX2_wearRings, Cond.instanceMethod yX2_wearRings, Cond.selects RX2 yX2_wearRings yX2_wearRings, Cond.code yX2_wearRings cX2_wearRings 4 none, Cond.methodLink RX2 74 Lib.Math.min.name, Cond.static Lib.Math.min.name, Cond.code Lib.Math.min.name Lib.Math.min.code 2 (some .int), Cond.methodLink RX2 92 yX0_obey, Cond.instanceMethod yX0_obey]
def wsL_go_r5 : List Cond := [Cond.selects RX0 yX0_obey yX0_obey, Cond.code yX0_obey cX0_obey 4 none, Cond.methodLink RX0 44 yX0_tellCount, Cond.instanceMethod yX0_tellCount, Cond.selects RX0 yX0_tellCount yX0_tellCount, Cond.code yX0_tellCount cX0_tellCount 2 none]
def wsL_go : List Cond := .codeWith yL_go cL_go 4 (some .int) [(0, 9, 12, 18)] :: ((wsL_go_r1 ++ (wsL_go_r2 ++ (wsL_go_r3 ++ (wsL_go_r4 ++ wsL_go_r5)))) ++ wsX40 ++ wsX10 ++ wsX20 ++ wsX00 ++ (vx_atS RX4 83 "java/lang/IllegalArgumentException" ["java/lang/RuntimeException", "java/lang/Exception"]).filter goodWord)
def wsL_append : List Cond := .codeWith yL_append cL_append 4 (some .int) [(0, 9, 12, 18), (0, 9, 15, 39)] :: ([.classLink RL 18 "java/lang/IllegalArgumentException", .classLink RL 39 "java/lang/IllegalStateException", .methodLink RL 36 yX4_append, .instanceMethod yX4_append, .selects RX4 yX4_append yX4_append, .initialized RX4, .code yX4_append cX4_append 2 (some .int), .classLink RX4 79 "java/lang/IllegalArgumentException", .initialized "java/lang/IllegalArgumentException", .classLink RX4 132 "java/lang/IllegalStateException", .initialized "java/lang/IllegalStateException", .fieldLink RX4 37 "WireLoom" "buffer" "LWireLoom$Text;", .fieldLink RX4 129 "WireLoom$Text" "length" "I", .methodLink RX4 75 yX4_isWithin, .static yX4_isWithin, .code yX4_isWithin cX4_isWithin 3 (some .boolean), .methodLink RX4 137 yX3_put, .instanceMethod yX3_put, .selects RX3 yX3_put yX3_put, .initialized RX3, .code yX3_put cX3_put 2 none, .fieldLink RX3 18 "WireLoom$Text" "length" "I", .fieldLink RX3 11 "WireLoom$Text" "codes" "[I"] ++ wsX40 ++ wsX30 ++ (vx_atS RX4 83 "java/lang/IllegalArgumentException" ["java/lang/RuntimeException", "java/lang/Exception"]).filter goodWord ++ (vx_atS RX4 136 "java/lang/IllegalStateException" ["java/lang/RuntimeException", "java/lang/Exception"]).filter goodWord)
def wsL_load_r1 : List Cond := [Cond.classLink RL 13 "java/lang/IndexOutOfBoundsException", Cond.classLink RL 18 "java/lang/IllegalArgumentException", Cond.methodLink RL 41 yX4_load, Cond.instanceMethod yX4_load, Cond.selects RX4 yX4_load yX4_load, Cond.initialized RX4, Cond.code yX4_load cX4_load 4 (some .int), Cond.classLink RX4 52 "java/lang/IndexOutOfBoundsException", Cond.initialized "java/lang/IndexOutOfBoundsException", Cond.classLink RX4 79 "java/lang/IllegalArgumentException", Cond.initialized "java/lang/IllegalArgumentException", Cond.fieldLink RX4 37 "WireLoom" "buffer" "LWireLoom$Text;", Cond.fieldLink RX4 22 "WireLoom" "past" "LWireLoom$Past;", Cond.fieldLink RX4 10 "WireLoom" "now" "LWireLoom$State;", Cond.fieldLink RX4 151 "WireLoom$Text" "wordCount" "I", Cond.fieldLink RX4 154 "WireLoom$Text" "words" "[I", Cond.fieldLink RX4 129 "WireLoom$Text" "length" "I", Cond.methodLink RX4 45 yX4_isThread, Cond.static yX4_isThread, Cond.code yX4_isThread cX4_isThread 1 (some .boolean), Cond.methodLink RX4 75 yX4_isWithin, Cond.static yX4_isWithin, Cond.code yX4_isWithin cX4_isWithin 3 (some .boolean), Cond.methodLink RX4 145 yX3_tellsProgram]
def wsL_load_r2 : List Cond := [Cond.instanceMethod yX3_tellsProgram, Cond.selects RX3 yX3_tellsProgram yX3_tellsProgram, Cond.initialized RX3, Cond.code yX3_tellsProgram cX3_tellsProgram 1 (some .boolean), Cond.fieldLink RX3 18 "WireLoom$Text" "length" "I", Cond.fieldLink RX3 34 "WireLoom$Text" "phase" "I", Cond.methodLink RX3 30 yX3_parse, Cond.instanceMethod yX3_parse, Cond.selects RX3 yX3_parse yX3_parse, Cond.code yX3_parse cX3_parse 2 (some .int), Cond.fieldLink RX3 37 "WireLoom$Text" "wordCount" "I", Cond.fieldLink RX3 11 "WireLoom$Text" "codes" "[I", Cond.methodLink RX3 40 yX3_takeCode, Cond.instanceMethod yX3_takeCode, Cond.selects RX3 yX3_takeCode yX3_takeCode, Cond.code yX3_takeCode cX3_takeCode 4 none, Cond.fieldLink RX3 15 "WireLoom$Text" "words" "[I", Cond.methodLink RX3 43 yX3_digitOf, Cond.static yX3_digitOf, Cond.code yX3_digitOf cX3_digitOf 1 (some .int), Cond.methodLink RX4 59 yX1_push, Cond.instanceMethod yX1_push, Cond.selects RX1 yX1_push yX1_push, Cond.initialized RX1]
def wsL_load_r3 : List Cond := [Cond.code yX1_push cX1_push 2 none, Cond.fieldLink RX1 11 "WireLoom$Past" "saved" "[LWireLoom$State;", Cond.fieldLink RX1 16 "WireLoom$Past" "oldest" "I", Cond.fieldLink RX1 20 "WireLoom$Past" "size" "I", Cond.methodLink RX1 23 yX2_become, Cond.instanceMethod yX2_become, Cond.selects RX2 yX2_become yX2_become, Cond.initialized RX2, Cond.code yX2_become cX2_become 2 none, Cond.fieldLink RX2 9 "WireLoom$State" "rings" "[I", Cond.methodLink RX2 31 arraycopyName, Cond.native arraycopyName, Cond.static arraycopyName, Cond.initialized "java/lang/System", Cond.fieldLink RX2 15 "WireLoom$State" "readings" "[I", Cond.fieldLink RX2 18 "WireLoom$State" "wear" "[I", Cond.fieldLink RX2 21 "WireLoom$State" "settings" "[I", Cond.fieldLink RX2 27 "WireLoom$State" "machine" "LWireLoom$Machine;", Cond.fieldLink RX2 41 "WireLoom$State" "guarded" "I", Cond.fieldLink RX2 45 "WireLoom$State" "crossingsChanged" "I", Cond.fieldLink RX2 48 "WireLoom$State" "readingsDone" "I", Cond.methodLink RX2 37 yX0_becomeLike, Cond.instanceMethod yX0_becomeLike, Cond.selects RX0 yX0_becomeLike yX0_becomeLike]
def wsL_load_r4 : List Cond := [Cond.initialized RX0, Cond.code yX0_becomeLike cX0_becomeLike 2 none, Cond.fieldLink RX0 11 "WireLoom$Machine" "cells" "[I", Cond.methodLink RX0 38 arraycopyName, Cond.fieldLink RX0 15 "WireLoom$Machine" "latest" "[I", Cond.fieldLink RX0 21 "WireLoom$Machine" "place" "I", Cond.fieldLink RX0 25 "WireLoom$Machine" "count" "I", Cond.fieldLink RX0 28 "WireLoom$Machine" "running" "Z", Cond.fieldLink RX0 32 "WireLoom$Machine" "steps" "I", Cond.fieldLink RX0 35 "WireLoom$Machine" "tellings" "I", Cond.methodLink RX4 84 yX2_asWord, Cond.instanceMethod yX2_asWord, Cond.selects RX2 yX2_asWord yX2_asWord, Cond.code yX2_asWord cX2_asWord 2 (some .int), Cond.methodLink RX4 66 yX2_layThrough, Cond.instanceMethod yX2_layThrough, Cond.selects RX2 yX2_layThrough yX2_layThrough, Cond.code yX2_layThrough cX2_layThrough 5 (some .int), Cond.methodLink RX2 58 yX2_wearRings, Cond.instanceMethod yX2_wearRings, Cond.selects RX2 yX2_wearRings yX2_wearRings, Cond.code yX2_wearRings cX2_wearRings 4 none, Cond.methodLink RX2 74 Lib.Math.min.name, Cond.static Lib.Math.min.name]
def wsL_load_r5 : List Cond := [Cond.initialized "java/lang/Math", Cond.code Lib.Math.min.name Lib.Math.min.code 2 (some .int), Cond.static yX4_bit, Cond.code yX4_bit cX4_bit 2 (some .int), Cond.methodLink RX2 62 yJ6_bitCount_0f7a4, Cond.static yJ6_bitCount_0f7a4, Cond.initialized RJ6, Cond.code yJ6_bitCount_0f7a4 cJ6_bitCount_0f7a4 1 (some .int), Cond.constant RJ6 265 (1431655765), Cond.constant RJ6 266 (858993459), Cond.constant RJ6 267 (252645135)]
def wsL_load : List Cond := .codeWith yL_load cL_load 4 (some .int) [(0, 9, 12, 13), (0, 9, 15, 18)] :: ((wsL_load_r1 ++ (wsL_load_r2 ++ (wsL_load_r3 ++ (wsL_load_r4 ++ wsL_load_r5)))) ++ wsX40 ++ wsX30 ++ wsX10 ++ wsX20 ++ wsX00 ++ (vx_atS RX4 56 "java/lang/IndexOutOfBoundsException" ["java/lang/RuntimeException", "java/lang/Exception"]).filter goodWord ++ (vx_atS RX4 83 "java/lang/IllegalArgumentException" ["java/lang/RuntimeException", "java/lang/Exception"]).filter goodWord)
def wsL_write_r1 : List Cond := [Cond.classLink RL 13 "java/lang/IndexOutOfBoundsException", Cond.methodLink RL 44 yX4_write, Cond.instanceMethod yX4_write, Cond.selects RX4 yX4_write yX4_write, Cond.initialized RX4, Cond.code yX4_write cX4_write 4 (some .int), Cond.classLink RX4 52 "java/lang/IndexOutOfBoundsException", Cond.initialized "java/lang/IndexOutOfBoundsException", Cond.fieldLink RX4 37 "WireLoom" "buffer" "LWireLoom$Text;", Cond.fieldLink RX4 129 "WireLoom$Text" "length" "I", Cond.fieldLink RX4 10 "WireLoom" "now" "LWireLoom$State;", Cond.methodLink RX4 45 yX4_isThread, Cond.static yX4_isThread, Cond.code yX4_isThread cX4_isThread 1 (some .boolean), Cond.methodLink RX4 75 yX4_isWithin, Cond.static yX4_isWithin, Cond.code yX4_isWithin cX4_isWithin 3 (some .boolean), Cond.methodLink RX4 159 yX2_tells, Cond.instanceMethod yX2_tells, Cond.selects RX2 yX2_tells yX2_tells, Cond.initialized RX2, Cond.code yX2_tells cX2_tells 2 (some .int), Cond.methodLink RX2 55 yX2_answering, Cond.instanceMethod yX2_answering]
def wsL_write_r2 : List Cond := [Cond.selects RX2 yX2_answering yX2_answering, Cond.code yX2_answering cX2_answering 8 (some .int), Cond.fieldLink RX2 9 "WireLoom$State" "rings" "[I", Cond.fieldLink RX2 21 "WireLoom$State" "settings" "[I", Cond.static yX4_bit, Cond.code yX4_bit cX4_bit 2 (some .int), Cond.methodLink RX2 102 yX2_strengthAt, Cond.instanceMethod yX2_strengthAt, Cond.selects RX2 yX2_strengthAt yX2_strengthAt, Cond.code yX2_strengthAt cX2_strengthAt 4 (some .int), Cond.methodLink RX2 99 Lib.Math.max.name, Cond.static Lib.Math.max.name, Cond.initialized "java/lang/Math", Cond.code Lib.Math.max.name Lib.Math.max.code 2 (some .int), Cond.fieldLink RX2 18 "WireLoom$State" "wear" "[I", Cond.methodLink RX2 96 yX2_oneThreadOn, Cond.instanceMethod yX2_oneThreadOn, Cond.selects RX2 yX2_oneThreadOn yX2_oneThreadOn, Cond.code yX2_oneThreadOn cX2_oneThreadOn 6 (some .int), Cond.fieldLink RX2 41 "WireLoom$State" "guarded" "I", Cond.methodLink RX2 51 yX2_asWord, Cond.instanceMethod yX2_asWord, Cond.selects RX2 yX2_asWord yX2_asWord, Cond.code yX2_asWord cX2_asWord 2 (some .int)]
def wsL_write_r3 : List Cond := [Cond.methodLink RX4 162 yX3_putWord, Cond.instanceMethod yX3_putWord, Cond.selects RX3 yX3_putWord yX3_putWord, Cond.initialized RX3, Cond.code yX3_putWord cX3_putWord 2 none, Cond.methodLink RX3 22 yX3_signOf, Cond.static yX3_signOf, Cond.code yX3_signOf cX3_signOf 1 (some .int), Cond.methodLink RX3 26 yX3_put, Cond.instanceMethod yX3_put, Cond.selects RX3 yX3_put yX3_put, Cond.code yX3_put cX3_put 2 none, Cond.fieldLink RX3 18 "WireLoom$Text" "length" "I", Cond.fieldLink RX3 11 "WireLoom$Text" "codes" "[I"]
def wsL_write : List Cond := .codeWith yL_write cL_write 5 (some .int) [(0, 10, 13, 13)] :: ((wsL_write_r1 ++ (wsL_write_r2 ++ wsL_write_r3)) ++ wsX40 ++ wsX30 ++ wsX20 ++ (vx_atS RX4 56 "java/lang/IndexOutOfBoundsException" ["java/lang/RuntimeException", "java/lang/Exception"]).filter goodWord)
def wsL_keep_r1 : List Cond := [Cond.classLink RL 18 "java/lang/IllegalArgumentException", Cond.methodLink RL 47 yX4_keep, Cond.instanceMethod yX4_keep, Cond.selects RX4 yX4_keep yX4_keep, Cond.initialized RX4, Cond.code yX4_keep cX4_keep 2 (some .int), Cond.classLink RX4 79 "java/lang/IllegalArgumentException", Cond.initialized "java/lang/IllegalArgumentException", Cond.fieldLink RX4 26 "WireLoom" "snapshots" "[LWireLoom$State;", Cond.fieldLink RX4 10 "WireLoom" "now" "LWireLoom$State;", Cond.fieldLink RX4 30 "WireLoom" "kept" "[Z", Cond.methodLink RX4 165 yX4_isSlot, Cond.static yX4_isSlot, Cond.code yX4_isSlot cX4_isSlot 1 (some .boolean), Cond.methodLink RX4 75 yX4_isWithin, Cond.static yX4_isWithin, Cond.code yX4_isWithin cX4_isWithin 3 (some .boolean), Cond.methodLink RX4 170 yX2_become, Cond.instanceMethod yX2_become, Cond.selects RX2 yX2_become yX2_become, Cond.initialized RX2, Cond.code yX2_become cX2_become 2 none, Cond.fieldLink RX2 9 "WireLoom$State" "rings" "[I", Cond.methodLink RX2 31 arraycopyName]
def wsL_keep_r2 : List Cond := [Cond.native arraycopyName, Cond.static arraycopyName, Cond.initialized "java/lang/System", Cond.fieldLink RX2 15 "WireLoom$State" "readings" "[I", Cond.fieldLink RX2 18 "WireLoom$State" "wear" "[I", Cond.fieldLink RX2 21 "WireLoom$State" "settings" "[I", Cond.fieldLink RX2 27 "WireLoom$State" "machine" "LWireLoom$Machine;", Cond.fieldLink RX2 41 "WireLoom$State" "guarded" "I", Cond.fieldLink RX2 45 "WireLoom$State" "crossingsChanged" "I", Cond.fieldLink RX2 48 "WireLoom$State" "readingsDone" "I", Cond.methodLink RX2 37 yX0_becomeLike, Cond.instanceMethod yX0_becomeLike, Cond.selects RX0 yX0_becomeLike yX0_becomeLike, Cond.initialized RX0, Cond.code yX0_becomeLike cX0_becomeLike 2 none, Cond.fieldLink RX0 11 "WireLoom$Machine" "cells" "[I", Cond.methodLink RX0 38 arraycopyName, Cond.fieldLink RX0 15 "WireLoom$Machine" "latest" "[I", Cond.fieldLink RX0 21 "WireLoom$Machine" "place" "I", Cond.fieldLink RX0 25 "WireLoom$Machine" "count" "I", Cond.fieldLink RX0 28 "WireLoom$Machine" "running" "Z", Cond.fieldLink RX0 32 "WireLoom$Machine" "steps" "I", Cond.fieldLink RX0 35 "WireLoom$Machine" "tellings" "I", Cond.methodLink RX4 173 yX2_crossingsByThreads]
def wsL_keep_r3 : List Cond := [Cond.instanceMethod yX2_crossingsByThreads, Cond.selects RX2 yX2_crossingsByThreads yX2_crossingsByThreads, Cond.code yX2_crossingsByThreads cX2_crossingsByThreads 3 (some .int), Cond.methodLink RX2 62 yJ6_bitCount_0f7a4, Cond.static yJ6_bitCount_0f7a4, Cond.initialized RJ6, Cond.code yJ6_bitCount_0f7a4 cJ6_bitCount_0f7a4 1 (some .int), Cond.constant RJ6 265 (1431655765), Cond.constant RJ6 266 (858993459), Cond.constant RJ6 267 (252645135)]
def wsL_keep : List Cond := .codeWith yL_keep cL_keep 4 (some .int) [(0, 9, 12, 18)] :: ((wsL_keep_r1 ++ (wsL_keep_r2 ++ wsL_keep_r3)) ++ wsX40 ++ wsX20 ++ wsX00 ++ (vx_atS RX4 83 "java/lang/IllegalArgumentException" ["java/lang/RuntimeException", "java/lang/Exception"]).filter goodWord)
def wsL_goBack_r1 : List Cond := [Cond.classLink RL 18 "java/lang/IllegalArgumentException", Cond.classLink RL 39 "java/lang/IllegalStateException", Cond.methodLink RL 50 yX4_goBack, Cond.instanceMethod yX4_goBack, Cond.selects RX4 yX4_goBack yX4_goBack, Cond.initialized RX4, Cond.code yX4_goBack cX4_goBack 2 (some .int), Cond.classLink RX4 79 "java/lang/IllegalArgumentException", Cond.initialized "java/lang/IllegalArgumentException", Cond.classLink RX4 132 "java/lang/IllegalStateException", Cond.initialized "java/lang/IllegalStateException", Cond.fieldLink RX4 30 "WireLoom" "kept" "[Z", Cond.fieldLink RX4 22 "WireLoom" "past" "LWireLoom$Past;", Cond.fieldLink RX4 10 "WireLoom" "now" "LWireLoom$State;", Cond.fieldLink RX4 26 "WireLoom" "snapshots" "[LWireLoom$State;", Cond.methodLink RX4 165 yX4_isSlot, Cond.static yX4_isSlot, Cond.code yX4_isSlot cX4_isSlot 1 (some .boolean), Cond.methodLink RX4 75 yX4_isWithin, Cond.static yX4_isWithin, Cond.code yX4_isWithin cX4_isWithin 3 (some .boolean), Cond.methodLink RX4 59 yX1_push, Cond.instanceMethod yX1_push, Cond.selects RX1 yX1_push yX1_push]
def wsL_goBack_r2 : List Cond := [Cond.initialized RX1, Cond.code yX1_push cX1_push 2 none, Cond.fieldLink RX1 11 "WireLoom$Past" "saved" "[LWireLoom$State;", Cond.fieldLink RX1 16 "WireLoom$Past" "oldest" "I", Cond.fieldLink RX1 20 "WireLoom$Past" "size" "I", Cond.methodLink RX1 23 yX2_become, Cond.instanceMethod yX2_become, Cond.selects RX2 yX2_become yX2_become, Cond.initialized RX2, Cond.code yX2_become cX2_become 2 none, Cond.fieldLink RX2 9 "WireLoom$State" "rings" "[I", Cond.methodLink RX2 31 arraycopyName, Cond.native arraycopyName, Cond.static arraycopyName, Cond.initialized "java/lang/System", Cond.fieldLink RX2 15 "WireLoom$State" "readings" "[I", Cond.fieldLink RX2 18 "WireLoom$State" "wear" "[I", Cond.fieldLink RX2 21 "WireLoom$State" "settings" "[I", Cond.fieldLink RX2 27 "WireLoom$State" "machine" "LWireLoom$Machine;", Cond.fieldLink RX2 41 "WireLoom$State" "guarded" "I", Cond.fieldLink RX2 45 "WireLoom$State" "crossingsChanged" "I", Cond.fieldLink RX2 48 "WireLoom$State" "readingsDone" "I", Cond.methodLink RX2 37 yX0_becomeLike, Cond.instanceMethod yX0_becomeLike]
def wsL_goBack_r3 : List Cond := [Cond.selects RX0 yX0_becomeLike yX0_becomeLike, Cond.initialized RX0, Cond.code yX0_becomeLike cX0_becomeLike 2 none, Cond.fieldLink RX0 11 "WireLoom$Machine" "cells" "[I", Cond.methodLink RX0 38 arraycopyName, Cond.fieldLink RX0 15 "WireLoom$Machine" "latest" "[I", Cond.fieldLink RX0 21 "WireLoom$Machine" "place" "I", Cond.fieldLink RX0 25 "WireLoom$Machine" "count" "I", Cond.fieldLink RX0 28 "WireLoom$Machine" "running" "Z", Cond.fieldLink RX0 32 "WireLoom$Machine" "steps" "I", Cond.fieldLink RX0 35 "WireLoom$Machine" "tellings" "I", Cond.methodLink RX4 170 yX2_become, Cond.methodLink RX4 173 yX2_crossingsByThreads, Cond.instanceMethod yX2_crossingsByThreads, Cond.selects RX2 yX2_crossingsByThreads yX2_crossingsByThreads, Cond.code yX2_crossingsByThreads cX2_crossingsByThreads 3 (some .int), Cond.methodLink RX2 62 yJ6_bitCount_0f7a4, Cond.static yJ6_bitCount_0f7a4, Cond.initialized RJ6, Cond.code yJ6_bitCount_0f7a4 cJ6_bitCount_0f7a4 1 (some .int), Cond.constant RJ6 265 (1431655765), Cond.constant RJ6 266 (858993459), Cond.constant RJ6 267 (252645135)]
def wsL_goBack : List Cond := .codeWith yL_goBack cL_goBack 4 (some .int) [(0, 9, 12, 18), (0, 9, 15, 39)] :: ((wsL_goBack_r1 ++ (wsL_goBack_r2 ++ wsL_goBack_r3)) ++ wsX40 ++ wsX10 ++ wsX20 ++ wsX00 ++ (vx_atS RX4 83 "java/lang/IllegalArgumentException" ["java/lang/RuntimeException", "java/lang/Exception"]).filter goodWord ++ (vx_atS RX4 136 "java/lang/IllegalStateException" ["java/lang/RuntimeException", "java/lang/Exception"]).filter goodWord)
def wsL_undo_r1 : List Cond := [Cond.classLink RL 39 "java/lang/IllegalStateException", Cond.methodLink RL 53 yX4_undo, Cond.instanceMethod yX4_undo, Cond.selects RX4 yX4_undo yX4_undo, Cond.initialized RX4, Cond.code yX4_undo cX4_undo 1 (some .int), Cond.classLink RX4 132 "java/lang/IllegalStateException", Cond.initialized "java/lang/IllegalStateException", Cond.fieldLink RX4 22 "WireLoom" "past" "LWireLoom$Past;", Cond.fieldLink RX4 178 "WireLoom$Past" "size" "I", Cond.fieldLink RX4 10 "WireLoom" "now" "LWireLoom$State;", Cond.methodLink RX4 183 yX1_popInto, Cond.instanceMethod yX1_popInto, Cond.selects RX1 yX1_popInto yX1_popInto, Cond.initialized RX1, Cond.code yX1_popInto cX1_popInto 2 none, Cond.fieldLink RX1 20 "WireLoom$Past" "size" "I", Cond.fieldLink RX1 11 "WireLoom$Past" "saved" "[LWireLoom$State;", Cond.fieldLink RX1 16 "WireLoom$Past" "oldest" "I", Cond.methodLink RX1 23 yX2_become, Cond.instanceMethod yX2_become, Cond.selects RX2 yX2_become yX2_become, Cond.initialized RX2, Cond.code yX2_become cX2_become 2 none]
def wsL_undo_r2 : List Cond := [Cond.fieldLink RX2 9 "WireLoom$State" "rings" "[I", Cond.methodLink RX2 31 arraycopyName, Cond.native arraycopyName, Cond.static arraycopyName, Cond.initialized "java/lang/System", Cond.fieldLink RX2 15 "WireLoom$State" "readings" "[I", Cond.fieldLink RX2 18 "WireLoom$State" "wear" "[I", Cond.fieldLink RX2 21 "WireLoom$State" "settings" "[I", Cond.fieldLink RX2 27 "WireLoom$State" "machine" "LWireLoom$Machine;", Cond.fieldLink RX2 41 "WireLoom$State" "guarded" "I", Cond.fieldLink RX2 45 "WireLoom$State" "crossingsChanged" "I", Cond.fieldLink RX2 48 "WireLoom$State" "readingsDone" "I", Cond.methodLink RX2 37 yX0_becomeLike, Cond.instanceMethod yX0_becomeLike, Cond.selects RX0 yX0_becomeLike yX0_becomeLike, Cond.initialized RX0, Cond.code yX0_becomeLike cX0_becomeLike 2 none, Cond.fieldLink RX0 11 "WireLoom$Machine" "cells" "[I", Cond.methodLink RX0 38 arraycopyName, Cond.fieldLink RX0 15 "WireLoom$Machine" "latest" "[I", Cond.fieldLink RX0 21 "WireLoom$Machine" "place" "I", Cond.fieldLink RX0 25 "WireLoom$Machine" "count" "I", Cond.fieldLink RX0 28 "WireLoom$Machine" "running" "Z", Cond.fieldLink RX0 32 "WireLoom$Machine" "steps" "I"]
def wsL_undo_r3 : List Cond := [Cond.fieldLink RX0 35 "WireLoom$Machine" "tellings" "I"]
def wsL_undo : List Cond := .codeWith yL_undo cL_undo 3 (some .int) [(0, 8, 11, 39)] :: ((wsL_undo_r1 ++ (wsL_undo_r2 ++ wsL_undo_r3)) ++ wsX40 ++ wsX10 ++ wsX20 ++ wsX00 ++ (vx_atS RX4 136 "java/lang/IllegalStateException" ["java/lang/RuntimeException", "java/lang/Exception"]).filter goodWord)
def wsL_threadOf_r1 : List Cond := [Cond.classLink RL 13 "java/lang/IndexOutOfBoundsException", Cond.classLink RL 18 "java/lang/IllegalArgumentException", Cond.methodLink RL 57 yX4_threadOf, Cond.instanceMethod yX4_threadOf, Cond.selects RX4 yX4_threadOf yX4_threadOf, Cond.initialized RX4, Cond.code yX4_threadOf cX4_threadOf 3 (some .int), Cond.classLink RX4 52 "java/lang/IndexOutOfBoundsException", Cond.initialized "java/lang/IndexOutOfBoundsException", Cond.classLink RX4 79 "java/lang/IllegalArgumentException", Cond.initialized "java/lang/IllegalArgumentException", Cond.fieldLink RX4 10 "WireLoom" "now" "LWireLoom$State;", Cond.fieldLink RX4 63 "WireLoom$State" "rings" "[I", Cond.fieldLink RX4 88 "WireLoom$State" "guarded" "I", Cond.fieldLink RX4 197 "WireLoom$State" "readings" "[I", Cond.methodLink RX4 45 yX4_isThread, Cond.static yX4_isThread, Cond.code yX4_isThread cX4_isThread 1 (some .boolean), Cond.methodLink RX4 75 yX4_isWithin, Cond.static yX4_isWithin, Cond.code yX4_isWithin cX4_isWithin 3 (some .boolean), Cond.methodLink RX4 70 yX4_bit, Cond.static yX4_bit, Cond.code yX4_bit cX4_bit 2 (some .int)]
def wsL_threadOf_r2 : List Cond := [Cond.methodLink RX4 186 yX2_means, Cond.instanceMethod yX2_means, Cond.selects RX2 yX2_means yX2_means, Cond.initialized RX2, Cond.code yX2_means cX2_means 2 (some .int), Cond.fieldLink RX2 9 "WireLoom$State" "rings" "[I", Cond.methodLink RX2 51 yX2_asWord, Cond.instanceMethod yX2_asWord, Cond.selects RX2 yX2_asWord yX2_asWord, Cond.code yX2_asWord cX2_asWord 2 (some .int), Cond.fieldLink RX2 21 "WireLoom$State" "settings" "[I", Cond.methodLink RX4 159 yX2_tells, Cond.instanceMethod yX2_tells, Cond.selects RX2 yX2_tells yX2_tells, Cond.code yX2_tells cX2_tells 2 (some .int), Cond.methodLink RX2 55 yX2_answering, Cond.instanceMethod yX2_answering, Cond.selects RX2 yX2_answering yX2_answering, Cond.code yX2_answering cX2_answering 8 (some .int), Cond.methodLink RX2 102 yX2_strengthAt, Cond.instanceMethod yX2_strengthAt, Cond.selects RX2 yX2_strengthAt yX2_strengthAt, Cond.code yX2_strengthAt cX2_strengthAt 4 (some .int), Cond.methodLink RX2 99 Lib.Math.max.name]
def wsL_threadOf_r3 : List Cond := [Cond.static Lib.Math.max.name, Cond.initialized "java/lang/Math", Cond.code Lib.Math.max.name Lib.Math.max.code 2 (some .int), Cond.fieldLink RX2 18 "WireLoom$State" "wear" "[I", Cond.methodLink RX2 96 yX2_oneThreadOn, Cond.instanceMethod yX2_oneThreadOn, Cond.selects RX2 yX2_oneThreadOn yX2_oneThreadOn, Cond.code yX2_oneThreadOn cX2_oneThreadOn 6 (some .int), Cond.fieldLink RX2 41 "WireLoom$State" "guarded" "I", Cond.methodLink RX4 189 yJ6_bitCount_0f7a4, Cond.static yJ6_bitCount_0f7a4, Cond.initialized RJ6, Cond.code yJ6_bitCount_0f7a4 cJ6_bitCount_0f7a4 1 (some .int), Cond.constant RJ6 265 (1431655765), Cond.constant RJ6 266 (858993459), Cond.constant RJ6 267 (252645135), Cond.methodLink RX4 194 yX2_answering]
def wsL_threadOf : List Cond := .codeWith yL_threadOf cL_threadOf 5 (some .int) [(0, 10, 13, 13), (0, 10, 17, 18)] :: ((wsL_threadOf_r1 ++ (wsL_threadOf_r2 ++ wsL_threadOf_r3)) ++ wsX40 ++ wsX20 ++ (vx_atS RX4 56 "java/lang/IndexOutOfBoundsException" ["java/lang/RuntimeException", "java/lang/Exception"]).filter goodWord ++ (vx_atS RX4 83 "java/lang/IllegalArgumentException" ["java/lang/RuntimeException", "java/lang/Exception"]).filter goodWord)
def wsL_ringOf_r1 : List Cond := [Cond.classLink RL 13 "java/lang/IndexOutOfBoundsException", Cond.classLink RL 18 "java/lang/IllegalArgumentException", Cond.methodLink RL 60 yX4_ringOf, Cond.instanceMethod yX4_ringOf, Cond.selects RX4 yX4_ringOf yX4_ringOf, Cond.initialized RX4, Cond.code yX4_ringOf cX4_ringOf 3 (some .int), Cond.classLink RX4 52 "java/lang/IndexOutOfBoundsException", Cond.initialized "java/lang/IndexOutOfBoundsException", Cond.classLink RX4 79 "java/lang/IllegalArgumentException", Cond.initialized "java/lang/IllegalArgumentException", Cond.fieldLink RX4 10 "WireLoom" "now" "LWireLoom$State;", Cond.fieldLink RX4 202 "WireLoom$State" "wear" "[I", Cond.methodLink RX4 49 yX4_isRing, Cond.static yX4_isRing, Cond.code yX4_isRing cX4_isRing 1 (some .boolean), Cond.methodLink RX4 75 yX4_isWithin, Cond.static yX4_isWithin, Cond.code yX4_isWithin cX4_isWithin 3 (some .boolean), Cond.methodLink RX4 205 yX2_threadsThrough, Cond.instanceMethod yX2_threadsThrough, Cond.selects RX2 yX2_threadsThrough yX2_threadsThrough, Cond.initialized RX2, Cond.code yX2_threadsThrough cX2_threadsThrough 4 (some .int)]
def wsL_ringOf_r2 : List Cond := [Cond.fieldLink RX2 9 "WireLoom$State" "rings" "[I", Cond.static yX4_bit, Cond.code yX4_bit cX4_bit 2 (some .int), Cond.methodLink RX4 189 yJ6_bitCount_0f7a4, Cond.static yJ6_bitCount_0f7a4, Cond.initialized RJ6, Cond.code yJ6_bitCount_0f7a4 cJ6_bitCount_0f7a4 1 (some .int), Cond.constant RJ6 265 (1431655765), Cond.constant RJ6 266 (858993459), Cond.constant RJ6 267 (252645135), Cond.methodLink RX4 208 yX2_threadsAnswered, Cond.instanceMethod yX2_threadsAnswered, Cond.selects RX2 yX2_threadsAnswered yX2_threadsAnswered, Cond.code yX2_threadsAnswered cX2_threadsAnswered 4 (some .int), Cond.methodLink RX2 55 yX2_answering, Cond.instanceMethod yX2_answering, Cond.selects RX2 yX2_answering yX2_answering, Cond.code yX2_answering cX2_answering 8 (some .int), Cond.fieldLink RX2 21 "WireLoom$State" "settings" "[I", Cond.methodLink RX2 102 yX2_strengthAt, Cond.instanceMethod yX2_strengthAt, Cond.selects RX2 yX2_strengthAt yX2_strengthAt, Cond.code yX2_strengthAt cX2_strengthAt 4 (some .int), Cond.methodLink RX2 99 Lib.Math.max.name]
def wsL_ringOf_r3 : List Cond := [Cond.static Lib.Math.max.name, Cond.initialized "java/lang/Math", Cond.code Lib.Math.max.name Lib.Math.max.code 2 (some .int), Cond.fieldLink RX2 18 "WireLoom$State" "wear" "[I", Cond.methodLink RX2 96 yX2_oneThreadOn, Cond.instanceMethod yX2_oneThreadOn, Cond.selects RX2 yX2_oneThreadOn yX2_oneThreadOn, Cond.code yX2_oneThreadOn cX2_oneThreadOn 6 (some .int), Cond.fieldLink RX2 41 "WireLoom$State" "guarded" "I", Cond.methodLink RX4 211 yX2_isWornOut, Cond.instanceMethod yX2_isWornOut, Cond.selects RX2 yX2_isWornOut yX2_isWornOut, Cond.code yX2_isWornOut cX2_isWornOut 2 (some .boolean), Cond.methodLink RX2 67 yX2_threadsThrough]
def wsL_ringOf : List Cond := .codeWith yL_ringOf cL_ringOf 5 (some .int) [(0, 10, 13, 13), (0, 10, 17, 18)] :: ((wsL_ringOf_r1 ++ (wsL_ringOf_r2 ++ wsL_ringOf_r3)) ++ wsX40 ++ wsX20 ++ (vx_atS RX4 56 "java/lang/IndexOutOfBoundsException" ["java/lang/RuntimeException", "java/lang/Exception"]).filter goodWord ++ (vx_atS RX4 83 "java/lang/IllegalArgumentException" ["java/lang/RuntimeException", "java/lang/Exception"]).filter goodWord)
def wsL_strength_r1 : List Cond := [Cond.classLink RL 13 "java/lang/IndexOutOfBoundsException", Cond.classLink RL 18 "java/lang/IllegalArgumentException", Cond.methodLink RL 63 yX4_strength, Cond.instanceMethod yX4_strength, Cond.selects RX4 yX4_strength yX4_strength, Cond.initialized RX4, Cond.code yX4_strength cX4_strength 4 (some .int), Cond.classLink RX4 52 "java/lang/IndexOutOfBoundsException", Cond.initialized "java/lang/IndexOutOfBoundsException", Cond.classLink RX4 79 "java/lang/IllegalArgumentException", Cond.initialized "java/lang/IllegalArgumentException", Cond.fieldLink RX4 10 "WireLoom" "now" "LWireLoom$State;", Cond.methodLink RX4 45 yX4_isThread, Cond.static yX4_isThread, Cond.code yX4_isThread cX4_isThread 1 (some .boolean), Cond.methodLink RX4 75 yX4_isWithin, Cond.static yX4_isWithin, Cond.code yX4_isWithin cX4_isWithin 3 (some .boolean), Cond.methodLink RX4 49 yX4_isRing, Cond.static yX4_isRing, Cond.code yX4_isRing cX4_isRing 1 (some .boolean), Cond.methodLink RX4 216 yX2_hops, Cond.instanceMethod yX2_hops, Cond.selects RX2 yX2_hops yX2_hops]
def wsL_strength_r2 : List Cond := [Cond.initialized RX2, Cond.code yX2_hops cX2_hops 5 (some .int), Cond.fieldLink RX2 9 "WireLoom$State" "rings" "[I", Cond.static yX4_bit, Cond.code yX4_bit cX4_bit 2 (some .int), Cond.methodLink RX2 96 yX2_oneThreadOn, Cond.instanceMethod yX2_oneThreadOn, Cond.selects RX2 yX2_oneThreadOn yX2_oneThreadOn, Cond.code yX2_oneThreadOn cX2_oneThreadOn 6 (some .int), Cond.fieldLink RX2 41 "WireLoom$State" "guarded" "I", Cond.methodLink RX4 219 yX2_strengthAt, Cond.instanceMethod yX2_strengthAt, Cond.selects RX2 yX2_strengthAt yX2_strengthAt, Cond.code yX2_strengthAt cX2_strengthAt 4 (some .int), Cond.methodLink RX2 99 Lib.Math.max.name, Cond.static Lib.Math.max.name, Cond.initialized "java/lang/Math", Cond.code Lib.Math.max.name Lib.Math.max.code 2 (some .int), Cond.fieldLink RX2 18 "WireLoom$State" "wear" "[I"]
def wsL_strength : List Cond := .codeWith yL_strength cL_strength 6 (some .int) [(0, 12, 15, 13), (0, 12, 19, 18)] :: ((wsL_strength_r1 ++ wsL_strength_r2) ++ wsX40 ++ wsX20 ++ (vx_atS RX4 56 "java/lang/IndexOutOfBoundsException" ["java/lang/RuntimeException", "java/lang/Exception"]).filter goodWord ++ (vx_atS RX4 83 "java/lang/IllegalArgumentException" ["java/lang/RuntimeException", "java/lang/Exception"]).filter goodWord)
def wsL_machine : List Cond := .codeWith yL_machine cL_machine 4 (some .int) [(0, 9, 12, 18)] :: ([.classLink RL 18 "java/lang/IllegalArgumentException", .methodLink RL 67 yX4_machine, .instanceMethod yX4_machine, .selects RX4 yX4_machine yX4_machine, .initialized RX4, .code yX4_machine cX4_machine 2 (some .int), .classLink RX4 79 "java/lang/IllegalArgumentException", .initialized "java/lang/IllegalArgumentException", .fieldLink RX4 10 "WireLoom" "now" "LWireLoom$State;", .fieldLink RX4 110 "WireLoom$State" "machine" "LWireLoom$Machine;", .fieldLink RX4 224 "WireLoom$Machine" "place" "I", .fieldLink RX4 227 "WireLoom$Machine" "count" "I", .fieldLink RX4 230 "WireLoom$Machine" "cells" "[I", .fieldLink RX4 233 "WireLoom$Machine" "running" "Z", .fieldLink RX4 114 "WireLoom$Machine" "steps" "I", .fieldLink RX4 237 "WireLoom$Machine" "tellings" "I"] ++ wsX40 ++ wsX20 ++ wsX00 ++ (vx_atS RX4 83 "java/lang/IllegalArgumentException" ["java/lang/RuntimeException", "java/lang/Exception"]).filter goodWord)
def wsL_told : List Cond := .codeWith yL_told cL_told 4 (some .int) [(0, 9, 12, 18)] :: ([.classLink RL 18 "java/lang/IllegalArgumentException", .methodLink RL 70 yX4_told, .instanceMethod yX4_told, .selects RX4 yX4_told yX4_told, .initialized RX4, .code yX4_told cX4_told 2 (some .int), .classLink RX4 79 "java/lang/IllegalArgumentException", .initialized "java/lang/IllegalArgumentException", .fieldLink RX4 10 "WireLoom" "now" "LWireLoom$State;", .fieldLink RX4 110 "WireLoom$State" "machine" "LWireLoom$Machine;", .fieldLink RX4 244 "WireLoom$Machine" "latest" "[I", .methodLink RX4 75 yX4_isWithin, .static yX4_isWithin, .code yX4_isWithin cX4_isWithin 3 (some .boolean)] ++ wsX40 ++ wsX20 ++ wsX00 ++ (vx_atS RX4 83 "java/lang/IllegalArgumentException" ["java/lang/RuntimeException", "java/lang/Exception"]).filter goodWord)
def wsL_count_r1 : List Cond := [Cond.classLink RL 18 "java/lang/IllegalArgumentException", Cond.methodLink RL 73 yX4_count, Cond.instanceMethod yX4_count, Cond.selects RX4 yX4_count yX4_count, Cond.initialized RX4, Cond.code yX4_count cX4_count 2 (some .int), Cond.classLink RX4 79 "java/lang/IllegalArgumentException", Cond.initialized "java/lang/IllegalArgumentException", Cond.fieldLink RX4 10 "WireLoom" "now" "LWireLoom$State;", Cond.fieldLink RX4 250 "WireLoom$State" "crossingsChanged" "I", Cond.fieldLink RX4 253 "WireLoom$State" "readingsDone" "I", Cond.fieldLink RX4 88 "WireLoom$State" "guarded" "I", Cond.fieldLink RX4 22 "WireLoom" "past" "LWireLoom$Past;", Cond.fieldLink RX4 178 "WireLoom$Past" "size" "I", Cond.methodLink RX4 173 yX2_crossingsByThreads, Cond.instanceMethod yX2_crossingsByThreads, Cond.selects RX2 yX2_crossingsByThreads yX2_crossingsByThreads, Cond.initialized RX2, Cond.code yX2_crossingsByThreads cX2_crossingsByThreads 3 (some .int), Cond.fieldLink RX2 9 "WireLoom$State" "rings" "[I", Cond.methodLink RX2 62 yJ6_bitCount_0f7a4, Cond.static yJ6_bitCount_0f7a4, Cond.initialized RJ6, Cond.code yJ6_bitCount_0f7a4 cJ6_bitCount_0f7a4 1 (some .int)]
def wsL_count_r2 : List Cond := [Cond.constant RJ6 265 (1431655765), Cond.constant RJ6 266 (858993459), Cond.constant RJ6 267 (252645135), Cond.methodLink RX4 247 yX2_crossingsByRings, Cond.instanceMethod yX2_crossingsByRings, Cond.selects RX2 yX2_crossingsByRings yX2_crossingsByRings, Cond.code yX2_crossingsByRings cX2_crossingsByRings 3 (some .int), Cond.methodLink RX2 67 yX2_threadsThrough, Cond.instanceMethod yX2_threadsThrough, Cond.selects RX2 yX2_threadsThrough yX2_threadsThrough, Cond.code yX2_threadsThrough cX2_threadsThrough 4 (some .int), Cond.static yX4_bit, Cond.code yX4_bit cX4_bit 2 (some .int), Cond.methodLink RX4 256 yX2_threadsRight, Cond.instanceMethod yX2_threadsRight, Cond.selects RX2 yX2_threadsRight yX2_threadsRight, Cond.code yX2_threadsRight cX2_threadsRight 3 (some .int), Cond.methodLink RX2 55 yX2_answering, Cond.instanceMethod yX2_answering, Cond.selects RX2 yX2_answering yX2_answering, Cond.code yX2_answering cX2_answering 8 (some .int), Cond.fieldLink RX2 21 "WireLoom$State" "settings" "[I", Cond.methodLink RX2 102 yX2_strengthAt, Cond.instanceMethod yX2_strengthAt]
def wsL_count_r3 : List Cond := [Cond.selects RX2 yX2_strengthAt yX2_strengthAt, Cond.code yX2_strengthAt cX2_strengthAt 4 (some .int), Cond.methodLink RX2 99 Lib.Math.max.name, Cond.static Lib.Math.max.name, Cond.initialized "java/lang/Math", Cond.code Lib.Math.max.name Lib.Math.max.code 2 (some .int), Cond.fieldLink RX2 18 "WireLoom$State" "wear" "[I", Cond.methodLink RX2 96 yX2_oneThreadOn, Cond.instanceMethod yX2_oneThreadOn, Cond.selects RX2 yX2_oneThreadOn yX2_oneThreadOn, Cond.code yX2_oneThreadOn cX2_oneThreadOn 6 (some .int), Cond.fieldLink RX2 41 "WireLoom$State" "guarded" "I", Cond.methodLink RX4 189 yJ6_bitCount_0f7a4, Cond.methodLink RX4 259 yX2_greatestWear, Cond.instanceMethod yX2_greatestWear, Cond.selects RX2 yX2_greatestWear yX2_greatestWear, Cond.code yX2_greatestWear cX2_greatestWear 3 (some .int), Cond.methodLink RX4 262 yX4_pairsTellingTheSame, Cond.instanceMethod yX4_pairsTellingTheSame, Cond.selects RX4 yX4_pairsTellingTheSame yX4_pairsTellingTheSame, Cond.code yX4_pairsTellingTheSame cX4_pairsTellingTheSame 4 (some .int), Cond.fieldLink RX4 41 "WireLoom" "wordsTold" "[I", Cond.methodLink RX4 159 yX2_tells, Cond.instanceMethod yX2_tells]
def wsL_count_r4 : List Cond := [Cond.selects RX2 yX2_tells yX2_tells, Cond.code yX2_tells cX2_tells 2 (some .int), Cond.methodLink RX2 51 yX2_asWord, Cond.instanceMethod yX2_asWord, Cond.selects RX2 yX2_asWord yX2_asWord, Cond.code yX2_asWord cX2_asWord 2 (some .int), Cond.methodLink RX4 265 yX2_fewestUnlikeBits, Cond.instanceMethod yX2_fewestUnlikeBits, Cond.selects RX2 yX2_fewestUnlikeBits yX2_fewestUnlikeBits, Cond.code yX2_fewestUnlikeBits cX2_fewestUnlikeBits 4 (some .int), Cond.methodLink RX2 74 Lib.Math.min.name, Cond.static Lib.Math.min.name, Cond.code Lib.Math.min.name Lib.Math.min.code 2 (some .int)]
def wsL_count : List Cond := .codeWith yL_count cL_count 4 (some .int) [(0, 9, 12, 18)] :: ((wsL_count_r1 ++ (wsL_count_r2 ++ (wsL_count_r3 ++ wsL_count_r4))) ++ wsX40 ++ wsX20 ++ wsX10 ++ (vx_atS RX4 83 "java/lang/IllegalArgumentException" ["java/lang/RuntimeException", "java/lang/Exception"]).filter goodWord)
def wsL_setting : List Cond := .codeWith yL_setting cL_setting 4 (some .int) [(0, 9, 12, 13)] :: ([.classLink RL 13 "java/lang/IndexOutOfBoundsException", .methodLink RL 76 yX4_setting, .instanceMethod yX4_setting, .selects RX4 yX4_setting yX4_setting, .initialized RX4, .code yX4_setting cX4_setting 2 (some .int), .classLink RX4 52 "java/lang/IndexOutOfBoundsException", .initialized "java/lang/IndexOutOfBoundsException", .fieldLink RX4 10 "WireLoom" "now" "LWireLoom$State;", .fieldLink RX4 104 "WireLoom$State" "settings" "[I", .methodLink RX4 97 yX4_isSetting, .static yX4_isSetting, .code yX4_isSetting cX4_isSetting 1 (some .boolean), .methodLink RX4 75 yX4_isWithin, .static yX4_isWithin, .code yX4_isWithin cX4_isWithin 3 (some .boolean)] ++ wsX40 ++ wsX20 ++ (vx_atS RX4 56 "java/lang/IndexOutOfBoundsException" ["java/lang/RuntimeException", "java/lang/Exception"]).filter goodWord)
def wsL_ifLoaded_r1 : List Cond := [Cond.classLink RL 13 "java/lang/IndexOutOfBoundsException", Cond.methodLink RL 79 yX4_ifLoaded, Cond.instanceMethod yX4_ifLoaded, Cond.selects RX4 yX4_ifLoaded yX4_ifLoaded, Cond.initialized RX4, Cond.code yX4_ifLoaded cX4_ifLoaded 2 (some .int), Cond.classLink RX4 52 "java/lang/IndexOutOfBoundsException", Cond.initialized "java/lang/IndexOutOfBoundsException", Cond.fieldLink RX4 37 "WireLoom" "buffer" "LWireLoom$Text;", Cond.methodLink RX4 45 yX4_isThread, Cond.static yX4_isThread, Cond.code yX4_isThread cX4_isThread 1 (some .boolean), Cond.methodLink RX4 75 yX4_isWithin, Cond.static yX4_isWithin, Cond.code yX4_isWithin cX4_isWithin 3 (some .boolean), Cond.methodLink RX4 145 yX3_tellsProgram, Cond.instanceMethod yX3_tellsProgram, Cond.selects RX3 yX3_tellsProgram yX3_tellsProgram, Cond.initialized RX3, Cond.code yX3_tellsProgram cX3_tellsProgram 1 (some .boolean), Cond.fieldLink RX3 18 "WireLoom$Text" "length" "I", Cond.fieldLink RX3 34 "WireLoom$Text" "phase" "I", Cond.methodLink RX3 30 yX3_parse, Cond.instanceMethod yX3_parse]
def wsL_ifLoaded_r2 : List Cond := [Cond.selects RX3 yX3_parse yX3_parse, Cond.code yX3_parse cX3_parse 2 (some .int), Cond.fieldLink RX3 37 "WireLoom$Text" "wordCount" "I", Cond.fieldLink RX3 11 "WireLoom$Text" "codes" "[I", Cond.methodLink RX3 40 yX3_takeCode, Cond.instanceMethod yX3_takeCode, Cond.selects RX3 yX3_takeCode yX3_takeCode, Cond.code yX3_takeCode cX3_takeCode 4 none, Cond.fieldLink RX3 15 "WireLoom$Text" "words" "[I", Cond.methodLink RX3 43 yX3_digitOf, Cond.static yX3_digitOf, Cond.code yX3_digitOf cX3_digitOf 1 (some .int), Cond.methodLink RX4 270 yX4_changesOfProgramAt, Cond.instanceMethod yX4_changesOfProgramAt, Cond.selects RX4 yX4_changesOfProgramAt yX4_changesOfProgramAt, Cond.code yX4_changesOfProgramAt cX4_changesOfProgramAt 5 (some .int), Cond.fieldLink RX4 151 "WireLoom$Text" "wordCount" "I", Cond.fieldLink RX4 10 "WireLoom" "now" "LWireLoom$State;", Cond.fieldLink RX4 154 "WireLoom$Text" "words" "[I", Cond.methodLink RX4 186 yX2_means, Cond.instanceMethod yX2_means, Cond.selects RX2 yX2_means yX2_means, Cond.initialized RX2, Cond.code yX2_means cX2_means 2 (some .int)]
def wsL_ifLoaded_r3 : List Cond := [Cond.fieldLink RX2 9 "WireLoom$State" "rings" "[I", Cond.methodLink RX2 51 yX2_asWord, Cond.instanceMethod yX2_asWord, Cond.selects RX2 yX2_asWord yX2_asWord, Cond.code yX2_asWord cX2_asWord 2 (some .int), Cond.fieldLink RX2 21 "WireLoom$State" "settings" "[I", Cond.methodLink RX4 189 yJ6_bitCount_0f7a4, Cond.static yJ6_bitCount_0f7a4, Cond.initialized RJ6, Cond.code yJ6_bitCount_0f7a4 cJ6_bitCount_0f7a4 1 (some .int), Cond.constant RJ6 265 (1431655765), Cond.constant RJ6 266 (858993459), Cond.constant RJ6 267 (252645135)]
def wsL_ifLoaded : List Cond := .codeWith yL_ifLoaded cL_ifLoaded 4 (some .int) [(0, 9, 12, 13)] :: ((wsL_ifLoaded_r1 ++ (wsL_ifLoaded_r2 ++ wsL_ifLoaded_r3)) ++ wsX40 ++ wsX30 ++ wsX20 ++ (vx_atS RX4 56 "java/lang/IndexOutOfBoundsException" ["java/lang/RuntimeException", "java/lang/Exception"]).filter goodWord)
def wsL_lastsFor_r1 : List Cond := [Cond.classLink RL 13 "java/lang/IndexOutOfBoundsException", Cond.methodLink RL 82 yX4_lastsFor, Cond.instanceMethod yX4_lastsFor, Cond.selects RX4 yX4_lastsFor yX4_lastsFor, Cond.initialized RX4, Cond.code yX4_lastsFor cX4_lastsFor 2 (some .int), Cond.classLink RX4 52 "java/lang/IndexOutOfBoundsException", Cond.initialized "java/lang/IndexOutOfBoundsException", Cond.fieldLink RX4 10 "WireLoom" "now" "LWireLoom$State;", Cond.methodLink RX4 45 yX4_isThread, Cond.static yX4_isThread, Cond.code yX4_isThread cX4_isThread 1 (some .boolean), Cond.methodLink RX4 75 yX4_isWithin, Cond.static yX4_isWithin, Cond.code yX4_isWithin cX4_isWithin 3 (some .boolean), Cond.methodLink RX4 273 yX2_readingsUntilChange, Cond.instanceMethod yX2_readingsUntilChange, Cond.selects RX2 yX2_readingsUntilChange yX2_readingsUntilChange, Cond.initialized RX2, Cond.code yX2_readingsUntilChange cX2_readingsUntilChange 6 (some .int), Cond.fieldLink RX2 21 "WireLoom$State" "settings" "[I", Cond.fieldLink RX2 18 "WireLoom$State" "wear" "[I", Cond.fieldLink RX2 9 "WireLoom$State" "rings" "[I", Cond.static yX4_bit]
def wsL_lastsFor_r2 : List Cond := [Cond.code yX4_bit cX4_bit 2 (some .int)]
def wsL_lastsFor : List Cond := .codeWith yL_lastsFor cL_lastsFor 4 (some .int) [(0, 9, 12, 13)] :: ((wsL_lastsFor_r1 ++ wsL_lastsFor_r2) ++ wsX40 ++ wsX20 ++ (vx_atS RX4 56 "java/lang/IndexOutOfBoundsException" ["java/lang/RuntimeException", "java/lang/Exception"]).filter goodWord)
def wsL_ifGone_r1 : List Cond := [Cond.classLink RL 18 "java/lang/IllegalArgumentException", Cond.methodLink RL 85 yX4_ifGone, Cond.instanceMethod yX4_ifGone, Cond.selects RX4 yX4_ifGone yX4_ifGone, Cond.initialized RX4, Cond.code yX4_ifGone cX4_ifGone 4 (some .int), Cond.classLink RX4 79 "java/lang/IllegalArgumentException", Cond.initialized "java/lang/IllegalArgumentException", Cond.fieldLink RX4 16 "WireLoom" "trial" "LWireLoom$State;", Cond.fieldLink RX4 10 "WireLoom" "now" "LWireLoom$State;", Cond.fieldLink RX4 110 "WireLoom$State" "machine" "LWireLoom$Machine;", Cond.fieldLink RX4 227 "WireLoom$Machine" "count" "I", Cond.fieldLink RX4 224 "WireLoom$Machine" "place" "I", Cond.fieldLink RX4 237 "WireLoom$Machine" "tellings" "I", Cond.methodLink RX4 75 yX4_isWithin, Cond.static yX4_isWithin, Cond.code yX4_isWithin cX4_isWithin 3 (some .boolean), Cond.methodLink RX4 170 yX2_become, Cond.instanceMethod yX2_become, Cond.selects RX2 yX2_become yX2_become, Cond.initialized RX2, Cond.code yX2_become cX2_become 2 none, Cond.fieldLink RX2 9 "WireLoom$State" "rings" "[I", Cond.methodLink RX2 31 arraycopyName]
def wsL_ifGone_r2 : List Cond := [Cond.native arraycopyName, Cond.static arraycopyName, Cond.initialized "java/lang/System", Cond.fieldLink RX2 15 "WireLoom$State" "readings" "[I", Cond.fieldLink RX2 18 "WireLoom$State" "wear" "[I", Cond.fieldLink RX2 21 "WireLoom$State" "settings" "[I", Cond.fieldLink RX2 27 "WireLoom$State" "machine" "LWireLoom$Machine;", Cond.fieldLink RX2 41 "WireLoom$State" "guarded" "I", Cond.fieldLink RX2 45 "WireLoom$State" "crossingsChanged" "I", Cond.fieldLink RX2 48 "WireLoom$State" "readingsDone" "I", Cond.methodLink RX2 37 yX0_becomeLike, Cond.instanceMethod yX0_becomeLike, Cond.selects RX0 yX0_becomeLike yX0_becomeLike, Cond.initialized RX0, Cond.code yX0_becomeLike cX0_becomeLike 2 none, Cond.fieldLink RX0 11 "WireLoom$Machine" "cells" "[I", Cond.methodLink RX0 38 arraycopyName, Cond.fieldLink RX0 15 "WireLoom$Machine" "latest" "[I", Cond.fieldLink RX0 21 "WireLoom$Machine" "place" "I", Cond.fieldLink RX0 25 "WireLoom$Machine" "count" "I", Cond.fieldLink RX0 28 "WireLoom$Machine" "running" "Z", Cond.fieldLink RX0 32 "WireLoom$Machine" "steps" "I", Cond.fieldLink RX0 35 "WireLoom$Machine" "tellings" "I", Cond.methodLink RX4 124 yX2_run]
def wsL_ifGone_r3 : List Cond := [Cond.instanceMethod yX2_run, Cond.selects RX2 yX2_run yX2_run, Cond.code yX2_run cX2_run 4 (some .int), Cond.fieldLink RX2 82 "WireLoom$Machine" "running" "Z", Cond.fieldLink RX2 86 "WireLoom$Machine" "place" "I", Cond.methodLink RX2 89 yX2_takeReading, Cond.instanceMethod yX2_takeReading, Cond.selects RX2 yX2_takeReading yX2_takeReading, Cond.code yX2_takeReading cX2_takeReading 3 (some .int), Cond.methodLink RX2 79 yX2_tells, Cond.instanceMethod yX2_tells, Cond.selects RX2 yX2_tells yX2_tells, Cond.code yX2_tells cX2_tells 2 (some .int), Cond.methodLink RX2 55 yX2_answering, Cond.instanceMethod yX2_answering, Cond.selects RX2 yX2_answering yX2_answering, Cond.code yX2_answering cX2_answering 8 (some .int), Cond.static yX4_bit, Cond.code yX4_bit cX4_bit 2 (some .int), Cond.methodLink RX2 102 yX2_strengthAt, Cond.instanceMethod yX2_strengthAt, Cond.selects RX2 yX2_strengthAt yX2_strengthAt, Cond.code yX2_strengthAt cX2_strengthAt 4 (some .int), Cond.methodLink RX2 99 Lib.Math.max.name]
def wsL_ifGone_r4 : List Cond := [Cond.static Lib.Math.max.name, Cond.initialized "java/lang/Math", Cond.code Lib.Math.max.name Lib.Math.max.code 2 (some .int), Cond.methodLink RX2 96 yX2_oneThreadOn, Cond.instanceMethod yX2_oneThreadOn, Cond.selects RX2 yX2_oneThreadOn yX2_oneThreadOn, Cond.code yX2_oneThreadOn cX2_oneThreadOn 6 (some .int), Cond.methodLink RX2 51 yX2_asWord, Cond.instanceMethod yX2_asWord, Cond.selects RX2 yX2_asWord yX2_asWord, Cond.code yX2_asWord cX2_asWord 2 (some .int), Cond.methodLink RX2 58 yX2_wearRings, Cond.instanceMethod yX2_wearRings, Cond.selects RX2 yX2_wearRings yX2_wearRings, Cond.code yX2_wearRings cX2_wearRings 4 none, Cond.methodLink RX2 74 Lib.Math.min.name, Cond.static Lib.Math.min.name, Cond.code Lib.Math.min.name Lib.Math.min.code 2 (some .int), Cond.methodLink RX2 92 yX0_obey, Cond.instanceMethod yX0_obey, Cond.selects RX0 yX0_obey yX0_obey, Cond.code yX0_obey cX0_obey 4 none, Cond.methodLink RX0 44 yX0_tellCount, Cond.instanceMethod yX0_tellCount]
def wsL_ifGone_r5 : List Cond := [Cond.selects RX0 yX0_tellCount yX0_tellCount, Cond.code yX0_tellCount cX0_tellCount 2 none]
def wsL_ifGone : List Cond := .codeWith yL_ifGone cL_ifGone 5 (some .int) [(0, 10, 13, 18)] :: ((wsL_ifGone_r1 ++ (wsL_ifGone_r2 ++ (wsL_ifGone_r3 ++ (wsL_ifGone_r4 ++ wsL_ifGone_r5)))) ++ wsX40 ++ wsX20 ++ wsX00 ++ (vx_atS RX4 83 "java/lang/IllegalArgumentException" ["java/lang/RuntimeException", "java/lang/Exception"]).filter goodWord)
def wsL_law0_r1 : List Cond := [Cond.classLink RL 8 RX4, Cond.instantiable RX4 7, Cond.initialized RX4, Cond.classLink RL 89 RX5, Cond.instantiable RX5 10, Cond.initialized RX5, Cond.arrayClass .long, Cond.methodLink RL 88 yX4_init, Cond.instanceMethod yX4_init, Cond.code yX4_init cX4_init 2 none, Cond.methodLink RX4 1 objectInit, Cond.instanceMethod objectInit, Cond.code objectInit ⟨#[0xb1]⟩ 1 none, Cond.classLink RX4 7 RX2, Cond.instantiable RX2 8, Cond.initialized RX2, Cond.fieldLink RX4 10 "WireLoom" "now" "LWireLoom$State;", Cond.fieldLink RX4 16 "WireLoom" "trial" "LWireLoom$State;", Cond.classLink RX4 19 RX1, Cond.instantiable RX1 3, Cond.initialized RX1, Cond.fieldLink RX4 22 "WireLoom" "past" "LWireLoom$Past;", Cond.fieldLink RX4 26 "WireLoom" "snapshots" "[LWireLoom$State;", Cond.arrayClass .boolean]
def wsL_law0_r2 : List Cond := [Cond.fieldLink RX4 30 "WireLoom" "kept" "[Z", Cond.classLink RX4 34 RX3, Cond.instantiable RX3 5, Cond.initialized RX3, Cond.fieldLink RX4 37 "WireLoom" "buffer" "LWireLoom$Text;", Cond.arrayClass .int, Cond.fieldLink RX4 41 "WireLoom" "wordsTold" "[I", Cond.methodLink RX4 9 yX2_init, Cond.instanceMethod yX2_init, Cond.code yX2_init cX2_init 1 none, Cond.methodLink RX2 3 objectInit, Cond.fieldLink RX2 9 "WireLoom$State" "rings" "[I", Cond.fieldLink RX2 15 "WireLoom$State" "readings" "[I", Cond.fieldLink RX2 18 "WireLoom$State" "wear" "[I", Cond.fieldLink RX2 21 "WireLoom$State" "settings" "[I", Cond.classLink RX2 24 RX0, Cond.instantiable RX0 7, Cond.initialized RX0, Cond.fieldLink RX2 27 "WireLoom$State" "machine" "LWireLoom$Machine;", Cond.methodLink RX2 26 yX0_init, Cond.instanceMethod yX0_init, Cond.code yX0_init cX0_init 1 none, Cond.methodLink RX0 3 objectInit, Cond.fieldLink RX0 11 "WireLoom$Machine" "cells" "[I"]
def wsL_law0_r3 : List Cond := [Cond.fieldLink RX0 15 "WireLoom$Machine" "latest" "[I", Cond.methodLink RX0 18 yX0_begin, Cond.instanceMethod yX0_begin, Cond.selects RX0 yX0_begin yX0_begin, Cond.code yX0_begin cX0_begin 2 none, Cond.fieldLink RX0 21 "WireLoom$Machine" "place" "I", Cond.fieldLink RX0 25 "WireLoom$Machine" "count" "I", Cond.fieldLink RX0 28 "WireLoom$Machine" "running" "Z", Cond.fieldLink RX0 32 "WireLoom$Machine" "steps" "I", Cond.fieldLink RX0 35 "WireLoom$Machine" "tellings" "I", Cond.methodLink RX4 21 yX1_init, Cond.instanceMethod yX1_init, Cond.code yX1_init cX1_init 2 none, Cond.methodLink RX1 1 objectInit, Cond.classLink RX1 9 RX2, Cond.fieldLink RX1 11 "WireLoom$Past" "saved" "[LWireLoom$State;", Cond.methodLink RX1 15 yX2_init, Cond.instanceMethod yX3_init, Cond.code yX3_init cX3_init 1 none, Cond.methodLink RX3 3 objectInit, Cond.fieldLink RX3 11 "WireLoom$Text" "codes" "[I", Cond.fieldLink RX3 15 "WireLoom$Text" "words" "[I", Cond.methodLink RL 91 yX5_init, Cond.instanceMethod yX5_init]
def wsL_law0_r4 : List Cond := [Cond.code yX5_init cX5_init 1 none, Cond.methodLink RX5 1 objectInit, Cond.fieldLink RX5 7 "WireLoomModel" "s" "[I", Cond.fieldLink RX5 13 "WireLoomModel" "isKept" "[Z", Cond.fieldLink RX5 17 "WireLoomModel" "text" "[I", Cond.fieldLink RX5 20 "WireLoomModel" "words" "[I", Cond.methodLink RL 92 yL_cross, Cond.static yL_cross, Cond.initialized RL, Cond.codeWith yL_cross cL_cross 5 (some .int) [(0, 10, 13, 13)], Cond.classLink RL 13 "java/lang/IndexOutOfBoundsException", Cond.methodLink RL 7 yX4_cross, Cond.instanceMethod yX4_cross, Cond.selects RX4 yX4_cross yX4_cross, Cond.code yX4_cross cX4_cross 3 (some .int), Cond.classLink RX4 52 "java/lang/IndexOutOfBoundsException", Cond.initialized "java/lang/IndexOutOfBoundsException", Cond.fieldLink RX4 63 "WireLoom$State" "rings" "[I", Cond.methodLink RX4 45 yX4_isThread, Cond.static yX4_isThread, Cond.code yX4_isThread cX4_isThread 1 (some .boolean), Cond.methodLink RX4 75 yX4_isWithin, Cond.static yX4_isWithin, Cond.code yX4_isWithin cX4_isWithin 3 (some .boolean)]
def wsL_law0_r5 : List Cond := [Cond.methodLink RX4 49 yX4_isRing, Cond.static yX4_isRing, Cond.code yX4_isRing cX4_isRing 1 (some .boolean), Cond.methodLink RX4 59 yX1_push, Cond.instanceMethod yX1_push, Cond.selects RX1 yX1_push yX1_push, Cond.code yX1_push cX1_push 2 none, Cond.fieldLink RX1 16 "WireLoom$Past" "oldest" "I", Cond.fieldLink RX1 20 "WireLoom$Past" "size" "I", Cond.methodLink RX1 23 yX2_become, Cond.instanceMethod yX2_become, Cond.selects RX2 yX2_become yX2_become, Cond.code yX2_become cX2_become 2 none, Cond.methodLink RX2 31 arraycopyName, Cond.native arraycopyName, Cond.static arraycopyName, Cond.initialized "java/lang/System", Cond.fieldLink RX2 41 "WireLoom$State" "guarded" "I", Cond.fieldLink RX2 45 "WireLoom$State" "crossingsChanged" "I", Cond.fieldLink RX2 48 "WireLoom$State" "readingsDone" "I", Cond.methodLink RX2 37 yX0_becomeLike, Cond.instanceMethod yX0_becomeLike, Cond.selects RX0 yX0_becomeLike yX0_becomeLike, Cond.code yX0_becomeLike cX0_becomeLike 2 none]
def wsL_law0_r6 : List Cond := [Cond.methodLink RX0 38 arraycopyName, Cond.methodLink RX4 66 yX2_layThrough, Cond.instanceMethod yX2_layThrough, Cond.selects RX2 yX2_layThrough yX2_layThrough, Cond.code yX2_layThrough cX2_layThrough 5 (some .int), Cond.methodLink RX2 58 yX2_wearRings, Cond.instanceMethod yX2_wearRings, Cond.selects RX2 yX2_wearRings yX2_wearRings, Cond.code yX2_wearRings cX2_wearRings 4 none, Cond.methodLink RX2 74 Lib.Math.min.name, Cond.static Lib.Math.min.name, Cond.initialized "java/lang/Math", Cond.code Lib.Math.min.name Lib.Math.min.code 2 (some .int), Cond.static yX4_bit, Cond.code yX4_bit cX4_bit 2 (some .int), Cond.methodLink RX2 62 yJ6_bitCount_0f7a4, Cond.static yJ6_bitCount_0f7a4, Cond.initialized RJ6, Cond.code yJ6_bitCount_0f7a4 cJ6_bitCount_0f7a4 1 (some .int), Cond.constant RJ6 265 (1431655765), Cond.constant RJ6 266 (858993459), Cond.constant RJ6 267 (252645135), Cond.methodLink RX4 70 yX4_bit, Cond.methodLink RL 97 yX5_cross]
def wsL_law0_r7 : List Cond := [Cond.instanceMethod yX5_cross, Cond.selects RX5 yX5_cross yX5_cross, Cond.code yX5_cross cX5_cross 3 (some .int), Cond.methodLink RX5 83 yX5_isThread, Cond.static yX5_isThread, Cond.code yX5_isThread cX5_isThread 1 (some .boolean), Cond.methodLink RX5 27 yX5_in, Cond.static yX5_in, Cond.code yX5_in cX5_in 3 (some .boolean), Cond.methodLink RX5 87 yX5_isRing, Cond.static yX5_isRing, Cond.code yX5_isRing cX5_isRing 1 (some .boolean), Cond.methodLink RX5 90 yX5_holds, Cond.instanceMethod yX5_holds, Cond.selects RX5 yX5_holds yX5_holds, Cond.code yX5_holds cX5_holds 2 (some .boolean), Cond.fieldLink RX5 23 "WireLoomModel" "thrown" "I", Cond.methodLink RX5 93 yX5_save, Cond.instanceMethod yX5_save, Cond.selects RX5 yX5_save yX5_save, Cond.code yX5_save cX5_save 2 none, Cond.fieldLink RX5 76 "WireLoomModel" "saved" "I", Cond.methodLink RX5 79 yX5_copies, Cond.instanceMethod yX5_copies]
def wsL_law0_r8 : List Cond := [Cond.selects RX5 yX5_copies yX5_copies, Cond.code yX5_copies cX5_copies 4 none, Cond.methodLink RX5 55 yX5_wears, Cond.instanceMethod yX5_wears, Cond.selects RX5 yX5_wears yX5_wears, Cond.code yX5_wears cX5_wears 5 none, Cond.methodLink RL 98 yX5_thrown, Cond.instanceMethod yX5_thrown, Cond.selects RX5 yX5_thrown yX5_thrown, Cond.code yX5_thrown cX5_thrown 1 (some .int), Cond.methodLink RL 101 yL_lay, Cond.static yL_lay, Cond.codeWith yL_lay cL_lay 5 (some .int) [(0, 10, 13, 13), (0, 10, 17, 18)], Cond.classLink RL 18 "java/lang/IllegalArgumentException", Cond.methodLink RL 15 yX4_lay, Cond.instanceMethod yX4_lay, Cond.selects RX4 yX4_lay yX4_lay, Cond.code yX4_lay cX4_lay 3 (some .int), Cond.classLink RX4 79 "java/lang/IllegalArgumentException", Cond.initialized "java/lang/IllegalArgumentException", Cond.methodLink RX4 84 yX2_asWord, Cond.instanceMethod yX2_asWord, Cond.selects RX2 yX2_asWord yX2_asWord, Cond.code yX2_asWord cX2_asWord 2 (some .int)]
def wsL_law0_r9 : List Cond := [Cond.methodLink RL 103 yX5_lay, Cond.instanceMethod yX5_lay, Cond.selects RX5 yX5_lay yX5_lay, Cond.code yX5_lay cX5_lay 3 (some .int), Cond.methodLink RX5 96 yX5_lays, Cond.instanceMethod yX5_lays, Cond.selects RX5 yX5_lays yX5_lays, Cond.code yX5_lays cX5_lays 6 (some .int), Cond.methodLink RX5 49 yX5_turned, Cond.instanceMethod yX5_turned, Cond.selects RX5 yX5_turned yX5_turned, Cond.code yX5_turned cX5_turned 3 (some .int), Cond.methodLink RX5 31 yX5_has, Cond.static yX5_has, Cond.code yX5_has cX5_has 2 (some .boolean), Cond.methodLink RX5 59 yX5_ones, Cond.static yX5_ones, Cond.code yX5_ones cX5_ones 3 (some .int), Cond.methodLink RL 104 yL_guard, Cond.static yL_guard, Cond.codeWith yL_guard cL_guard 4 (some .int) [(0, 9, 12, 13)], Cond.methodLink RL 20 yX4_guard, Cond.instanceMethod yX4_guard, Cond.selects RX4 yX4_guard yX4_guard]
def wsL_law0_r10 : List Cond := [Cond.code yX4_guard cX4_guard 2 (some .int), Cond.fieldLink RX4 88 "WireLoom$State" "guarded" "I", Cond.methodLink RL 107 yX5_guard, Cond.instanceMethod yX5_guard, Cond.selects RX5 yX5_guard yX5_guard, Cond.code yX5_guard cX5_guard 2 (some .int), Cond.methodLink RL 108 yL_change, Cond.static yL_change, Cond.codeWith yL_change cL_change 4 (some .int) [(0, 9, 12, 13)], Cond.methodLink RL 24 yX4_change, Cond.instanceMethod yX4_change, Cond.selects RX4 yX4_change yX4_change, Cond.code yX4_change cX4_change 2 (some .int), Cond.methodLink RX4 94 yX2_renewRing, Cond.instanceMethod yX2_renewRing, Cond.selects RX2 yX2_renewRing yX2_renewRing, Cond.code yX2_renewRing cX2_renewRing 4 (some .int), Cond.methodLink RX2 67 yX2_threadsThrough, Cond.instanceMethod yX2_threadsThrough, Cond.selects RX2 yX2_threadsThrough yX2_threadsThrough, Cond.code yX2_threadsThrough cX2_threadsThrough 4 (some .int), Cond.methodLink RL 110 yX5_change, Cond.instanceMethod yX5_change, Cond.selects RX5 yX5_change yX5_change]
def wsL_law0_r11 : List Cond := [Cond.code yX5_change cX5_change 4 (some .int), Cond.methodLink RX5 99 yX5_threadsOf, Cond.instanceMethod yX5_threadsOf, Cond.selects RX5 yX5_threadsOf yX5_threadsOf, Cond.code yX5_threadsOf cX5_threadsOf 4 (some .int), Cond.methodLink RL 111 yL_set, Cond.static yL_set, Cond.codeWith yL_set cL_set 5 (some .int) [(0, 10, 13, 13), (0, 10, 17, 18)], Cond.methodLink RL 27 yX4_set, Cond.instanceMethod yX4_set, Cond.selects RX4 yX4_set yX4_set, Cond.code yX4_set cX4_set 4 (some .int), Cond.fieldLink RX4 104 "WireLoom$State" "settings" "[I", Cond.methodLink RX4 97 yX4_isSetting, Cond.static yX4_isSetting, Cond.code yX4_isSetting cX4_isSetting 1 (some .boolean), Cond.methodLink RL 113 yX5_set, Cond.instanceMethod yX5_set, Cond.selects RX5 yX5_set yX5_set, Cond.code yX5_set cX5_set 4 (some .int), Cond.methodLink RL 114 yL_read, Cond.static yL_read, Cond.codeWith yL_read cL_read 4 (some .int) [(0, 9, 12, 13)], Cond.methodLink RL 30 yX4_read]
def wsL_law0_r12 : List Cond := [Cond.instanceMethod yX4_read, Cond.selects RX4 yX4_read yX4_read, Cond.code yX4_read cX4_read 2 (some .int), Cond.methodLink RX4 107 yX2_takeReading, Cond.instanceMethod yX2_takeReading, Cond.selects RX2 yX2_takeReading yX2_takeReading, Cond.code yX2_takeReading cX2_takeReading 3 (some .int), Cond.methodLink RX2 79 yX2_tells, Cond.instanceMethod yX2_tells, Cond.selects RX2 yX2_tells yX2_tells, Cond.code yX2_tells cX2_tells 2 (some .int), Cond.methodLink RX2 55 yX2_answering, Cond.instanceMethod yX2_answering, Cond.selects RX2 yX2_answering yX2_answering, Cond.code yX2_answering cX2_answering 8 (some .int), Cond.methodLink RX2 102 yX2_strengthAt, Cond.instanceMethod yX2_strengthAt, Cond.selects RX2 yX2_strengthAt yX2_strengthAt, Cond.code yX2_strengthAt cX2_strengthAt 4 (some .int), Cond.methodLink RX2 99 Lib.Math.max.name, Cond.static Lib.Math.max.name, Cond.code Lib.Math.max.name Lib.Math.max.code 2 (some .int), Cond.methodLink RX2 96 yX2_oneThreadOn, Cond.instanceMethod yX2_oneThreadOn]
def wsL_law0_r13 : List Cond := [Cond.selects RX2 yX2_oneThreadOn yX2_oneThreadOn, Cond.code yX2_oneThreadOn cX2_oneThreadOn 6 (some .int), Cond.methodLink RX2 51 yX2_asWord, Cond.methodLink RL 116 yX5_read, Cond.instanceMethod yX5_read, Cond.selects RX5 yX5_read yX5_read, Cond.code yX5_read cX5_read 2 (some .int), Cond.methodLink RX5 66 yX5_reads, Cond.instanceMethod yX5_reads, Cond.selects RX5 yX5_reads yX5_reads, Cond.code yX5_reads cX5_reads 5 (some .int), Cond.methodLink RX5 52 yX5_wordOf, Cond.instanceMethod yX5_wordOf, Cond.selects RX5 yX5_wordOf yX5_wordOf, Cond.code yX5_wordOf cX5_wordOf 3 (some .int), Cond.methodLink RX5 45 yX5_answers, Cond.instanceMethod yX5_answers, Cond.selects RX5 yX5_answers yX5_answers, Cond.code yX5_answers cX5_answers 5 (some .int), Cond.methodLink RX5 42 yX5_strengthIn, Cond.instanceMethod yX5_strengthIn, Cond.selects RX5 yX5_strengthIn yX5_strengthIn, Cond.code yX5_strengthIn cX5_strengthIn 7 (some .int), Cond.methodLink RX5 39 yX5_hopsTo]
def wsL_law0_r14 : List Cond := [Cond.instanceMethod yX5_hopsTo, Cond.selects RX5 yX5_hopsTo yX5_hopsTo, Cond.code yX5_hopsTo cX5_hopsTo 5 (some .int), Cond.methodLink RX5 35 yX5_reached, Cond.instanceMethod yX5_reached, Cond.selects RX5 yX5_reached yX5_reached, Cond.code yX5_reached cX5_reached 9 (some .int), Cond.methodLink RL 117 yX4_start, Cond.instanceMethod yX4_start, Cond.selects RX4 yX4_start yX4_start, Cond.code yX4_start cX4_start 2 (some .int), Cond.fieldLink RX4 110 "WireLoom$State" "machine" "LWireLoom$Machine;", Cond.fieldLink RX4 114 "WireLoom$Machine" "steps" "I", Cond.methodLink RX4 119 yX0_begin, Cond.methodLink RL 120 yX5_start, Cond.instanceMethod yX5_start, Cond.selects RX5 yX5_start yX5_start, Cond.code yX5_start cX5_start 3 (some .int), Cond.methodLink RL 121 yL_go, Cond.static yL_go, Cond.codeWith yL_go cL_go 4 (some .int) [(0, 9, 12, 18)], Cond.methodLink RL 33 yX4_go, Cond.instanceMethod yX4_go, Cond.selects RX4 yX4_go yX4_go]
def wsL_law0_r15 : List Cond := [Cond.code yX4_go cX4_go 2 (some .int), Cond.methodLink RX4 124 yX2_run, Cond.instanceMethod yX2_run, Cond.selects RX2 yX2_run yX2_run, Cond.code yX2_run cX2_run 4 (some .int), Cond.fieldLink RX2 82 "WireLoom$Machine" "running" "Z", Cond.fieldLink RX2 86 "WireLoom$Machine" "place" "I", Cond.methodLink RX2 89 yX2_takeReading, Cond.methodLink RX2 92 yX0_obey, Cond.instanceMethod yX0_obey, Cond.selects RX0 yX0_obey yX0_obey, Cond.code yX0_obey cX0_obey 4 none, Cond.methodLink RX0 44 yX0_tellCount, Cond.instanceMethod yX0_tellCount, Cond.selects RX0 yX0_tellCount yX0_tellCount, Cond.code yX0_tellCount cX0_tellCount 2 none, Cond.methodLink RL 123 yX5_go, Cond.instanceMethod yX5_go, Cond.selects RX5 yX5_go yX5_go, Cond.code yX5_go cX5_go 2 (some .int), Cond.methodLink RX5 102 yX5_goes, Cond.instanceMethod yX5_goes, Cond.selects RX5 yX5_goes yX5_goes, Cond.code yX5_goes cX5_goes 4 (some .int)]
def wsL_law0_r16 : List Cond := [Cond.methodLink RX5 73 yX5_steps, Cond.instanceMethod yX5_steps, Cond.selects RX5 yX5_steps yX5_steps, Cond.code yX5_steps cX5_steps 5 none, Cond.methodLink RX5 69 yX5_tells, Cond.instanceMethod yX5_tells, Cond.selects RX5 yX5_tells yX5_tells, Cond.code yX5_tells cX5_tells 3 none, Cond.methodLink RL 124 yL_append, Cond.static yL_append, Cond.codeWith yL_append cL_append 4 (some .int) [(0, 9, 12, 18), (0, 9, 15, 39)], Cond.classLink RL 39 "java/lang/IllegalStateException", Cond.methodLink RL 36 yX4_append, Cond.instanceMethod yX4_append, Cond.selects RX4 yX4_append yX4_append, Cond.code yX4_append cX4_append 2 (some .int), Cond.classLink RX4 132 "java/lang/IllegalStateException", Cond.initialized "java/lang/IllegalStateException", Cond.fieldLink RX4 129 "WireLoom$Text" "length" "I", Cond.methodLink RX4 137 yX3_put, Cond.instanceMethod yX3_put, Cond.selects RX3 yX3_put yX3_put, Cond.code yX3_put cX3_put 2 none, Cond.fieldLink RX3 18 "WireLoom$Text" "length" "I"]
def wsL_law0_r17 : List Cond := [Cond.methodLink RL 126 yX5_append, Cond.instanceMethod yX5_append, Cond.selects RX5 yX5_append yX5_append, Cond.code yX5_append cX5_append 2 (some .int), Cond.fieldLink RX5 105 "WireLoomModel" "length" "I", Cond.methodLink RL 127 yX4_clearBuffer, Cond.instanceMethod yX4_clearBuffer, Cond.selects RX4 yX4_clearBuffer yX4_clearBuffer, Cond.code yX4_clearBuffer cX4_clearBuffer 2 (some .int), Cond.methodLink RL 130 yX5_clearBuffer, Cond.instanceMethod yX5_clearBuffer, Cond.selects RX5 yX5_clearBuffer yX5_clearBuffer, Cond.code yX5_clearBuffer cX5_clearBuffer 2 (some .int), Cond.methodLink RL 131 yX4_firstError, Cond.instanceMethod yX4_firstError, Cond.selects RX4 yX4_firstError yX4_firstError, Cond.code yX4_firstError cX4_firstError 1 (some .int), Cond.methodLink RX4 141 yX3_parse, Cond.instanceMethod yX3_parse, Cond.selects RX3 yX3_parse yX3_parse, Cond.code yX3_parse cX3_parse 2 (some .int), Cond.fieldLink RX3 34 "WireLoom$Text" "phase" "I", Cond.fieldLink RX3 37 "WireLoom$Text" "wordCount" "I", Cond.methodLink RX3 40 yX3_takeCode]
def wsL_law0_r18 : List Cond := [Cond.instanceMethod yX3_takeCode, Cond.selects RX3 yX3_takeCode yX3_takeCode, Cond.code yX3_takeCode cX3_takeCode 4 none, Cond.methodLink RX3 43 yX3_digitOf, Cond.static yX3_digitOf, Cond.code yX3_digitOf cX3_digitOf 1 (some .int), Cond.methodLink RL 134 yX5_firstError, Cond.instanceMethod yX5_firstError, Cond.selects RX5 yX5_firstError yX5_firstError, Cond.code yX5_firstError cX5_firstError 1 (some .int), Cond.fieldLink RX5 108 "WireLoomModel" "at" "I", Cond.methodLink RX5 122 yX5_isProgram, Cond.instanceMethod yX5_isProgram, Cond.selects RX5 yX5_isProgram yX5_isProgram, Cond.code yX5_isProgram cX5_isProgram 1 (some .boolean), Cond.fieldLink RX5 115 "WireLoomModel" "many" "I", Cond.methodLink RX5 118 yX5_isWord, Cond.instanceMethod yX5_isWord, Cond.selects RX5 yX5_isWord yX5_isWord, Cond.code yX5_isWord cX5_isWord 3 (some .boolean), Cond.methodLink RX5 111 yX5_digit, Cond.instanceMethod yX5_digit, Cond.selects RX5 yX5_digit yX5_digit, Cond.code yX5_digit cX5_digit 3 (some .int)]
def wsL_law0_r19 : List Cond := [Cond.methodLink RL 135 yL_load, Cond.static yL_load, Cond.codeWith yL_load cL_load 4 (some .int) [(0, 9, 12, 13), (0, 9, 15, 18)], Cond.methodLink RL 41 yX4_load, Cond.instanceMethod yX4_load, Cond.selects RX4 yX4_load yX4_load, Cond.code yX4_load cX4_load 4 (some .int), Cond.fieldLink RX4 151 "WireLoom$Text" "wordCount" "I", Cond.fieldLink RX4 154 "WireLoom$Text" "words" "[I", Cond.methodLink RX4 145 yX3_tellsProgram, Cond.instanceMethod yX3_tellsProgram, Cond.selects RX3 yX3_tellsProgram yX3_tellsProgram, Cond.code yX3_tellsProgram cX3_tellsProgram 1 (some .boolean), Cond.methodLink RX3 30 yX3_parse, Cond.methodLink RL 137 yX5_load, Cond.instanceMethod yX5_load, Cond.selects RX5 yX5_load yX5_load, Cond.code yX5_load cX5_load 2 (some .int), Cond.methodLink RX5 125 yX5_loads, Cond.instanceMethod yX5_loads, Cond.selects RX5 yX5_loads yX5_loads, Cond.code yX5_loads cX5_loads 5 (some .int), Cond.methodLink RL 138 yL_write, Cond.static yL_write]
def wsL_law0_r20 : List Cond := [Cond.codeWith yL_write cL_write 5 (some .int) [(0, 10, 13, 13)], Cond.methodLink RL 44 yX4_write, Cond.instanceMethod yX4_write, Cond.selects RX4 yX4_write yX4_write, Cond.code yX4_write cX4_write 4 (some .int), Cond.methodLink RX4 159 yX2_tells, Cond.methodLink RX4 162 yX3_putWord, Cond.instanceMethod yX3_putWord, Cond.selects RX3 yX3_putWord yX3_putWord, Cond.code yX3_putWord cX3_putWord 2 none, Cond.methodLink RX3 22 yX3_signOf, Cond.static yX3_signOf, Cond.code yX3_signOf cX3_signOf 1 (some .int), Cond.methodLink RX3 26 yX3_put, Cond.methodLink RL 140 yX5_write, Cond.instanceMethod yX5_write, Cond.selects RX5 yX5_write yX5_write, Cond.code yX5_write cX5_write 5 (some .int), Cond.methodLink RX5 128 yX5_sign, Cond.static yX5_sign, Cond.code yX5_sign cX5_sign 1 (some .int), Cond.methodLink RL 141 yL_keep, Cond.static yL_keep, Cond.codeWith yL_keep cL_keep 4 (some .int) [(0, 9, 12, 18)]]
def wsL_law0_r21 : List Cond := [Cond.methodLink RL 47 yX4_keep, Cond.instanceMethod yX4_keep, Cond.selects RX4 yX4_keep yX4_keep, Cond.code yX4_keep cX4_keep 2 (some .int), Cond.methodLink RX4 165 yX4_isSlot, Cond.static yX4_isSlot, Cond.code yX4_isSlot cX4_isSlot 1 (some .boolean), Cond.methodLink RX4 170 yX2_become, Cond.methodLink RX4 173 yX2_crossingsByThreads, Cond.instanceMethod yX2_crossingsByThreads, Cond.selects RX2 yX2_crossingsByThreads yX2_crossingsByThreads, Cond.code yX2_crossingsByThreads cX2_crossingsByThreads 3 (some .int), Cond.methodLink RL 143 yX5_keep, Cond.instanceMethod yX5_keep, Cond.selects RX5 yX5_keep yX5_keep, Cond.code yX5_keep cX5_keep 2 (some .int), Cond.methodLink RX5 131 yX5_crossings, Cond.instanceMethod yX5_crossings, Cond.selects RX5 yX5_crossings yX5_crossings, Cond.code yX5_crossings cX5_crossings 4 (some .int), Cond.methodLink RL 144 yL_goBack, Cond.static yL_goBack, Cond.codeWith yL_goBack cL_goBack 4 (some .int) [(0, 9, 12, 18), (0, 9, 15, 39)], Cond.methodLink RL 50 yX4_goBack]
def wsL_law0_r22 : List Cond := [Cond.instanceMethod yX4_goBack, Cond.selects RX4 yX4_goBack yX4_goBack, Cond.code yX4_goBack cX4_goBack 2 (some .int), Cond.methodLink RL 146 yX5_goBack, Cond.instanceMethod yX5_goBack, Cond.selects RX5 yX5_goBack yX5_goBack, Cond.code yX5_goBack cX5_goBack 2 (some .int), Cond.methodLink RL 147 yL_undo, Cond.static yL_undo, Cond.codeWith yL_undo cL_undo 3 (some .int) [(0, 8, 11, 39)], Cond.methodLink RL 53 yX4_undo, Cond.instanceMethod yX4_undo, Cond.selects RX4 yX4_undo yX4_undo, Cond.code yX4_undo cX4_undo 1 (some .int), Cond.fieldLink RX4 178 "WireLoom$Past" "size" "I", Cond.methodLink RX4 183 yX1_popInto, Cond.instanceMethod yX1_popInto, Cond.selects RX1 yX1_popInto yX1_popInto, Cond.code yX1_popInto cX1_popInto 2 none, Cond.methodLink RL 150 yX5_undo, Cond.instanceMethod yX5_undo, Cond.selects RX5 yX5_undo yX5_undo, Cond.code yX5_undo cX5_undo 1 (some .int), Cond.methodLink RL 151 yL_threadOf]
def wsL_law0_r23 : List Cond := [Cond.static yL_threadOf, Cond.codeWith yL_threadOf cL_threadOf 5 (some .int) [(0, 10, 13, 13), (0, 10, 17, 18)], Cond.methodLink RL 57 yX4_threadOf, Cond.instanceMethod yX4_threadOf, Cond.selects RX4 yX4_threadOf yX4_threadOf, Cond.code yX4_threadOf cX4_threadOf 3 (some .int), Cond.fieldLink RX4 197 "WireLoom$State" "readings" "[I", Cond.methodLink RX4 186 yX2_means, Cond.instanceMethod yX2_means, Cond.selects RX2 yX2_means yX2_means, Cond.code yX2_means cX2_means 2 (some .int), Cond.methodLink RX4 189 yJ6_bitCount_0f7a4, Cond.methodLink RX4 194 yX2_answering, Cond.methodLink RL 153 yX5_threadOf, Cond.instanceMethod yX5_threadOf, Cond.selects RX5 yX5_threadOf yX5_threadOf, Cond.code yX5_threadOf cX5_threadOf 3 (some .int), Cond.methodLink RX5 134 yX5_ofThread, Cond.instanceMethod yX5_ofThread, Cond.selects RX5 yX5_ofThread yX5_ofThread, Cond.code yX5_ofThread cX5_ofThread 3 (some .int), Cond.methodLink RX5 63 yX5_meant, Cond.instanceMethod yX5_meant, Cond.selects RX5 yX5_meant yX5_meant]
def wsL_law0_r24 : List Cond := [Cond.code yX5_meant cX5_meant 3 (some .int), Cond.methodLink RL 154 yL_ringOf, Cond.static yL_ringOf, Cond.codeWith yL_ringOf cL_ringOf 5 (some .int) [(0, 10, 13, 13), (0, 10, 17, 18)], Cond.methodLink RL 60 yX4_ringOf, Cond.instanceMethod yX4_ringOf, Cond.selects RX4 yX4_ringOf yX4_ringOf, Cond.code yX4_ringOf cX4_ringOf 3 (some .int), Cond.fieldLink RX4 202 "WireLoom$State" "wear" "[I", Cond.methodLink RX4 205 yX2_threadsThrough, Cond.methodLink RX4 208 yX2_threadsAnswered, Cond.instanceMethod yX2_threadsAnswered, Cond.selects RX2 yX2_threadsAnswered yX2_threadsAnswered, Cond.code yX2_threadsAnswered cX2_threadsAnswered 4 (some .int), Cond.methodLink RX4 211 yX2_isWornOut, Cond.instanceMethod yX2_isWornOut, Cond.selects RX2 yX2_isWornOut yX2_isWornOut, Cond.code yX2_isWornOut cX2_isWornOut 2 (some .boolean), Cond.methodLink RL 156 yX5_ringOf, Cond.instanceMethod yX5_ringOf, Cond.selects RX5 yX5_ringOf yX5_ringOf, Cond.code yX5_ringOf cX5_ringOf 3 (some .int), Cond.methodLink RX5 140 yX5_ofRing, Cond.instanceMethod yX5_ofRing]
def wsL_law0_r25 : List Cond := [Cond.selects RX5 yX5_ofRing yX5_ofRing, Cond.code yX5_ofRing cX5_ofRing 4 (some .int), Cond.methodLink RX5 137 yX5_makers, Cond.instanceMethod yX5_makers, Cond.selects RX5 yX5_makers yX5_makers, Cond.code yX5_makers cX5_makers 4 (some .int), Cond.methodLink RL 157 yL_strength, Cond.static yL_strength, Cond.codeWith yL_strength cL_strength 6 (some .int) [(0, 12, 15, 13), (0, 12, 19, 18)], Cond.methodLink RL 63 yX4_strength, Cond.instanceMethod yX4_strength, Cond.selects RX4 yX4_strength yX4_strength, Cond.code yX4_strength cX4_strength 4 (some .int), Cond.methodLink RX4 216 yX2_hops, Cond.instanceMethod yX2_hops, Cond.selects RX2 yX2_hops yX2_hops, Cond.code yX2_hops cX2_hops 5 (some .int), Cond.methodLink RX4 219 yX2_strengthAt, Cond.methodLink RL 160 yX5_strength, Cond.instanceMethod yX5_strength, Cond.selects RX5 yX5_strength yX5_strength, Cond.code yX5_strength cX5_strength 4 (some .int), Cond.methodLink RL 161 yL_machine, Cond.static yL_machine]
def wsL_law0_r26 : List Cond := [Cond.codeWith yL_machine cL_machine 4 (some .int) [(0, 9, 12, 18)], Cond.methodLink RL 67 yX4_machine, Cond.instanceMethod yX4_machine, Cond.selects RX4 yX4_machine yX4_machine, Cond.code yX4_machine cX4_machine 2 (some .int), Cond.fieldLink RX4 224 "WireLoom$Machine" "place" "I", Cond.fieldLink RX4 227 "WireLoom$Machine" "count" "I", Cond.fieldLink RX4 230 "WireLoom$Machine" "cells" "[I", Cond.fieldLink RX4 233 "WireLoom$Machine" "running" "Z", Cond.fieldLink RX4 237 "WireLoom$Machine" "tellings" "I", Cond.methodLink RL 163 yX5_machine, Cond.instanceMethod yX5_machine, Cond.selects RX5 yX5_machine yX5_machine, Cond.code yX5_machine cX5_machine 2 (some .int), Cond.methodLink RX5 143 yX5_ofMachine, Cond.instanceMethod yX5_ofMachine, Cond.selects RX5 yX5_ofMachine yX5_ofMachine, Cond.code yX5_ofMachine cX5_ofMachine 2 (some .int), Cond.methodLink RL 164 yL_told, Cond.static yL_told, Cond.codeWith yL_told cL_told 4 (some .int) [(0, 9, 12, 18)], Cond.methodLink RL 70 yX4_told, Cond.instanceMethod yX4_told, Cond.selects RX4 yX4_told yX4_told]
def wsL_law0_r27 : List Cond := [Cond.code yX4_told cX4_told 2 (some .int), Cond.fieldLink RX4 244 "WireLoom$Machine" "latest" "[I", Cond.methodLink RL 166 yX5_told, Cond.instanceMethod yX5_told, Cond.selects RX5 yX5_told yX5_told, Cond.code yX5_told cX5_told 2 (some .int), Cond.methodLink RX5 146 yX5_toldAgo, Cond.instanceMethod yX5_toldAgo, Cond.selects RX5 yX5_toldAgo yX5_toldAgo, Cond.code yX5_toldAgo cX5_toldAgo 2 (some .int), Cond.methodLink RL 167 yL_count, Cond.static yL_count, Cond.codeWith yL_count cL_count 4 (some .int) [(0, 9, 12, 18)], Cond.methodLink RL 73 yX4_count, Cond.instanceMethod yX4_count, Cond.selects RX4 yX4_count yX4_count, Cond.code yX4_count cX4_count 2 (some .int), Cond.fieldLink RX4 250 "WireLoom$State" "crossingsChanged" "I", Cond.fieldLink RX4 253 "WireLoom$State" "readingsDone" "I", Cond.methodLink RX4 247 yX2_crossingsByRings, Cond.instanceMethod yX2_crossingsByRings, Cond.selects RX2 yX2_crossingsByRings yX2_crossingsByRings, Cond.code yX2_crossingsByRings cX2_crossingsByRings 3 (some .int), Cond.methodLink RX4 256 yX2_threadsRight]
def wsL_law0_r28 : List Cond := [Cond.instanceMethod yX2_threadsRight, Cond.selects RX2 yX2_threadsRight yX2_threadsRight, Cond.code yX2_threadsRight cX2_threadsRight 3 (some .int), Cond.methodLink RX4 259 yX2_greatestWear, Cond.instanceMethod yX2_greatestWear, Cond.selects RX2 yX2_greatestWear yX2_greatestWear, Cond.code yX2_greatestWear cX2_greatestWear 3 (some .int), Cond.methodLink RX4 262 yX4_pairsTellingTheSame, Cond.instanceMethod yX4_pairsTellingTheSame, Cond.selects RX4 yX4_pairsTellingTheSame yX4_pairsTellingTheSame, Cond.code yX4_pairsTellingTheSame cX4_pairsTellingTheSame 4 (some .int), Cond.methodLink RX4 265 yX2_fewestUnlikeBits, Cond.instanceMethod yX2_fewestUnlikeBits, Cond.selects RX2 yX2_fewestUnlikeBits yX2_fewestUnlikeBits, Cond.code yX2_fewestUnlikeBits cX2_fewestUnlikeBits 4 (some .int), Cond.methodLink RL 169 yX5_count, Cond.instanceMethod yX5_count, Cond.selects RX5 yX5_count yX5_count, Cond.code yX5_count cX5_count 2 (some .int), Cond.methodLink RX5 162 yX5_counted, Cond.instanceMethod yX5_counted, Cond.selects RX5 yX5_counted yX5_counted, Cond.code yX5_counted cX5_counted 2 (some .int), Cond.methodLink RX5 149 yX5_byRings]
def wsL_law0_r29 : List Cond := [Cond.instanceMethod yX5_byRings, Cond.selects RX5 yX5_byRings yX5_byRings, Cond.code yX5_byRings cX5_byRings 3 (some .int), Cond.methodLink RX5 152 yX5_right, Cond.instanceMethod yX5_right, Cond.selects RX5 yX5_right yX5_right, Cond.code yX5_right cX5_right 4 (some .int), Cond.methodLink RX5 155 yX5_greatestWear, Cond.instanceMethod yX5_greatestWear, Cond.selects RX5 yX5_greatestWear yX5_greatestWear, Cond.code yX5_greatestWear cX5_greatestWear 3 (some .int), Cond.methodLink RX5 158 yX5_pairs, Cond.instanceMethod yX5_pairs, Cond.selects RX5 yX5_pairs yX5_pairs, Cond.code yX5_pairs cX5_pairs 7 (some .int), Cond.methodLink RL 170 yL_setting, Cond.static yL_setting, Cond.codeWith yL_setting cL_setting 4 (some .int) [(0, 9, 12, 13)], Cond.methodLink RL 76 yX4_setting, Cond.instanceMethod yX4_setting, Cond.selects RX4 yX4_setting yX4_setting, Cond.code yX4_setting cX4_setting 2 (some .int), Cond.methodLink RL 172 yX5_setting, Cond.instanceMethod yX5_setting]
def wsL_law0_r30 : List Cond := [Cond.selects RX5 yX5_setting yX5_setting, Cond.code yX5_setting cX5_setting 2 (some .int), Cond.methodLink RL 173 yL_ifLoaded, Cond.static yL_ifLoaded, Cond.codeWith yL_ifLoaded cL_ifLoaded 4 (some .int) [(0, 9, 12, 13)], Cond.methodLink RL 79 yX4_ifLoaded, Cond.instanceMethod yX4_ifLoaded, Cond.selects RX4 yX4_ifLoaded yX4_ifLoaded, Cond.code yX4_ifLoaded cX4_ifLoaded 2 (some .int), Cond.methodLink RX4 270 yX4_changesOfProgramAt, Cond.instanceMethod yX4_changesOfProgramAt, Cond.selects RX4 yX4_changesOfProgramAt yX4_changesOfProgramAt, Cond.code yX4_changesOfProgramAt cX4_changesOfProgramAt 5 (some .int), Cond.methodLink RL 175 yX5_ifLoaded, Cond.instanceMethod yX5_ifLoaded, Cond.selects RX5 yX5_ifLoaded yX5_ifLoaded, Cond.code yX5_ifLoaded cX5_ifLoaded 2 (some .int), Cond.methodLink RX5 165 yX5_wouldLoad, Cond.instanceMethod yX5_wouldLoad, Cond.selects RX5 yX5_wouldLoad yX5_wouldLoad, Cond.code yX5_wouldLoad cX5_wouldLoad 2 (some .int), Cond.methodLink RL 176 yX4_bestPlace, Cond.instanceMethod yX4_bestPlace, Cond.selects RX4 yX4_bestPlace yX4_bestPlace]
def wsL_law0_r31 : List Cond := [Cond.code yX4_bestPlace cX4_bestPlace 5 (some .int), Cond.methodLink RL 179 yX5_bestPlace, Cond.instanceMethod yX5_bestPlace, Cond.selects RX5 yX5_bestPlace yX5_bestPlace, Cond.code yX5_bestPlace cX5_bestPlace 1 (some .int), Cond.methodLink RX5 168 yX5_placeFound, Cond.instanceMethod yX5_placeFound, Cond.selects RX5 yX5_placeFound yX5_placeFound, Cond.code yX5_placeFound cX5_placeFound 3 (some .int), Cond.methodLink RL 180 yX4_bestGuard, Cond.instanceMethod yX4_bestGuard, Cond.selects RX4 yX4_bestGuard yX4_bestGuard, Cond.code yX4_bestGuard cX4_bestGuard 5 (some .int), Cond.methodLink RL 183 yX5_bestGuard, Cond.instanceMethod yX5_bestGuard, Cond.selects RX5 yX5_bestGuard yX5_bestGuard, Cond.code yX5_bestGuard cX5_bestGuard 1 (some .int), Cond.methodLink RX5 171 yX5_guardFound, Cond.instanceMethod yX5_guardFound, Cond.selects RX5 yX5_guardFound yX5_guardFound, Cond.code yX5_guardFound cX5_guardFound 5 (some .int), Cond.methodLink RL 184 yL_lastsFor, Cond.static yL_lastsFor, Cond.codeWith yL_lastsFor cL_lastsFor 4 (some .int) [(0, 9, 12, 13)]]
def wsL_law0_r32 : List Cond := [Cond.methodLink RL 82 yX4_lastsFor, Cond.instanceMethod yX4_lastsFor, Cond.selects RX4 yX4_lastsFor yX4_lastsFor, Cond.code yX4_lastsFor cX4_lastsFor 2 (some .int), Cond.methodLink RX4 273 yX2_readingsUntilChange, Cond.instanceMethod yX2_readingsUntilChange, Cond.selects RX2 yX2_readingsUntilChange yX2_readingsUntilChange, Cond.code yX2_readingsUntilChange cX2_readingsUntilChange 6 (some .int), Cond.methodLink RL 186 yX5_lastsFor, Cond.instanceMethod yX5_lastsFor, Cond.selects RX5 yX5_lastsFor yX5_lastsFor, Cond.code yX5_lastsFor cX5_lastsFor 2 (some .int), Cond.methodLink RX5 174 yX5_readingsLeft, Cond.instanceMethod yX5_readingsLeft, Cond.selects RX5 yX5_readingsLeft yX5_readingsLeft, Cond.code yX5_readingsLeft cX5_readingsLeft 4 (some .int), Cond.methodLink RL 187 yL_ifGone, Cond.static yL_ifGone, Cond.codeWith yL_ifGone cL_ifGone 5 (some .int) [(0, 10, 13, 18)], Cond.methodLink RL 85 yX4_ifGone, Cond.instanceMethod yX4_ifGone, Cond.selects RX4 yX4_ifGone yX4_ifGone, Cond.code yX4_ifGone cX4_ifGone 4 (some .int), Cond.methodLink RL 189 yX5_ifGone]
def wsL_law0_r33 : List Cond := [Cond.instanceMethod yX5_ifGone, Cond.selects RX5 yX5_ifGone yX5_ifGone, Cond.code yX5_ifGone cX5_ifGone 3 (some .int), Cond.methodLink RX5 177 yX5_gone, Cond.instanceMethod yX5_gone, Cond.selects RX5 yX5_gone yX5_gone, Cond.code yX5_gone cX5_gone 4 (some .int), Cond.methodLink RL 190 yX4_rightShare, Cond.instanceMethod yX4_rightShare, Cond.selects RX4 yX4_rightShare yX4_rightShare, Cond.code yX4_rightShare cX4_rightShare 1 (some .double), Cond.constantDouble RX4 278 (4625196817309499392), Cond.methodLink RL 194 yX5_rightShare, Cond.instanceMethod yX5_rightShare, Cond.selects RX5 yX5_rightShare yX5_rightShare, Cond.code yX5_rightShare cX5_rightShare 1 (some .double), Cond.methodLink RX5 182 yX5_share, Cond.instanceMethod yX5_share, Cond.selects RX5 yX5_share yX5_share, Cond.code yX5_share cX5_share 1 (some .double), Cond.constantDouble RX5 180 (4625196817309499392), Cond.methodLink RL 195 yX4_meanWear, Cond.instanceMethod yX4_meanWear, Cond.selects RX4 yX4_meanWear yX4_meanWear]
def wsL_law0_r34 : List Cond := [Cond.code yX4_meanWear cX4_meanWear 1 (some .float), Cond.constantFloat RX4 283 (1090519040), Cond.methodLink RX4 280 yX2_wearOfAll, Cond.instanceMethod yX2_wearOfAll, Cond.selects RX2 yX2_wearOfAll yX2_wearOfAll, Cond.code yX2_wearOfAll cX2_wearOfAll 3 (some .int), Cond.methodLink RL 199 yX5_meanWear, Cond.instanceMethod yX5_meanWear, Cond.selects RX5 yX5_meanWear yX5_meanWear, Cond.code yX5_meanWear cX5_meanWear 1 (some .float), Cond.methodLink RX5 187 yX5_mean, Cond.instanceMethod yX5_mean, Cond.selects RX5 yX5_mean yX5_mean, Cond.code yX5_mean cX5_mean 3 (some .float), Cond.constantFloat RX5 186 (1090519040), Cond.methodLink RL 200 yX4_digest, Cond.instanceMethod yX4_digest, Cond.selects RX4 yX4_digest yX4_digest, Cond.code yX4_digest cX4_digest 4 (some .long), Cond.constantLong RX4 284 (3371), Cond.constantLong RX4 286 (31), Cond.methodLink RX4 288 yX4_count, Cond.methodLink RX4 290 yX4_digestThreads, Cond.instanceMethod yX4_digestThreads]
def wsL_law0_r35 : List Cond := [Cond.selects RX4 yX4_digestThreads yX4_digestThreads, Cond.code yX4_digestThreads cX4_digestThreads 7 (some .long), Cond.methodLink RX4 319 yX4_threadOf, Cond.methodLink RX4 294 yX4_digestRings, Cond.instanceMethod yX4_digestRings, Cond.selects RX4 yX4_digestRings yX4_digestRings, Cond.code yX4_digestRings cX4_digestRings 7 (some .long), Cond.methodLink RX4 322 yX4_ringOf, Cond.methodLink RX4 325 yX4_strength, Cond.methodLink RX4 297 yX4_digestMachine, Cond.instanceMethod yX4_digestMachine, Cond.selects RX4 yX4_digestMachine yX4_digestMachine, Cond.code yX4_digestMachine cX4_digestMachine 6 (some .long), Cond.methodLink RX4 329 yX4_machine, Cond.methodLink RX4 300 yX4_ifGone, Cond.methodLink RX4 303 yX4_ifLoaded, Cond.methodLink RX4 306 yX4_bestPlace, Cond.methodLink RX4 309 yX4_bestGuard, Cond.methodLink RX4 312 yX4_bitsOfShare, Cond.static yX4_bitsOfShare, Cond.code yX4_bitsOfShare cX4_bitsOfShare 9 (some .long), Cond.methodLink RX4 316 yX4_digestBuffer, Cond.instanceMethod yX4_digestBuffer, Cond.selects RX4 yX4_digestBuffer yX4_digestBuffer]
def wsL_law0_r36 : List Cond := [Cond.code yX4_digestBuffer cX4_digestBuffer 6 (some .long), Cond.fieldLink RX4 331 "WireLoom$Text" "codes" "[I", Cond.methodLink RL 204 yX5_digest, Cond.instanceMethod yX5_digest, Cond.selects RX5 yX5_digest yX5_digest, Cond.code yX5_digest cX5_digest 2 (some .long), Cond.constantLong RX5 203 (3371), Cond.fieldLink RX5 193 "WireLoomModel" "hash" "J", Cond.constantLong RX5 208 (-1), Cond.constantLong RX5 210 (4503599627370496), Cond.constantLong RX5 212 (1023), Cond.constantLong RX5 218 (8388608), Cond.constantLong RX5 220 (127), Cond.methodLink RX5 199 yX5_mix, Cond.instanceMethod yX5_mix, Cond.selects RX5 yX5_mix yX5_mix, Cond.code yX5_mix cX5_mix 3 none, Cond.constantLong RX5 191 (31), Cond.methodLink RX5 205 yX5_mixThreads, Cond.instanceMethod yX5_mixThreads, Cond.selects RX5 yX5_mixThreads yX5_mixThreads, Cond.code yX5_mixThreads cX5_mixThreads 3 none, Cond.methodLink RX5 214 yX5_bits, Cond.static yX5_bits]
def wsL_law0_r37 : List Cond := [Cond.code yX5_bits cX5_bits 10 (some .long), Cond.constantDouble RX5 197 (4611686018427387904)]
def wsL_law0 : List Cond := (wsL_law0_r1 ++ (wsL_law0_r2 ++ (wsL_law0_r3 ++ (wsL_law0_r4 ++ (wsL_law0_r5 ++ (wsL_law0_r6 ++ (wsL_law0_r7 ++ (wsL_law0_r8 ++ (wsL_law0_r9 ++ (wsL_law0_r10 ++ (wsL_law0_r11 ++ (wsL_law0_r12 ++ (wsL_law0_r13 ++ (wsL_law0_r14 ++ (wsL_law0_r15 ++ (wsL_law0_r16 ++ (wsL_law0_r17 ++ (wsL_law0_r18 ++ (wsL_law0_r19 ++ (wsL_law0_r20 ++ (wsL_law0_r21 ++ (wsL_law0_r22 ++ (wsL_law0_r23 ++ (wsL_law0_r24 ++ (wsL_law0_r25 ++ (wsL_law0_r26 ++ (wsL_law0_r27 ++ (wsL_law0_r28 ++ (wsL_law0_r29 ++ (wsL_law0_r30 ++ (wsL_law0_r31 ++ (wsL_law0_r32 ++ (wsL_law0_r33 ++ (wsL_law0_r34 ++ (wsL_law0_r35 ++ (wsL_law0_r36 ++ wsL_law0_r37)))))))))))))))))))))))))))))))))))) ++ wsX40 ++ wsX50 ++ wsX20 ++ wsX10 ++ wsX30 ++ wsX00 ++ ([] : List Cond)
def wsL_law : List Cond := wsL_law0 ++ (vx_atS RX4 56 "java/lang/IndexOutOfBoundsException" ["java/lang/RuntimeException", "java/lang/Exception"]).filter goodWord ++ (vx_atS RX4 83 "java/lang/IllegalArgumentException" ["java/lang/RuntimeException", "java/lang/Exception"]).filter goodWord ++ (vx_atS RX4 136 "java/lang/IllegalStateException" ["java/lang/RuntimeException", "java/lang/Exception"]).filter goodWord
abbrev vwCl : List vw_C := [(RX0, TX0, 7), (RX1, TX1, 3), (RX2, TX2, 8), (RX3, TX3, 5), (RX4, TX4, 7), (RX5, TX5, 10)]
end
section
set_option maxRecDepth 20000 in
theorem ggX0_init_X0_begin : GoodIn wsX0_init wsX0_begin := goodIn_r _ [11, 5, 6, 12, 13, 14, 15, 16, 17, 18, 19, 20, 21, 22, 23] (by decide +kernel) (by decide +kernel)
set_option maxRecDepth 20000 in
theorem gX0_init_X0_begin : GoodIn wsX0_init (wsV RX0 18 RX0 yX0_begin wsX0_begin) := goodIn_app (goodIn_of _ (by decide +kernel)) ggX0_init_X0_begin
theorem dX0_init_0 : decode cX0_init 0 = .ok (.aload_n 0, 1) := by decide +kernel
theorem dX0_init_1 : decode cX0_init 1 = .ok (.invokespecial 3, 3) := by decide +kernel
theorem dX0_init_4 : decode cX0_init 4 = .ok (.aload_n 0, 1) := by decide +kernel
theorem dX0_init_5 : decode cX0_init 5 = .ok (.iconst 4, 1) := by decide +kernel
theorem dX0_init_6 : decode cX0_init 6 = .ok (.newarray .int, 2) := by decide +kernel
theorem dX0_init_8 : decode cX0_init 8 = .ok (.putfield 11, 3) := by decide +kernel
theorem dX0_init_11 : decode cX0_init 11 = .ok (.aload_n 0, 1) := by decide +kernel
theorem dX0_init_12 : decode cX0_init 12 = .ok (.bipush 8, 2) := by decide +kernel
theorem dX0_init_14 : decode cX0_init 14 = .ok (.newarray .int, 2) := by decide +kernel
theorem dX0_init_16 : decode cX0_init 16 = .ok (.putfield 15, 3) := by decide +kernel
theorem dX0_init_19 : decode cX0_init 19 = .ok (.aload_n 0, 1) := by decide +kernel
theorem dX0_init_20 : decode cX0_init 20 = .ok (.invokevirtual 18, 3) := by decide +kernel
theorem dX0_init_23 : decode cX0_init 23 = .ok (.return_, 1) := by decide +kernel
theorem dX0_begin_0 : decode cX0_begin 0 = .ok (.iconst 0, 1) := by decide +kernel
theorem dX0_begin_1 : decode cX0_begin 1 = .ok (.istore_n 1, 1) := by decide +kernel
theorem dX0_begin_2 : decode cX0_begin 2 = .ok (.iload_n 1, 1) := by decide +kernel
theorem dX0_begin_3 : decode cX0_begin 3 = .ok (.iconst 4, 1) := by decide +kernel
theorem dX0_begin_4 : decode cX0_begin 4 = .ok (.if_icmp .ge 16, 3) := by decide +kernel
theorem dX0_begin_7 : decode cX0_begin 7 = .ok (.aload_n 0, 1) := by decide +kernel
theorem dX0_begin_8 : decode cX0_begin 8 = .ok (.getfield 11, 3) := by decide +kernel
theorem dX0_begin_11 : decode cX0_begin 11 = .ok (.iload_n 1, 1) := by decide +kernel
theorem dX0_begin_12 : decode cX0_begin 12 = .ok (.iconst 0, 1) := by decide +kernel
theorem dX0_begin_13 : decode cX0_begin 13 = .ok (.iastore, 1) := by decide +kernel
theorem dX0_begin_14 : decode cX0_begin 14 = .ok (.iinc 1 1, 3) := by decide +kernel
theorem dX0_begin_17 : decode cX0_begin 17 = .ok (.goto (-15), 3) := by decide +kernel
theorem dX0_begin_20 : decode cX0_begin 20 = .ok (.iconst 0, 1) := by decide +kernel
theorem dX0_begin_21 : decode cX0_begin 21 = .ok (.istore_n 1, 1) := by decide +kernel
theorem dX0_begin_22 : decode cX0_begin 22 = .ok (.iload_n 1, 1) := by decide +kernel
theorem dX0_begin_23 : decode cX0_begin 23 = .ok (.bipush 8, 2) := by decide +kernel
theorem dX0_begin_25 : decode cX0_begin 25 = .ok (.if_icmp .ge 16, 3) := by decide +kernel
theorem dX0_begin_28 : decode cX0_begin 28 = .ok (.aload_n 0, 1) := by decide +kernel
theorem dX0_begin_29 : decode cX0_begin 29 = .ok (.getfield 15, 3) := by decide +kernel
theorem dX0_begin_32 : decode cX0_begin 32 = .ok (.iload_n 1, 1) := by decide +kernel
theorem dX0_begin_33 : decode cX0_begin 33 = .ok (.iconst (-1), 1) := by decide +kernel
theorem dX0_begin_34 : decode cX0_begin 34 = .ok (.iastore, 1) := by decide +kernel
theorem dX0_begin_35 : decode cX0_begin 35 = .ok (.iinc 1 1, 3) := by decide +kernel
theorem dX0_begin_38 : decode cX0_begin 38 = .ok (.goto (-16), 3) := by decide +kernel
theorem dX0_begin_41 : decode cX0_begin 41 = .ok (.aload_n 0, 1) := by decide +kernel
theorem dX0_begin_42 : decode cX0_begin 42 = .ok (.iconst 0, 1) := by decide +kernel
theorem dX0_begin_43 : decode cX0_begin 43 = .ok (.putfield 21, 3) := by decide +kernel
theorem dX0_begin_46 : decode cX0_begin 46 = .ok (.aload_n 0, 1) := by decide +kernel
theorem dX0_begin_47 : decode cX0_begin 47 = .ok (.iconst 0, 1) := by decide +kernel
theorem dX0_begin_48 : decode cX0_begin 48 = .ok (.putfield 25, 3) := by decide +kernel
theorem dX0_begin_51 : decode cX0_begin 51 = .ok (.aload_n 0, 1) := by decide +kernel
theorem dX0_begin_52 : decode cX0_begin 52 = .ok (.iconst 1, 1) := by decide +kernel
theorem dX0_begin_53 : decode cX0_begin 53 = .ok (.putfield 28, 3) := by decide +kernel
theorem dX0_begin_56 : decode cX0_begin 56 = .ok (.aload_n 0, 1) := by decide +kernel
theorem dX0_begin_57 : decode cX0_begin 57 = .ok (.iconst 0, 1) := by decide +kernel
theorem dX0_begin_58 : decode cX0_begin 58 = .ok (.putfield 32, 3) := by decide +kernel
theorem dX0_begin_61 : decode cX0_begin 61 = .ok (.aload_n 0, 1) := by decide +kernel
theorem dX0_begin_62 : decode cX0_begin 62 = .ok (.iconst 0, 1) := by decide +kernel
theorem dX0_begin_63 : decode cX0_begin 63 = .ok (.putfield 35, 3) := by decide +kernel
theorem dX0_begin_66 : decode cX0_begin 66 = .ok (.return_, 1) := by decide +kernel
theorem dX0_becomeLike_0 : decode cX0_becomeLike 0 = .ok (.aload_n 1, 1) := by decide +kernel
theorem dX0_becomeLike_1 : decode cX0_becomeLike 1 = .ok (.getfield 11, 3) := by decide +kernel
theorem dX0_becomeLike_4 : decode cX0_becomeLike 4 = .ok (.iconst 0, 1) := by decide +kernel
theorem dX0_becomeLike_5 : decode cX0_becomeLike 5 = .ok (.aload_n 0, 1) := by decide +kernel
theorem dX0_becomeLike_6 : decode cX0_becomeLike 6 = .ok (.getfield 11, 3) := by decide +kernel
theorem dX0_becomeLike_9 : decode cX0_becomeLike 9 = .ok (.iconst 0, 1) := by decide +kernel
theorem dX0_becomeLike_10 : decode cX0_becomeLike 10 = .ok (.iconst 4, 1) := by decide +kernel
theorem dX0_becomeLike_11 : decode cX0_becomeLike 11 = .ok (.invokestatic 38, 3) := by decide +kernel
theorem dX0_becomeLike_14 : decode cX0_becomeLike 14 = .ok (.aload_n 1, 1) := by decide +kernel
theorem dX0_becomeLike_15 : decode cX0_becomeLike 15 = .ok (.getfield 15, 3) := by decide +kernel
theorem dX0_becomeLike_18 : decode cX0_becomeLike 18 = .ok (.iconst 0, 1) := by decide +kernel
theorem dX0_becomeLike_19 : decode cX0_becomeLike 19 = .ok (.aload_n 0, 1) := by decide +kernel
theorem dX0_becomeLike_20 : decode cX0_becomeLike 20 = .ok (.getfield 15, 3) := by decide +kernel
theorem dX0_becomeLike_23 : decode cX0_becomeLike 23 = .ok (.iconst 0, 1) := by decide +kernel
theorem dX0_becomeLike_24 : decode cX0_becomeLike 24 = .ok (.bipush 8, 2) := by decide +kernel
theorem dX0_becomeLike_26 : decode cX0_becomeLike 26 = .ok (.invokestatic 38, 3) := by decide +kernel
theorem dX0_becomeLike_29 : decode cX0_becomeLike 29 = .ok (.aload_n 0, 1) := by decide +kernel
theorem dX0_becomeLike_30 : decode cX0_becomeLike 30 = .ok (.aload_n 1, 1) := by decide +kernel
theorem dX0_becomeLike_31 : decode cX0_becomeLike 31 = .ok (.getfield 21, 3) := by decide +kernel
theorem dX0_becomeLike_34 : decode cX0_becomeLike 34 = .ok (.putfield 21, 3) := by decide +kernel
theorem dX0_becomeLike_37 : decode cX0_becomeLike 37 = .ok (.aload_n 0, 1) := by decide +kernel
theorem dX0_becomeLike_38 : decode cX0_becomeLike 38 = .ok (.aload_n 1, 1) := by decide +kernel
theorem dX0_becomeLike_39 : decode cX0_becomeLike 39 = .ok (.getfield 25, 3) := by decide +kernel
theorem dX0_becomeLike_42 : decode cX0_becomeLike 42 = .ok (.putfield 25, 3) := by decide +kernel
theorem dX0_becomeLike_45 : decode cX0_becomeLike 45 = .ok (.aload_n 0, 1) := by decide +kernel
theorem dX0_becomeLike_46 : decode cX0_becomeLike 46 = .ok (.aload_n 1, 1) := by decide +kernel
theorem dX0_becomeLike_47 : decode cX0_becomeLike 47 = .ok (.getfield 28, 3) := by decide +kernel
theorem dX0_becomeLike_50 : decode cX0_becomeLike 50 = .ok (.putfield 28, 3) := by decide +kernel
theorem dX0_becomeLike_53 : decode cX0_becomeLike 53 = .ok (.aload_n 0, 1) := by decide +kernel
theorem dX0_becomeLike_54 : decode cX0_becomeLike 54 = .ok (.aload_n 1, 1) := by decide +kernel
theorem dX0_becomeLike_55 : decode cX0_becomeLike 55 = .ok (.getfield 32, 3) := by decide +kernel
theorem dX0_becomeLike_58 : decode cX0_becomeLike 58 = .ok (.putfield 32, 3) := by decide +kernel
theorem dX0_becomeLike_61 : decode cX0_becomeLike 61 = .ok (.aload_n 0, 1) := by decide +kernel
theorem dX0_becomeLike_62 : decode cX0_becomeLike 62 = .ok (.aload_n 1, 1) := by decide +kernel
theorem dX0_becomeLike_63 : decode cX0_becomeLike 63 = .ok (.getfield 35, 3) := by decide +kernel
theorem dX0_becomeLike_66 : decode cX0_becomeLike 66 = .ok (.putfield 35, 3) := by decide +kernel
theorem dX0_becomeLike_69 : decode cX0_becomeLike 69 = .ok (.return_, 1) := by decide +kernel
set_option maxRecDepth 20000 in
theorem ggX0_obey_X0_tellCount : GoodIn wsX0_obey wsX0_tellCount := goodIn_r _ [10, 11, 4, 12, 13, 14, 15, 16, 17, 18, 19] (by decide +kernel) (by decide +kernel)
set_option maxRecDepth 20000 in
theorem gX0_obey_X0_tellCount : GoodIn wsX0_obey (wsV RX0 44 RX0 yX0_tellCount wsX0_tellCount) := goodIn_app (goodIn_of _ (by decide +kernel)) ggX0_obey_X0_tellCount
theorem dX0_obey_0 : decode cX0_obey 0 = .ok (.iload_n 1, 1) := by decide +kernel
theorem dX0_obey_1 : decode cX0_obey 1 = .ok (.bipush 32, 2) := by decide +kernel
theorem dX0_obey_3 : decode cX0_obey 3 = .ok (.idiv, 1) := by decide +kernel
theorem dX0_obey_4 : decode cX0_obey 4 = .ok (.istore_n 2, 1) := by decide +kernel
theorem dX0_obey_5 : decode cX0_obey 5 = .ok (.iload_n 1, 1) := by decide +kernel
theorem dX0_obey_6 : decode cX0_obey 6 = .ok (.bipush 32, 2) := by decide +kernel
theorem dX0_obey_8 : decode cX0_obey 8 = .ok (.irem, 1) := by decide +kernel
theorem dX0_obey_9 : decode cX0_obey 9 = .ok (.istore_n 3, 1) := by decide +kernel
theorem dX0_obey_10 : decode cX0_obey 10 = .ok (.aload_n 0, 1) := by decide +kernel
theorem dX0_obey_11 : decode cX0_obey 11 = .ok (.dup, 1) := by decide +kernel
theorem dX0_obey_12 : decode cX0_obey 12 = .ok (.getfield 32, 3) := by decide +kernel
theorem dX0_obey_15 : decode cX0_obey 15 = .ok (.iconst 1, 1) := by decide +kernel
theorem dX0_obey_16 : decode cX0_obey 16 = .ok (.iadd, 1) := by decide +kernel
theorem dX0_obey_17 : decode cX0_obey 17 = .ok (.putfield 32, 3) := by decide +kernel
theorem dX0_obey_20 : decode cX0_obey 20 = .ok (.aload_n 0, 1) := by decide +kernel
theorem dX0_obey_21 : decode cX0_obey 21 = .ok (.aload_n 0, 1) := by decide +kernel
theorem dX0_obey_22 : decode cX0_obey 22 = .ok (.getfield 21, 3) := by decide +kernel
theorem dX0_obey_25 : decode cX0_obey 25 = .ok (.iconst 1, 1) := by decide +kernel
theorem dX0_obey_26 : decode cX0_obey 26 = .ok (.iadd, 1) := by decide +kernel
theorem dX0_obey_27 : decode cX0_obey 27 = .ok (.bipush 16, 2) := by decide +kernel
theorem dX0_obey_29 : decode cX0_obey 29 = .ok (.irem, 1) := by decide +kernel
theorem dX0_obey_30 : decode cX0_obey 30 = .ok (.putfield 21, 3) := by decide +kernel
theorem dX0_obey_33 : decode cX0_obey 33 = .ok (.iload_n 2, 1) := by decide +kernel
theorem dX0_obey_34 : decode cX0_obey 34 = .ok (.tableswitch 154 0 6 #[42, 50, 58, 82, 97, 108, 133], 42) := by decide +kernel
theorem dX0_obey_76 : decode cX0_obey 76 = .ok (.aload_n 0, 1) := by decide +kernel
theorem dX0_obey_77 : decode cX0_obey 77 = .ok (.iconst 0, 1) := by decide +kernel
theorem dX0_obey_78 : decode cX0_obey 78 = .ok (.putfield 28, 3) := by decide +kernel
theorem dX0_obey_81 : decode cX0_obey 81 = .ok (.goto 111, 3) := by decide +kernel
theorem dX0_obey_84 : decode cX0_obey 84 = .ok (.aload_n 0, 1) := by decide +kernel
theorem dX0_obey_85 : decode cX0_obey 85 = .ok (.iload_n 3, 1) := by decide +kernel
theorem dX0_obey_86 : decode cX0_obey 86 = .ok (.putfield 25, 3) := by decide +kernel
theorem dX0_obey_89 : decode cX0_obey 89 = .ok (.goto 103, 3) := by decide +kernel
theorem dX0_obey_92 : decode cX0_obey 92 = .ok (.aload_n 0, 1) := by decide +kernel
theorem dX0_obey_93 : decode cX0_obey 93 = .ok (.aload_n 0, 1) := by decide +kernel
theorem dX0_obey_94 : decode cX0_obey 94 = .ok (.getfield 25, 3) := by decide +kernel
theorem dX0_obey_97 : decode cX0_obey 97 = .ok (.aload_n 0, 1) := by decide +kernel
theorem dX0_obey_98 : decode cX0_obey 98 = .ok (.getfield 11, 3) := by decide +kernel
theorem dX0_obey_101 : decode cX0_obey 101 = .ok (.iload_n 3, 1) := by decide +kernel
theorem dX0_obey_102 : decode cX0_obey 102 = .ok (.iconst 4, 1) := by decide +kernel
theorem dX0_obey_103 : decode cX0_obey 103 = .ok (.irem, 1) := by decide +kernel
theorem dX0_obey_104 : decode cX0_obey 104 = .ok (.iaload, 1) := by decide +kernel
theorem dX0_obey_105 : decode cX0_obey 105 = .ok (.iadd, 1) := by decide +kernel
theorem dX0_obey_106 : decode cX0_obey 106 = .ok (.sipush 256, 3) := by decide +kernel
theorem dX0_obey_109 : decode cX0_obey 109 = .ok (.irem, 1) := by decide +kernel
theorem dX0_obey_110 : decode cX0_obey 110 = .ok (.putfield 25, 3) := by decide +kernel
theorem dX0_obey_113 : decode cX0_obey 113 = .ok (.goto 79, 3) := by decide +kernel
theorem dX0_obey_116 : decode cX0_obey 116 = .ok (.aload_n 0, 1) := by decide +kernel
theorem dX0_obey_117 : decode cX0_obey 117 = .ok (.getfield 11, 3) := by decide +kernel
theorem dX0_obey_120 : decode cX0_obey 120 = .ok (.iload_n 3, 1) := by decide +kernel
theorem dX0_obey_121 : decode cX0_obey 121 = .ok (.iconst 4, 1) := by decide +kernel
theorem dX0_obey_122 : decode cX0_obey 122 = .ok (.irem, 1) := by decide +kernel
theorem dX0_obey_123 : decode cX0_obey 123 = .ok (.aload_n 0, 1) := by decide +kernel
theorem dX0_obey_124 : decode cX0_obey 124 = .ok (.getfield 25, 3) := by decide +kernel
theorem dX0_obey_127 : decode cX0_obey 127 = .ok (.iastore, 1) := by decide +kernel
theorem dX0_obey_128 : decode cX0_obey 128 = .ok (.goto 64, 3) := by decide +kernel
theorem dX0_obey_131 : decode cX0_obey 131 = .ok (.aload_n 0, 1) := by decide +kernel
theorem dX0_obey_132 : decode cX0_obey 132 = .ok (.iload_n 3, 1) := by decide +kernel
theorem dX0_obey_133 : decode cX0_obey 133 = .ok (.bipush 16, 2) := by decide +kernel
theorem dX0_obey_135 : decode cX0_obey 135 = .ok (.irem, 1) := by decide +kernel
theorem dX0_obey_136 : decode cX0_obey 136 = .ok (.putfield 21, 3) := by decide +kernel
theorem dX0_obey_139 : decode cX0_obey 139 = .ok (.goto 53, 3) := by decide +kernel
theorem dX0_obey_142 : decode cX0_obey 142 = .ok (.aload_n 0, 1) := by decide +kernel
theorem dX0_obey_143 : decode cX0_obey 143 = .ok (.aload_n 0, 1) := by decide +kernel
theorem dX0_obey_144 : decode cX0_obey 144 = .ok (.getfield 25, 3) := by decide +kernel
theorem dX0_obey_147 : decode cX0_obey 147 = .ok (.ifCond .ne 10, 3) := by decide +kernel
theorem dX0_obey_150 : decode cX0_obey 150 = .ok (.iload_n 3, 1) := by decide +kernel
theorem dX0_obey_151 : decode cX0_obey 151 = .ok (.bipush 16, 2) := by decide +kernel
theorem dX0_obey_153 : decode cX0_obey 153 = .ok (.irem, 1) := by decide +kernel
theorem dX0_obey_154 : decode cX0_obey 154 = .ok (.goto 7, 3) := by decide +kernel
theorem dX0_obey_157 : decode cX0_obey 157 = .ok (.aload_n 0, 1) := by decide +kernel
theorem dX0_obey_158 : decode cX0_obey 158 = .ok (.getfield 21, 3) := by decide +kernel
theorem dX0_obey_161 : decode cX0_obey 161 = .ok (.putfield 21, 3) := by decide +kernel
theorem dX0_obey_164 : decode cX0_obey 164 = .ok (.goto 28, 3) := by decide +kernel
theorem dX0_obey_167 : decode cX0_obey 167 = .ok (.aload_n 0, 1) := by decide +kernel
theorem dX0_obey_168 : decode cX0_obey 168 = .ok (.aload_n 0, 1) := by decide +kernel
theorem dX0_obey_169 : decode cX0_obey 169 = .ok (.getfield 25, 3) := by decide +kernel
theorem dX0_obey_172 : decode cX0_obey 172 = .ok (.sipush 256, 3) := by decide +kernel
theorem dX0_obey_175 : decode cX0_obey 175 = .ok (.iadd, 1) := by decide +kernel
theorem dX0_obey_176 : decode cX0_obey 176 = .ok (.iload_n 3, 1) := by decide +kernel
theorem dX0_obey_177 : decode cX0_obey 177 = .ok (.isub, 1) := by decide +kernel
theorem dX0_obey_178 : decode cX0_obey 178 = .ok (.sipush 256, 3) := by decide +kernel
theorem dX0_obey_181 : decode cX0_obey 181 = .ok (.irem, 1) := by decide +kernel
theorem dX0_obey_182 : decode cX0_obey 182 = .ok (.putfield 25, 3) := by decide +kernel
theorem dX0_obey_185 : decode cX0_obey 185 = .ok (.goto 7, 3) := by decide +kernel
theorem dX0_obey_188 : decode cX0_obey 188 = .ok (.aload_n 0, 1) := by decide +kernel
theorem dX0_obey_189 : decode cX0_obey 189 = .ok (.invokevirtual 44, 3) := by decide +kernel
theorem dX0_obey_192 : decode cX0_obey 192 = .ok (.return_, 1) := by decide +kernel
theorem dX0_tellCount_0 : decode cX0_tellCount 0 = .ok (.bipush 7, 2) := by decide +kernel
theorem dX0_tellCount_2 : decode cX0_tellCount 2 = .ok (.istore_n 1, 1) := by decide +kernel
theorem dX0_tellCount_3 : decode cX0_tellCount 3 = .ok (.iload_n 1, 1) := by decide +kernel
theorem dX0_tellCount_4 : decode cX0_tellCount 4 = .ok (.ifCond .le 23, 3) := by decide +kernel
theorem dX0_tellCount_7 : decode cX0_tellCount 7 = .ok (.aload_n 0, 1) := by decide +kernel
theorem dX0_tellCount_8 : decode cX0_tellCount 8 = .ok (.getfield 15, 3) := by decide +kernel
theorem dX0_tellCount_11 : decode cX0_tellCount 11 = .ok (.iload_n 1, 1) := by decide +kernel
theorem dX0_tellCount_12 : decode cX0_tellCount 12 = .ok (.aload_n 0, 1) := by decide +kernel
theorem dX0_tellCount_13 : decode cX0_tellCount 13 = .ok (.getfield 15, 3) := by decide +kernel
theorem dX0_tellCount_16 : decode cX0_tellCount 16 = .ok (.iload_n 1, 1) := by decide +kernel
theorem dX0_tellCount_17 : decode cX0_tellCount 17 = .ok (.iconst 1, 1) := by decide +kernel
theorem dX0_tellCount_18 : decode cX0_tellCount 18 = .ok (.isub, 1) := by decide +kernel
theorem dX0_tellCount_19 : decode cX0_tellCount 19 = .ok (.iaload, 1) := by decide +kernel
theorem dX0_tellCount_20 : decode cX0_tellCount 20 = .ok (.iastore, 1) := by decide +kernel
theorem dX0_tellCount_21 : decode cX0_tellCount 21 = .ok (.iinc 1 (-1), 3) := by decide +kernel
theorem dX0_tellCount_24 : decode cX0_tellCount 24 = .ok (.goto (-21), 3) := by decide +kernel
theorem dX0_tellCount_27 : decode cX0_tellCount 27 = .ok (.aload_n 0, 1) := by decide +kernel
theorem dX0_tellCount_28 : decode cX0_tellCount 28 = .ok (.getfield 15, 3) := by decide +kernel
theorem dX0_tellCount_31 : decode cX0_tellCount 31 = .ok (.iconst 0, 1) := by decide +kernel
theorem dX0_tellCount_32 : decode cX0_tellCount 32 = .ok (.aload_n 0, 1) := by decide +kernel
theorem dX0_tellCount_33 : decode cX0_tellCount 33 = .ok (.getfield 25, 3) := by decide +kernel
theorem dX0_tellCount_36 : decode cX0_tellCount 36 = .ok (.iastore, 1) := by decide +kernel
theorem dX0_tellCount_37 : decode cX0_tellCount 37 = .ok (.aload_n 0, 1) := by decide +kernel
theorem dX0_tellCount_38 : decode cX0_tellCount 38 = .ok (.dup, 1) := by decide +kernel
theorem dX0_tellCount_39 : decode cX0_tellCount 39 = .ok (.getfield 35, 3) := by decide +kernel
theorem dX0_tellCount_42 : decode cX0_tellCount 42 = .ok (.iconst 1, 1) := by decide +kernel
theorem dX0_tellCount_43 : decode cX0_tellCount 43 = .ok (.iadd, 1) := by decide +kernel
theorem dX0_tellCount_44 : decode cX0_tellCount 44 = .ok (.putfield 35, 3) := by decide +kernel
theorem dX0_tellCount_47 : decode cX0_tellCount 47 = .ok (.return_, 1) := by decide +kernel
set_option maxRecDepth 20000 in
theorem ggX1_init_X2_init : GoodIn wsX1_init wsX2_init := goodIn_r _ [10, 11, 2, 3, 12, 13, 14, 15, 16, 17, 18, 19, 20, 21, 22, 23, 24, 25, 26, 27, 28, 29, 30, 31, 32, 33, 34, 35, 39, 40, 41, 42, 43, 44, 45, 46, 47, 48, 49, 50, 51, 52, 53] (by decide +kernel) (by decide +kernel)
set_option maxRecDepth 20000 in
theorem gX1_init_X2_init : GoodIn wsX1_init (wsX2_init) := ggX1_init_X2_init
theorem dX1_init_0 : decode cX1_init 0 = .ok (.aload_n 0, 1) := by decide +kernel
theorem dX1_init_1 : decode cX1_init 1 = .ok (.invokespecial 1, 3) := by decide +kernel
theorem dX1_init_4 : decode cX1_init 4 = .ok (.aload_n 0, 1) := by decide +kernel
theorem dX1_init_5 : decode cX1_init 5 = .ok (.bipush 6, 2) := by decide +kernel
theorem dX1_init_7 : decode cX1_init 7 = .ok (.anewarray 9, 3) := by decide +kernel
theorem dX1_init_10 : decode cX1_init 10 = .ok (.putfield 11, 3) := by decide +kernel
theorem dX1_init_13 : decode cX1_init 13 = .ok (.iconst 0, 1) := by decide +kernel
theorem dX1_init_14 : decode cX1_init 14 = .ok (.istore_n 1, 1) := by decide +kernel
theorem dX1_init_15 : decode cX1_init 15 = .ok (.iload_n 1, 1) := by decide +kernel
theorem dX1_init_16 : decode cX1_init 16 = .ok (.bipush 6, 2) := by decide +kernel
theorem dX1_init_18 : decode cX1_init 18 = .ok (.if_icmp .ge 22, 3) := by decide +kernel
theorem dX1_init_21 : decode cX1_init 21 = .ok (.aload_n 0, 1) := by decide +kernel
theorem dX1_init_22 : decode cX1_init 22 = .ok (.getfield 11, 3) := by decide +kernel
theorem dX1_init_25 : decode cX1_init 25 = .ok (.iload_n 1, 1) := by decide +kernel
theorem dX1_init_26 : decode cX1_init 26 = .ok (.new 9, 3) := by decide +kernel
theorem dX1_init_29 : decode cX1_init 29 = .ok (.dup, 1) := by decide +kernel
theorem dX1_init_30 : decode cX1_init 30 = .ok (.invokespecial 15, 3) := by decide +kernel
theorem dX1_init_33 : decode cX1_init 33 = .ok (.aastore, 1) := by decide +kernel
theorem dX1_init_34 : decode cX1_init 34 = .ok (.iinc 1 1, 3) := by decide +kernel
theorem dX1_init_37 : decode cX1_init 37 = .ok (.goto (-22), 3) := by decide +kernel
theorem dX1_init_40 : decode cX1_init 40 = .ok (.return_, 1) := by decide +kernel
set_option maxRecDepth 20000 in
theorem ggX1_push_X2_become : GoodIn wsX1_push wsX2_become := goodIn_r _ [8, 9, 10, 11, 12, 13, 14, 15, 16, 17, 18, 19, 20, 21, 22, 23, 24, 25, 26, 27, 28, 29, 30, 31, 32, 33, 37, 38, 39, 40, 41, 42, 43, 44, 45, 46, 47, 48, 49, 50, 51] (by decide +kernel) (by decide +kernel)
set_option maxRecDepth 20000 in
theorem gX1_push_X2_become : GoodIn wsX1_push (wsV RX1 23 RX2 yX2_become wsX2_become) := goodIn_app (goodIn_of _ (by decide +kernel)) ggX1_push_X2_become
theorem dX1_push_0 : decode cX1_push 0 = .ok (.aload_n 0, 1) := by decide +kernel
theorem dX1_push_1 : decode cX1_push 1 = .ok (.getfield 11, 3) := by decide +kernel
theorem dX1_push_4 : decode cX1_push 4 = .ok (.aload_n 0, 1) := by decide +kernel
theorem dX1_push_5 : decode cX1_push 5 = .ok (.getfield 16, 3) := by decide +kernel
theorem dX1_push_8 : decode cX1_push 8 = .ok (.aload_n 0, 1) := by decide +kernel
theorem dX1_push_9 : decode cX1_push 9 = .ok (.getfield 20, 3) := by decide +kernel
theorem dX1_push_12 : decode cX1_push 12 = .ok (.iadd, 1) := by decide +kernel
theorem dX1_push_13 : decode cX1_push 13 = .ok (.bipush 6, 2) := by decide +kernel
theorem dX1_push_15 : decode cX1_push 15 = .ok (.irem, 1) := by decide +kernel
theorem dX1_push_16 : decode cX1_push 16 = .ok (.aaload, 1) := by decide +kernel
theorem dX1_push_17 : decode cX1_push 17 = .ok (.aload_n 1, 1) := by decide +kernel
theorem dX1_push_18 : decode cX1_push 18 = .ok (.invokevirtual 23, 3) := by decide +kernel
theorem dX1_push_21 : decode cX1_push 21 = .ok (.aload_n 0, 1) := by decide +kernel
theorem dX1_push_22 : decode cX1_push 22 = .ok (.getfield 20, 3) := by decide +kernel
theorem dX1_push_25 : decode cX1_push 25 = .ok (.bipush 6, 2) := by decide +kernel
theorem dX1_push_27 : decode cX1_push 27 = .ok (.if_icmp .ge 16, 3) := by decide +kernel
theorem dX1_push_30 : decode cX1_push 30 = .ok (.aload_n 0, 1) := by decide +kernel
theorem dX1_push_31 : decode cX1_push 31 = .ok (.dup, 1) := by decide +kernel
theorem dX1_push_32 : decode cX1_push 32 = .ok (.getfield 20, 3) := by decide +kernel
theorem dX1_push_35 : decode cX1_push 35 = .ok (.iconst 1, 1) := by decide +kernel
theorem dX1_push_36 : decode cX1_push 36 = .ok (.iadd, 1) := by decide +kernel
theorem dX1_push_37 : decode cX1_push 37 = .ok (.putfield 20, 3) := by decide +kernel
theorem dX1_push_40 : decode cX1_push 40 = .ok (.goto 16, 3) := by decide +kernel
theorem dX1_push_43 : decode cX1_push 43 = .ok (.aload_n 0, 1) := by decide +kernel
theorem dX1_push_44 : decode cX1_push 44 = .ok (.aload_n 0, 1) := by decide +kernel
theorem dX1_push_45 : decode cX1_push 45 = .ok (.getfield 16, 3) := by decide +kernel
theorem dX1_push_48 : decode cX1_push 48 = .ok (.iconst 1, 1) := by decide +kernel
theorem dX1_push_49 : decode cX1_push 49 = .ok (.iadd, 1) := by decide +kernel
theorem dX1_push_50 : decode cX1_push 50 = .ok (.bipush 6, 2) := by decide +kernel
theorem dX1_push_52 : decode cX1_push 52 = .ok (.irem, 1) := by decide +kernel
theorem dX1_push_53 : decode cX1_push 53 = .ok (.putfield 16, 3) := by decide +kernel
theorem dX1_push_56 : decode cX1_push 56 = .ok (.return_, 1) := by decide +kernel
set_option maxRecDepth 20000 in
theorem ggX1_popInto_X2_become : GoodIn wsX1_popInto wsX2_become := goodIn_r _ [8, 9, 10, 11, 12, 13, 14, 15, 16, 17, 18, 19, 20, 21, 22, 23, 24, 25, 26, 27, 28, 29, 30, 31, 32, 33, 37, 38, 39, 40, 41, 42, 43, 44, 45, 46, 47, 48, 49, 50, 51] (by decide +kernel) (by decide +kernel)
set_option maxRecDepth 20000 in
theorem gX1_popInto_X2_become : GoodIn wsX1_popInto (wsV RX1 23 RX2 yX2_become wsX2_become) := goodIn_app (goodIn_of _ (by decide +kernel)) ggX1_popInto_X2_become
theorem dX1_popInto_0 : decode cX1_popInto 0 = .ok (.aload_n 0, 1) := by decide +kernel
theorem dX1_popInto_1 : decode cX1_popInto 1 = .ok (.getfield 20, 3) := by decide +kernel
theorem dX1_popInto_4 : decode cX1_popInto 4 = .ok (.ifCond .le 34, 3) := by decide +kernel
theorem dX1_popInto_7 : decode cX1_popInto 7 = .ok (.aload_n 0, 1) := by decide +kernel
theorem dX1_popInto_8 : decode cX1_popInto 8 = .ok (.dup, 1) := by decide +kernel
theorem dX1_popInto_9 : decode cX1_popInto 9 = .ok (.getfield 20, 3) := by decide +kernel
theorem dX1_popInto_12 : decode cX1_popInto 12 = .ok (.iconst 1, 1) := by decide +kernel
theorem dX1_popInto_13 : decode cX1_popInto 13 = .ok (.isub, 1) := by decide +kernel
theorem dX1_popInto_14 : decode cX1_popInto 14 = .ok (.putfield 20, 3) := by decide +kernel
theorem dX1_popInto_17 : decode cX1_popInto 17 = .ok (.aload_n 1, 1) := by decide +kernel
theorem dX1_popInto_18 : decode cX1_popInto 18 = .ok (.aload_n 0, 1) := by decide +kernel
theorem dX1_popInto_19 : decode cX1_popInto 19 = .ok (.getfield 11, 3) := by decide +kernel
theorem dX1_popInto_22 : decode cX1_popInto 22 = .ok (.aload_n 0, 1) := by decide +kernel
theorem dX1_popInto_23 : decode cX1_popInto 23 = .ok (.getfield 16, 3) := by decide +kernel
theorem dX1_popInto_26 : decode cX1_popInto 26 = .ok (.aload_n 0, 1) := by decide +kernel
theorem dX1_popInto_27 : decode cX1_popInto 27 = .ok (.getfield 20, 3) := by decide +kernel
theorem dX1_popInto_30 : decode cX1_popInto 30 = .ok (.iadd, 1) := by decide +kernel
theorem dX1_popInto_31 : decode cX1_popInto 31 = .ok (.bipush 6, 2) := by decide +kernel
theorem dX1_popInto_33 : decode cX1_popInto 33 = .ok (.irem, 1) := by decide +kernel
theorem dX1_popInto_34 : decode cX1_popInto 34 = .ok (.aaload, 1) := by decide +kernel
theorem dX1_popInto_35 : decode cX1_popInto 35 = .ok (.invokevirtual 23, 3) := by decide +kernel
theorem dX1_popInto_38 : decode cX1_popInto 38 = .ok (.return_, 1) := by decide +kernel
set_option maxRecDepth 20000 in
theorem ggX2_init_X0_init : GoodIn wsX2_init wsX0_init := goodIn_r _ [15, 16, 2, 3, 4, 17, 18, 19, 20, 21, 11, 22, 23, 24, 25, 26, 27, 36, 37, 38, 39, 40, 41, 42] (by decide +kernel) (by decide +kernel)
set_option maxRecDepth 20000 in
theorem gX2_init_X0_init : GoodIn wsX2_init (wsX0_init) := ggX2_init_X0_init
theorem dX2_init_0 : decode cX2_init 0 = .ok (.aload_n 0, 1) := by decide +kernel
theorem dX2_init_1 : decode cX2_init 1 = .ok (.invokespecial 3, 3) := by decide +kernel
theorem dX2_init_4 : decode cX2_init 4 = .ok (.aload_n 0, 1) := by decide +kernel
theorem dX2_init_5 : decode cX2_init 5 = .ok (.bipush 16, 2) := by decide +kernel
theorem dX2_init_7 : decode cX2_init 7 = .ok (.newarray .int, 2) := by decide +kernel
theorem dX2_init_9 : decode cX2_init 9 = .ok (.putfield 9, 3) := by decide +kernel
theorem dX2_init_12 : decode cX2_init 12 = .ok (.aload_n 0, 1) := by decide +kernel
theorem dX2_init_13 : decode cX2_init 13 = .ok (.bipush 16, 2) := by decide +kernel
theorem dX2_init_15 : decode cX2_init 15 = .ok (.newarray .int, 2) := by decide +kernel
theorem dX2_init_17 : decode cX2_init 17 = .ok (.putfield 15, 3) := by decide +kernel
theorem dX2_init_20 : decode cX2_init 20 = .ok (.aload_n 0, 1) := by decide +kernel
theorem dX2_init_21 : decode cX2_init 21 = .ok (.bipush 8, 2) := by decide +kernel
theorem dX2_init_23 : decode cX2_init 23 = .ok (.newarray .int, 2) := by decide +kernel
theorem dX2_init_25 : decode cX2_init 25 = .ok (.putfield 18, 3) := by decide +kernel
theorem dX2_init_28 : decode cX2_init 28 = .ok (.aload_n 0, 1) := by decide +kernel
theorem dX2_init_29 : decode cX2_init 29 = .ok (.iconst 2, 1) := by decide +kernel
theorem dX2_init_30 : decode cX2_init 30 = .ok (.newarray .int, 2) := by decide +kernel
theorem dX2_init_32 : decode cX2_init 32 = .ok (.putfield 21, 3) := by decide +kernel
theorem dX2_init_35 : decode cX2_init 35 = .ok (.aload_n 0, 1) := by decide +kernel
theorem dX2_init_36 : decode cX2_init 36 = .ok (.new 24, 3) := by decide +kernel
theorem dX2_init_39 : decode cX2_init 39 = .ok (.dup, 1) := by decide +kernel
theorem dX2_init_40 : decode cX2_init 40 = .ok (.invokespecial 26, 3) := by decide +kernel
theorem dX2_init_43 : decode cX2_init 43 = .ok (.putfield 27, 3) := by decide +kernel
theorem dX2_init_46 : decode cX2_init 46 = .ok (.aload_n 0, 1) := by decide +kernel
theorem dX2_init_47 : decode cX2_init 47 = .ok (.getfield 21, 3) := by decide +kernel
theorem dX2_init_50 : decode cX2_init 50 = .ok (.iconst 0, 1) := by decide +kernel
theorem dX2_init_51 : decode cX2_init 51 = .ok (.bipush 6, 2) := by decide +kernel
theorem dX2_init_53 : decode cX2_init 53 = .ok (.iastore, 1) := by decide +kernel
theorem dX2_init_54 : decode cX2_init 54 = .ok (.return_, 1) := by decide +kernel
set_option maxRecDepth 20000 in
theorem ggX2_become_X0_becomeLike : GoodIn wsX2_become wsX0_becomeLike := goodIn_r _ [17, 18, 19, 3, 4, 5, 20, 21, 22, 23, 24, 25, 34, 35, 36, 37, 38, 39, 40] (by decide +kernel) (by decide +kernel)
set_option maxRecDepth 20000 in
theorem gX2_become_X0_becomeLike : GoodIn wsX2_become (wsV RX2 37 RX0 yX0_becomeLike wsX0_becomeLike) := goodIn_app (goodIn_of _ (by decide +kernel)) ggX2_become_X0_becomeLike
theorem dX2_become_0 : decode cX2_become 0 = .ok (.aload_n 1, 1) := by decide +kernel
theorem dX2_become_1 : decode cX2_become 1 = .ok (.getfield 9, 3) := by decide +kernel
theorem dX2_become_4 : decode cX2_become 4 = .ok (.iconst 0, 1) := by decide +kernel
theorem dX2_become_5 : decode cX2_become 5 = .ok (.aload_n 0, 1) := by decide +kernel
theorem dX2_become_6 : decode cX2_become 6 = .ok (.getfield 9, 3) := by decide +kernel
theorem dX2_become_9 : decode cX2_become 9 = .ok (.iconst 0, 1) := by decide +kernel
theorem dX2_become_10 : decode cX2_become 10 = .ok (.bipush 16, 2) := by decide +kernel
theorem dX2_become_12 : decode cX2_become 12 = .ok (.invokestatic 31, 3) := by decide +kernel
theorem dX2_become_15 : decode cX2_become 15 = .ok (.aload_n 1, 1) := by decide +kernel
theorem dX2_become_16 : decode cX2_become 16 = .ok (.getfield 15, 3) := by decide +kernel
theorem dX2_become_19 : decode cX2_become 19 = .ok (.iconst 0, 1) := by decide +kernel
theorem dX2_become_20 : decode cX2_become 20 = .ok (.aload_n 0, 1) := by decide +kernel
theorem dX2_become_21 : decode cX2_become 21 = .ok (.getfield 15, 3) := by decide +kernel
theorem dX2_become_24 : decode cX2_become 24 = .ok (.iconst 0, 1) := by decide +kernel
theorem dX2_become_25 : decode cX2_become 25 = .ok (.bipush 16, 2) := by decide +kernel
theorem dX2_become_27 : decode cX2_become 27 = .ok (.invokestatic 31, 3) := by decide +kernel
theorem dX2_become_30 : decode cX2_become 30 = .ok (.aload_n 1, 1) := by decide +kernel
theorem dX2_become_31 : decode cX2_become 31 = .ok (.getfield 18, 3) := by decide +kernel
theorem dX2_become_34 : decode cX2_become 34 = .ok (.iconst 0, 1) := by decide +kernel
theorem dX2_become_35 : decode cX2_become 35 = .ok (.aload_n 0, 1) := by decide +kernel
theorem dX2_become_36 : decode cX2_become 36 = .ok (.getfield 18, 3) := by decide +kernel
theorem dX2_become_39 : decode cX2_become 39 = .ok (.iconst 0, 1) := by decide +kernel
theorem dX2_become_40 : decode cX2_become 40 = .ok (.bipush 8, 2) := by decide +kernel
theorem dX2_become_42 : decode cX2_become 42 = .ok (.invokestatic 31, 3) := by decide +kernel
theorem dX2_become_45 : decode cX2_become 45 = .ok (.aload_n 1, 1) := by decide +kernel
theorem dX2_become_46 : decode cX2_become 46 = .ok (.getfield 21, 3) := by decide +kernel
theorem dX2_become_49 : decode cX2_become 49 = .ok (.iconst 0, 1) := by decide +kernel
theorem dX2_become_50 : decode cX2_become 50 = .ok (.aload_n 0, 1) := by decide +kernel
theorem dX2_become_51 : decode cX2_become 51 = .ok (.getfield 21, 3) := by decide +kernel
theorem dX2_become_54 : decode cX2_become 54 = .ok (.iconst 0, 1) := by decide +kernel
theorem dX2_become_55 : decode cX2_become 55 = .ok (.iconst 2, 1) := by decide +kernel
theorem dX2_become_56 : decode cX2_become 56 = .ok (.invokestatic 31, 3) := by decide +kernel
theorem dX2_become_59 : decode cX2_become 59 = .ok (.aload_n 0, 1) := by decide +kernel
theorem dX2_become_60 : decode cX2_become 60 = .ok (.getfield 27, 3) := by decide +kernel
theorem dX2_become_63 : decode cX2_become 63 = .ok (.aload_n 1, 1) := by decide +kernel
theorem dX2_become_64 : decode cX2_become 64 = .ok (.getfield 27, 3) := by decide +kernel
theorem dX2_become_67 : decode cX2_become 67 = .ok (.invokevirtual 37, 3) := by decide +kernel
theorem dX2_become_70 : decode cX2_become 70 = .ok (.aload_n 0, 1) := by decide +kernel
theorem dX2_become_71 : decode cX2_become 71 = .ok (.aload_n 1, 1) := by decide +kernel
theorem dX2_become_72 : decode cX2_become 72 = .ok (.getfield 41, 3) := by decide +kernel
theorem dX2_become_75 : decode cX2_become 75 = .ok (.putfield 41, 3) := by decide +kernel
theorem dX2_become_78 : decode cX2_become 78 = .ok (.aload_n 0, 1) := by decide +kernel
theorem dX2_become_79 : decode cX2_become 79 = .ok (.aload_n 1, 1) := by decide +kernel
theorem dX2_become_80 : decode cX2_become 80 = .ok (.getfield 45, 3) := by decide +kernel
theorem dX2_become_83 : decode cX2_become 83 = .ok (.putfield 45, 3) := by decide +kernel
theorem dX2_become_86 : decode cX2_become 86 = .ok (.aload_n 0, 1) := by decide +kernel
theorem dX2_become_87 : decode cX2_become 87 = .ok (.aload_n 1, 1) := by decide +kernel
theorem dX2_become_88 : decode cX2_become 88 = .ok (.getfield 48, 3) := by decide +kernel
theorem dX2_become_91 : decode cX2_become 91 = .ok (.putfield 48, 3) := by decide +kernel
theorem dX2_become_94 : decode cX2_become 94 = .ok (.return_, 1) := by decide +kernel
theorem dX2_asWord_0 : decode cX2_asWord 0 = .ok (.aload_n 0, 1) := by decide +kernel
theorem dX2_asWord_1 : decode cX2_asWord 1 = .ok (.getfield 21, 3) := by decide +kernel
theorem dX2_asWord_4 : decode cX2_asWord 4 = .ok (.iconst 1, 1) := by decide +kernel
theorem dX2_asWord_5 : decode cX2_asWord 5 = .ok (.iaload, 1) := by decide +kernel
theorem dX2_asWord_6 : decode cX2_asWord 6 = .ok (.ifCond .ne 7, 3) := by decide +kernel
theorem dX2_asWord_9 : decode cX2_asWord 9 = .ok (.iload_n 1, 1) := by decide +kernel
theorem dX2_asWord_10 : decode cX2_asWord 10 = .ok (.goto 8, 3) := by decide +kernel
theorem dX2_asWord_13 : decode cX2_asWord 13 = .ok (.iload_n 1, 1) := by decide +kernel
theorem dX2_asWord_14 : decode cX2_asWord 14 = .ok (.sipush 255, 3) := by decide +kernel
theorem dX2_asWord_17 : decode cX2_asWord 17 = .ok (.ixor, 1) := by decide +kernel
theorem dX2_asWord_18 : decode cX2_asWord 18 = .ok (.ireturn, 1) := by decide +kernel
set_option maxRecDepth 20000 in
theorem ggX2_means_X2_asWord : GoodIn wsX2_means wsX2_asWord := goodIn_r _ [6, 7, 8, 9, 10, 11, 12, 13, 14, 15] (by decide +kernel) (by decide +kernel)
set_option maxRecDepth 20000 in
theorem gX2_means_X2_asWord : GoodIn wsX2_means (wsV RX2 51 RX2 yX2_asWord wsX2_asWord) := goodIn_app (goodIn_of _ (by decide +kernel)) ggX2_means_X2_asWord
theorem dX2_means_0 : decode cX2_means 0 = .ok (.aload_n 0, 1) := by decide +kernel
theorem dX2_means_1 : decode cX2_means 1 = .ok (.aload_n 0, 1) := by decide +kernel
theorem dX2_means_2 : decode cX2_means 2 = .ok (.getfield 9, 3) := by decide +kernel
theorem dX2_means_5 : decode cX2_means 5 = .ok (.iload_n 1, 1) := by decide +kernel
theorem dX2_means_6 : decode cX2_means 6 = .ok (.iaload, 1) := by decide +kernel
theorem dX2_means_7 : decode cX2_means 7 = .ok (.invokevirtual 51, 3) := by decide +kernel
theorem dX2_means_10 : decode cX2_means 10 = .ok (.ireturn, 1) := by decide +kernel
set_option maxRecDepth 20000 in
theorem ggX2_tells_X2_answering : GoodIn wsX2_tells wsX2_answering := goodIn_r _ [5, 6, 7, 8, 9, 10, 11, 12, 13, 4, 14, 15, 16, 17, 18, 19, 20, 21, 22, 23, 24, 29, 30, 31, 32, 33, 34, 35, 36] (by decide +kernel) (by decide +kernel)
set_option maxRecDepth 20000 in
theorem gX2_tells_X2_answering : GoodIn wsX2_tells (wsV RX2 55 RX2 yX2_answering wsX2_answering) := goodIn_app (goodIn_of _ (by decide +kernel)) ggX2_tells_X2_answering
set_option maxRecDepth 20000 in
theorem ggX2_tells_X2_asWord : GoodIn wsX2_tells wsX2_asWord := goodIn_r _ [28, 7, 29, 30, 31, 32, 33, 34, 35, 36] (by decide +kernel) (by decide +kernel)
set_option maxRecDepth 20000 in
theorem gX2_tells_X2_asWord : GoodIn wsX2_tells (wsV RX2 51 RX2 yX2_asWord wsX2_asWord) := goodIn_app (goodIn_of _ (by decide +kernel)) ggX2_tells_X2_asWord
theorem dX2_tells_0 : decode cX2_tells 0 = .ok (.aload_n 0, 1) := by decide +kernel
theorem dX2_tells_1 : decode cX2_tells 1 = .ok (.aload_n 0, 1) := by decide +kernel
theorem dX2_tells_2 : decode cX2_tells 2 = .ok (.iload_n 1, 1) := by decide +kernel
theorem dX2_tells_3 : decode cX2_tells 3 = .ok (.invokevirtual 55, 3) := by decide +kernel
theorem dX2_tells_6 : decode cX2_tells 6 = .ok (.invokevirtual 51, 3) := by decide +kernel
theorem dX2_tells_9 : decode cX2_tells 9 = .ok (.ireturn, 1) := by decide +kernel
set_option maxRecDepth 20000 in
theorem ggX2_layThrough_X2_wearRings : GoodIn wsX2_layThrough wsX2_wearRings := goodIn_r _ [7, 8, 9, 10, 11, 12, 13, 14, 15, 23, 24, 25, 26, 27, 28, 29, 30] (by decide +kernel) (by decide +kernel)
set_option maxRecDepth 20000 in
theorem gX2_layThrough_X2_wearRings : GoodIn wsX2_layThrough (wsV RX2 58 RX2 yX2_wearRings wsX2_wearRings) := goodIn_app (goodIn_of _ (by decide +kernel)) ggX2_layThrough_X2_wearRings
set_option maxRecDepth 20000 in
theorem ggX2_layThrough_J6_bitCount_0f7a4 : GoodIn wsX2_layThrough wsJ6_bitCount_0f7a4 := goodIn_r _ [19, 20, 21, 22] (by decide +kernel) (by decide +kernel)
set_option maxRecDepth 20000 in
theorem gX2_layThrough_J6_bitCount_0f7a4 : GoodIn wsX2_layThrough (va_wsS RX2 62 yJ6_bitCount_0f7a4 wsJ6_bitCount_0f7a4) := goodIn_app (goodIn_of _ (by decide +kernel)) ggX2_layThrough_J6_bitCount_0f7a4
theorem dX2_layThrough_0 : decode cX2_layThrough 0 = .ok (.aload_n 0, 1) := by decide +kernel
theorem dX2_layThrough_1 : decode cX2_layThrough 1 = .ok (.getfield 9, 3) := by decide +kernel
theorem dX2_layThrough_4 : decode cX2_layThrough 4 = .ok (.iload_n 1, 1) := by decide +kernel
theorem dX2_layThrough_5 : decode cX2_layThrough 5 = .ok (.iaload, 1) := by decide +kernel
theorem dX2_layThrough_6 : decode cX2_layThrough 6 = .ok (.iload_n 2, 1) := by decide +kernel
theorem dX2_layThrough_7 : decode cX2_layThrough 7 = .ok (.ixor, 1) := by decide +kernel
theorem dX2_layThrough_8 : decode cX2_layThrough 8 = .ok (.istore_n 3, 1) := by decide +kernel
theorem dX2_layThrough_9 : decode cX2_layThrough 9 = .ok (.aload_n 0, 1) := by decide +kernel
theorem dX2_layThrough_10 : decode cX2_layThrough 10 = .ok (.iload_n 3, 1) := by decide +kernel
theorem dX2_layThrough_11 : decode cX2_layThrough 11 = .ok (.iconst 2, 1) := by decide +kernel
theorem dX2_layThrough_12 : decode cX2_layThrough 12 = .ok (.invokevirtual 58, 3) := by decide +kernel
theorem dX2_layThrough_15 : decode cX2_layThrough 15 = .ok (.aload_n 0, 1) := by decide +kernel
theorem dX2_layThrough_16 : decode cX2_layThrough 16 = .ok (.getfield 9, 3) := by decide +kernel
theorem dX2_layThrough_19 : decode cX2_layThrough 19 = .ok (.iload_n 1, 1) := by decide +kernel
theorem dX2_layThrough_20 : decode cX2_layThrough 20 = .ok (.iload_n 2, 1) := by decide +kernel
theorem dX2_layThrough_21 : decode cX2_layThrough 21 = .ok (.iastore, 1) := by decide +kernel
theorem dX2_layThrough_22 : decode cX2_layThrough 22 = .ok (.iload_n 3, 1) := by decide +kernel
theorem dX2_layThrough_23 : decode cX2_layThrough 23 = .ok (.invokestatic 62, 3) := by decide +kernel
theorem dX2_layThrough_26 : decode cX2_layThrough 26 = .ok (.istore 4, 2) := by decide +kernel
theorem dX2_layThrough_28 : decode cX2_layThrough 28 = .ok (.aload_n 0, 1) := by decide +kernel
theorem dX2_layThrough_29 : decode cX2_layThrough 29 = .ok (.dup, 1) := by decide +kernel
theorem dX2_layThrough_30 : decode cX2_layThrough 30 = .ok (.getfield 45, 3) := by decide +kernel
theorem dX2_layThrough_33 : decode cX2_layThrough 33 = .ok (.iload 4, 2) := by decide +kernel
theorem dX2_layThrough_35 : decode cX2_layThrough 35 = .ok (.iadd, 1) := by decide +kernel
theorem dX2_layThrough_36 : decode cX2_layThrough 36 = .ok (.putfield 45, 3) := by decide +kernel
theorem dX2_layThrough_39 : decode cX2_layThrough 39 = .ok (.iload 4, 2) := by decide +kernel
theorem dX2_layThrough_41 : decode cX2_layThrough 41 = .ok (.ireturn, 1) := by decide +kernel
set_option maxRecDepth 20000 in
theorem ggX2_renewRing_X2_threadsThrough : GoodIn wsX2_renewRing wsX2_threadsThrough := goodIn_r _ [7, 1, 8, 9, 10, 18, 19, 20, 21, 22, 23, 24, 25] (by decide +kernel) (by decide +kernel)
set_option maxRecDepth 20000 in
theorem gX2_renewRing_X2_threadsThrough : GoodIn wsX2_renewRing (wsV RX2 67 RX2 yX2_threadsThrough wsX2_threadsThrough) := goodIn_app (goodIn_of _ (by decide +kernel)) ggX2_renewRing_X2_threadsThrough
set_option maxRecDepth 20000 in
theorem ggX2_renewRing_J6_bitCount_0f7a4 : GoodIn wsX2_renewRing wsJ6_bitCount_0f7a4 := goodIn_r _ [14, 15, 16, 17] (by decide +kernel) (by decide +kernel)
set_option maxRecDepth 20000 in
theorem gX2_renewRing_J6_bitCount_0f7a4 : GoodIn wsX2_renewRing (va_wsS RX2 62 yJ6_bitCount_0f7a4 wsJ6_bitCount_0f7a4) := goodIn_app (goodIn_of _ (by decide +kernel)) ggX2_renewRing_J6_bitCount_0f7a4
theorem dX2_renewRing_0 : decode cX2_renewRing 0 = .ok (.aload_n 0, 1) := by decide +kernel
theorem dX2_renewRing_1 : decode cX2_renewRing 1 = .ok (.iload_n 1, 1) := by decide +kernel
theorem dX2_renewRing_2 : decode cX2_renewRing 2 = .ok (.invokevirtual 67, 3) := by decide +kernel
theorem dX2_renewRing_5 : decode cX2_renewRing 5 = .ok (.invokestatic 62, 3) := by decide +kernel
theorem dX2_renewRing_8 : decode cX2_renewRing 8 = .ok (.istore_n 2, 1) := by decide +kernel
theorem dX2_renewRing_9 : decode cX2_renewRing 9 = .ok (.iconst 0, 1) := by decide +kernel
theorem dX2_renewRing_10 : decode cX2_renewRing 10 = .ok (.istore_n 3, 1) := by decide +kernel
theorem dX2_renewRing_11 : decode cX2_renewRing 11 = .ok (.iload_n 3, 1) := by decide +kernel
theorem dX2_renewRing_12 : decode cX2_renewRing 12 = .ok (.bipush 16, 2) := by decide +kernel
theorem dX2_renewRing_14 : decode cX2_renewRing 14 = .ok (.if_icmp .ge 23, 3) := by decide +kernel
theorem dX2_renewRing_17 : decode cX2_renewRing 17 = .ok (.aload_n 0, 1) := by decide +kernel
theorem dX2_renewRing_18 : decode cX2_renewRing 18 = .ok (.getfield 9, 3) := by decide +kernel
theorem dX2_renewRing_21 : decode cX2_renewRing 21 = .ok (.iload_n 3, 1) := by decide +kernel
theorem dX2_renewRing_22 : decode cX2_renewRing 22 = .ok (.dup2, 1) := by decide +kernel
theorem dX2_renewRing_23 : decode cX2_renewRing 23 = .ok (.iaload, 1) := by decide +kernel
theorem dX2_renewRing_24 : decode cX2_renewRing 24 = .ok (.iconst 1, 1) := by decide +kernel
theorem dX2_renewRing_25 : decode cX2_renewRing 25 = .ok (.iload_n 1, 1) := by decide +kernel
theorem dX2_renewRing_26 : decode cX2_renewRing 26 = .ok (.ishl, 1) := by decide +kernel
theorem dX2_renewRing_27 : decode cX2_renewRing 27 = .ok (.iconst (-1), 1) := by decide +kernel
theorem dX2_renewRing_28 : decode cX2_renewRing 28 = .ok (.ixor, 1) := by decide +kernel
theorem dX2_renewRing_29 : decode cX2_renewRing 29 = .ok (.iand, 1) := by decide +kernel
theorem dX2_renewRing_30 : decode cX2_renewRing 30 = .ok (.iastore, 1) := by decide +kernel
theorem dX2_renewRing_31 : decode cX2_renewRing 31 = .ok (.iinc 3 1, 3) := by decide +kernel
theorem dX2_renewRing_34 : decode cX2_renewRing 34 = .ok (.goto (-23), 3) := by decide +kernel
theorem dX2_renewRing_37 : decode cX2_renewRing 37 = .ok (.aload_n 0, 1) := by decide +kernel
theorem dX2_renewRing_38 : decode cX2_renewRing 38 = .ok (.getfield 18, 3) := by decide +kernel
theorem dX2_renewRing_41 : decode cX2_renewRing 41 = .ok (.iload_n 1, 1) := by decide +kernel
theorem dX2_renewRing_42 : decode cX2_renewRing 42 = .ok (.iconst 0, 1) := by decide +kernel
theorem dX2_renewRing_43 : decode cX2_renewRing 43 = .ok (.iastore, 1) := by decide +kernel
theorem dX2_renewRing_44 : decode cX2_renewRing 44 = .ok (.iload_n 2, 1) := by decide +kernel
theorem dX2_renewRing_45 : decode cX2_renewRing 45 = .ok (.ireturn, 1) := by decide +kernel
set_option maxRecDepth 20000 in
theorem ggX2_wearRings_X4_bit : GoodIn wsX2_wearRings wsX4_bit := goodIn_r _ [8] (by decide +kernel) (by decide +kernel)
set_option maxRecDepth 20000 in
theorem gX2_wearRings_X4_bit_n70 : GoodIn wsX2_wearRings (wsX4_bit) := ggX2_wearRings_X4_bit
theorem dX2_wearRings_0 : decode cX2_wearRings 0 = .ok (.iconst 0, 1) := by decide +kernel
theorem dX2_wearRings_1 : decode cX2_wearRings 1 = .ok (.istore_n 3, 1) := by decide +kernel
theorem dX2_wearRings_2 : decode cX2_wearRings 2 = .ok (.iload_n 3, 1) := by decide +kernel
theorem dX2_wearRings_3 : decode cX2_wearRings 3 = .ok (.bipush 8, 2) := by decide +kernel
theorem dX2_wearRings_5 : decode cX2_wearRings 5 = .ok (.if_icmp .ge 37, 3) := by decide +kernel
theorem dX2_wearRings_8 : decode cX2_wearRings 8 = .ok (.iload_n 1, 1) := by decide +kernel
theorem dX2_wearRings_9 : decode cX2_wearRings 9 = .ok (.iload_n 3, 1) := by decide +kernel
theorem dX2_wearRings_10 : decode cX2_wearRings 10 = .ok (.invokestatic 70, 3) := by decide +kernel
theorem dX2_wearRings_13 : decode cX2_wearRings 13 = .ok (.iconst 1, 1) := by decide +kernel
theorem dX2_wearRings_14 : decode cX2_wearRings 14 = .ok (.if_icmp .ne 22, 3) := by decide +kernel
theorem dX2_wearRings_17 : decode cX2_wearRings 17 = .ok (.aload_n 0, 1) := by decide +kernel
theorem dX2_wearRings_18 : decode cX2_wearRings 18 = .ok (.getfield 18, 3) := by decide +kernel
theorem dX2_wearRings_21 : decode cX2_wearRings 21 = .ok (.iload_n 3, 1) := by decide +kernel
theorem dX2_wearRings_22 : decode cX2_wearRings 22 = .ok (.aload_n 0, 1) := by decide +kernel
theorem dX2_wearRings_23 : decode cX2_wearRings 23 = .ok (.getfield 18, 3) := by decide +kernel
theorem dX2_wearRings_26 : decode cX2_wearRings 26 = .ok (.iload_n 3, 1) := by decide +kernel
theorem dX2_wearRings_27 : decode cX2_wearRings 27 = .ok (.iaload, 1) := by decide +kernel
theorem dX2_wearRings_28 : decode cX2_wearRings 28 = .ok (.iload_n 2, 1) := by decide +kernel
theorem dX2_wearRings_29 : decode cX2_wearRings 29 = .ok (.iadd, 1) := by decide +kernel
theorem dX2_wearRings_30 : decode cX2_wearRings 30 = .ok (.bipush 99, 2) := by decide +kernel
theorem dX2_wearRings_32 : decode cX2_wearRings 32 = .ok (.invokestatic 74, 3) := by decide +kernel
theorem dX2_wearRings_35 : decode cX2_wearRings 35 = .ok (.iastore, 1) := by decide +kernel
theorem dX2_wearRings_36 : decode cX2_wearRings 36 = .ok (.iinc 3 1, 3) := by decide +kernel
theorem dX2_wearRings_39 : decode cX2_wearRings 39 = .ok (.goto (-37), 3) := by decide +kernel
theorem dX2_wearRings_42 : decode cX2_wearRings 42 = .ok (.return_, 1) := by decide +kernel
set_option maxRecDepth 20000 in
theorem ggX2_takeReading_X2_tells : GoodIn wsX2_takeReading wsX2_tells := goodIn_r _ [8, 9, 10, 11, 7, 12, 1, 13, 14, 15, 16, 17, 18, 19, 20, 21, 22, 23, 24, 25, 26, 27, 28, 29, 30, 31, 32, 33, 34, 42, 43, 44, 45, 46, 47, 48, 49] (by decide +kernel) (by decide +kernel)
set_option maxRecDepth 20000 in
theorem gX2_takeReading_X2_tells : GoodIn wsX2_takeReading (wsV RX2 79 RX2 yX2_tells wsX2_tells) := goodIn_app (goodIn_of _ (by decide +kernel)) ggX2_takeReading_X2_tells
set_option maxRecDepth 20000 in
theorem ggX2_takeReading_X2_wearRings : GoodIn wsX2_takeReading wsX2_wearRings := goodIn_r _ [38, 25, 39, 40, 23, 41, 14, 15, 16, 42, 43, 44, 45, 46, 47, 48, 49] (by decide +kernel) (by decide +kernel)
set_option maxRecDepth 20000 in
theorem gX2_takeReading_X2_wearRings : GoodIn wsX2_takeReading (wsV RX2 58 RX2 yX2_wearRings wsX2_wearRings) := goodIn_app (goodIn_of _ (by decide +kernel)) ggX2_takeReading_X2_wearRings
theorem dX2_takeReading_0 : decode cX2_takeReading 0 = .ok (.aload_n 0, 1) := by decide +kernel
theorem dX2_takeReading_1 : decode cX2_takeReading 1 = .ok (.iload_n 1, 1) := by decide +kernel
theorem dX2_takeReading_2 : decode cX2_takeReading 2 = .ok (.invokevirtual 79, 3) := by decide +kernel
theorem dX2_takeReading_5 : decode cX2_takeReading 5 = .ok (.istore_n 2, 1) := by decide +kernel
theorem dX2_takeReading_6 : decode cX2_takeReading 6 = .ok (.aload_n 0, 1) := by decide +kernel
theorem dX2_takeReading_7 : decode cX2_takeReading 7 = .ok (.aload_n 0, 1) := by decide +kernel
theorem dX2_takeReading_8 : decode cX2_takeReading 8 = .ok (.getfield 9, 3) := by decide +kernel
theorem dX2_takeReading_11 : decode cX2_takeReading 11 = .ok (.iload_n 1, 1) := by decide +kernel
theorem dX2_takeReading_12 : decode cX2_takeReading 12 = .ok (.iaload, 1) := by decide +kernel
theorem dX2_takeReading_13 : decode cX2_takeReading 13 = .ok (.iconst 1, 1) := by decide +kernel
theorem dX2_takeReading_14 : decode cX2_takeReading 14 = .ok (.invokevirtual 58, 3) := by decide +kernel
theorem dX2_takeReading_17 : decode cX2_takeReading 17 = .ok (.aload_n 0, 1) := by decide +kernel
theorem dX2_takeReading_18 : decode cX2_takeReading 18 = .ok (.getfield 15, 3) := by decide +kernel
theorem dX2_takeReading_21 : decode cX2_takeReading 21 = .ok (.iload_n 1, 1) := by decide +kernel
theorem dX2_takeReading_22 : decode cX2_takeReading 22 = .ok (.dup2, 1) := by decide +kernel
theorem dX2_takeReading_23 : decode cX2_takeReading 23 = .ok (.iaload, 1) := by decide +kernel
theorem dX2_takeReading_24 : decode cX2_takeReading 24 = .ok (.iconst 1, 1) := by decide +kernel
theorem dX2_takeReading_25 : decode cX2_takeReading 25 = .ok (.iadd, 1) := by decide +kernel
theorem dX2_takeReading_26 : decode cX2_takeReading 26 = .ok (.iastore, 1) := by decide +kernel
theorem dX2_takeReading_27 : decode cX2_takeReading 27 = .ok (.aload_n 0, 1) := by decide +kernel
theorem dX2_takeReading_28 : decode cX2_takeReading 28 = .ok (.dup, 1) := by decide +kernel
theorem dX2_takeReading_29 : decode cX2_takeReading 29 = .ok (.getfield 48, 3) := by decide +kernel
theorem dX2_takeReading_32 : decode cX2_takeReading 32 = .ok (.iconst 1, 1) := by decide +kernel
theorem dX2_takeReading_33 : decode cX2_takeReading 33 = .ok (.iadd, 1) := by decide +kernel
theorem dX2_takeReading_34 : decode cX2_takeReading 34 = .ok (.putfield 48, 3) := by decide +kernel
theorem dX2_takeReading_37 : decode cX2_takeReading 37 = .ok (.iload_n 2, 1) := by decide +kernel
theorem dX2_takeReading_38 : decode cX2_takeReading 38 = .ok (.ireturn, 1) := by decide +kernel
set_option maxRecDepth 20000 in
theorem ggX2_run_X2_takeReading : GoodIn wsX2_run wsX2_takeReading := goodIn_r _ [8, 9, 10, 11, 12, 13, 14, 7, 15, 16, 17, 18, 19, 20, 21, 22, 23, 24, 25, 26, 27, 28, 29, 30, 31, 32, 33, 34, 35, 36, 37, 38, 39, 40, 41, 42, 43, 44, 45, 46, 47, 48, 65, 66, 67, 68, 69, 70, 71, 72] (by decide +kernel) (by decide +kernel)
set_option maxRecDepth 20000 in
theorem gX2_run_X2_takeReading : GoodIn wsX2_run (wsV RX2 89 RX2 yX2_takeReading wsX2_takeReading) := goodIn_app (goodIn_of _ (by decide +kernel)) ggX2_run_X2_takeReading
set_option maxRecDepth 20000 in
theorem ggX2_run_X0_obey : GoodIn wsX2_run wsX0_obey := goodIn_r _ [53, 54, 55, 56, 57, 58, 59, 60, 61, 52, 62, 63, 64, 73, 74, 75, 76, 77, 78, 79] (by decide +kernel) (by decide +kernel)
set_option maxRecDepth 20000 in
theorem gX2_run_X0_obey : GoodIn wsX2_run (wsV RX2 92 RX0 yX0_obey wsX0_obey) := goodIn_app (goodIn_of _ (by decide +kernel)) ggX2_run_X0_obey
theorem dX2_run_0 : decode cX2_run 0 = .ok (.iconst 0, 1) := by decide +kernel
theorem dX2_run_1 : decode cX2_run 1 = .ok (.istore_n 2, 1) := by decide +kernel
theorem dX2_run_2 : decode cX2_run 2 = .ok (.iload_n 2, 1) := by decide +kernel
theorem dX2_run_3 : decode cX2_run 3 = .ok (.iload_n 1, 1) := by decide +kernel
theorem dX2_run_4 : decode cX2_run 4 = .ok (.if_icmp .ge 39, 3) := by decide +kernel
theorem dX2_run_7 : decode cX2_run 7 = .ok (.aload_n 0, 1) := by decide +kernel
theorem dX2_run_8 : decode cX2_run 8 = .ok (.getfield 27, 3) := by decide +kernel
theorem dX2_run_11 : decode cX2_run 11 = .ok (.getfield 82, 3) := by decide +kernel
theorem dX2_run_14 : decode cX2_run 14 = .ok (.ifCond .eq 29, 3) := by decide +kernel
theorem dX2_run_17 : decode cX2_run 17 = .ok (.aload_n 0, 1) := by decide +kernel
theorem dX2_run_18 : decode cX2_run 18 = .ok (.aload_n 0, 1) := by decide +kernel
theorem dX2_run_19 : decode cX2_run 19 = .ok (.getfield 27, 3) := by decide +kernel
theorem dX2_run_22 : decode cX2_run 22 = .ok (.getfield 86, 3) := by decide +kernel
theorem dX2_run_25 : decode cX2_run 25 = .ok (.invokevirtual 89, 3) := by decide +kernel
theorem dX2_run_28 : decode cX2_run 28 = .ok (.istore_n 3, 1) := by decide +kernel
theorem dX2_run_29 : decode cX2_run 29 = .ok (.aload_n 0, 1) := by decide +kernel
theorem dX2_run_30 : decode cX2_run 30 = .ok (.getfield 27, 3) := by decide +kernel
theorem dX2_run_33 : decode cX2_run 33 = .ok (.iload_n 3, 1) := by decide +kernel
theorem dX2_run_34 : decode cX2_run 34 = .ok (.invokevirtual 92, 3) := by decide +kernel
theorem dX2_run_37 : decode cX2_run 37 = .ok (.iinc 2 1, 3) := by decide +kernel
theorem dX2_run_40 : decode cX2_run 40 = .ok (.goto (-38), 3) := by decide +kernel
theorem dX2_run_43 : decode cX2_run 43 = .ok (.iload_n 2, 1) := by decide +kernel
theorem dX2_run_44 : decode cX2_run 44 = .ok (.ireturn, 1) := by decide +kernel
set_option maxRecDepth 20000 in
theorem ggX2_oneThreadOn_X4_bit : GoodIn wsX2_oneThreadOn wsX4_bit := goodIn_r _ [5] (by decide +kernel) (by decide +kernel)
set_option maxRecDepth 20000 in
theorem gX2_oneThreadOn_X4_bit_n70 : GoodIn wsX2_oneThreadOn (wsX4_bit) := ggX2_oneThreadOn_X4_bit
theorem dX2_oneThreadOn_0 : decode cX2_oneThreadOn 0 = .ok (.iload_n 2, 1) := by decide +kernel
theorem dX2_oneThreadOn_1 : decode cX2_oneThreadOn 1 = .ok (.istore_n 3, 1) := by decide +kernel
theorem dX2_oneThreadOn_2 : decode cX2_oneThreadOn 2 = .ok (.iconst 0, 1) := by decide +kernel
theorem dX2_oneThreadOn_3 : decode cX2_oneThreadOn 3 = .ok (.istore 4, 2) := by decide +kernel
theorem dX2_oneThreadOn_5 : decode cX2_oneThreadOn 5 = .ok (.iload 4, 2) := by decide +kernel
theorem dX2_oneThreadOn_7 : decode cX2_oneThreadOn 7 = .ok (.bipush 16, 2) := by decide +kernel
theorem dX2_oneThreadOn_9 : decode cX2_oneThreadOn 9 = .ok (.if_icmp .ge 61, 3) := by decide +kernel
theorem dX2_oneThreadOn_12 : decode cX2_oneThreadOn 12 = .ok (.aload_n 0, 1) := by decide +kernel
theorem dX2_oneThreadOn_13 : decode cX2_oneThreadOn 13 = .ok (.getfield 9, 3) := by decide +kernel
theorem dX2_oneThreadOn_16 : decode cX2_oneThreadOn 16 = .ok (.iload 4, 2) := by decide +kernel
theorem dX2_oneThreadOn_18 : decode cX2_oneThreadOn 18 = .ok (.iaload, 1) := by decide +kernel
theorem dX2_oneThreadOn_19 : decode cX2_oneThreadOn 19 = .ok (.iload_n 2, 1) := by decide +kernel
theorem dX2_oneThreadOn_20 : decode cX2_oneThreadOn 20 = .ok (.iand, 1) := by decide +kernel
theorem dX2_oneThreadOn_21 : decode cX2_oneThreadOn 21 = .ok (.ifCond .eq 7, 3) := by decide +kernel
theorem dX2_oneThreadOn_24 : decode cX2_oneThreadOn 24 = .ok (.iconst 1, 1) := by decide +kernel
theorem dX2_oneThreadOn_25 : decode cX2_oneThreadOn 25 = .ok (.goto 4, 3) := by decide +kernel
theorem dX2_oneThreadOn_28 : decode cX2_oneThreadOn 28 = .ok (.iconst 0, 1) := by decide +kernel
theorem dX2_oneThreadOn_29 : decode cX2_oneThreadOn 29 = .ok (.istore 5, 2) := by decide +kernel
theorem dX2_oneThreadOn_31 : decode cX2_oneThreadOn 31 = .ok (.iload 5, 2) := by decide +kernel
theorem dX2_oneThreadOn_33 : decode cX2_oneThreadOn 33 = .ok (.ifCond .eq 31, 3) := by decide +kernel
theorem dX2_oneThreadOn_36 : decode cX2_oneThreadOn 36 = .ok (.iload 4, 2) := by decide +kernel
theorem dX2_oneThreadOn_38 : decode cX2_oneThreadOn 38 = .ok (.iload_n 1, 1) := by decide +kernel
theorem dX2_oneThreadOn_39 : decode cX2_oneThreadOn 39 = .ok (.if_icmp .eq 25, 3) := by decide +kernel
theorem dX2_oneThreadOn_42 : decode cX2_oneThreadOn 42 = .ok (.aload_n 0, 1) := by decide +kernel
theorem dX2_oneThreadOn_43 : decode cX2_oneThreadOn 43 = .ok (.getfield 41, 3) := by decide +kernel
theorem dX2_oneThreadOn_46 : decode cX2_oneThreadOn 46 = .ok (.iload 4, 2) := by decide +kernel
theorem dX2_oneThreadOn_48 : decode cX2_oneThreadOn 48 = .ok (.invokestatic 70, 3) := by decide +kernel
theorem dX2_oneThreadOn_51 : decode cX2_oneThreadOn 51 = .ok (.ifCond .ne 13, 3) := by decide +kernel
theorem dX2_oneThreadOn_54 : decode cX2_oneThreadOn 54 = .ok (.iload_n 3, 1) := by decide +kernel
theorem dX2_oneThreadOn_55 : decode cX2_oneThreadOn 55 = .ok (.aload_n 0, 1) := by decide +kernel
theorem dX2_oneThreadOn_56 : decode cX2_oneThreadOn 56 = .ok (.getfield 9, 3) := by decide +kernel
theorem dX2_oneThreadOn_59 : decode cX2_oneThreadOn 59 = .ok (.iload 4, 2) := by decide +kernel
theorem dX2_oneThreadOn_61 : decode cX2_oneThreadOn 61 = .ok (.iaload, 1) := by decide +kernel
theorem dX2_oneThreadOn_62 : decode cX2_oneThreadOn 62 = .ok (.ior, 1) := by decide +kernel
theorem dX2_oneThreadOn_63 : decode cX2_oneThreadOn 63 = .ok (.istore_n 3, 1) := by decide +kernel
theorem dX2_oneThreadOn_64 : decode cX2_oneThreadOn 64 = .ok (.iinc 4 1, 3) := by decide +kernel
theorem dX2_oneThreadOn_67 : decode cX2_oneThreadOn 67 = .ok (.goto (-62), 3) := by decide +kernel
theorem dX2_oneThreadOn_70 : decode cX2_oneThreadOn 70 = .ok (.iload_n 3, 1) := by decide +kernel
theorem dX2_oneThreadOn_71 : decode cX2_oneThreadOn 71 = .ok (.ireturn, 1) := by decide +kernel
set_option maxRecDepth 20000 in
theorem ggX2_hops_X4_bit : GoodIn wsX2_hops wsX4_bit := goodIn_r _ [4] (by decide +kernel) (by decide +kernel)
set_option maxRecDepth 20000 in
theorem gX2_hops_X4_bit_n70 : GoodIn wsX2_hops (wsX4_bit) := ggX2_hops_X4_bit
set_option maxRecDepth 20000 in
theorem ggX2_hops_X2_oneThreadOn : GoodIn wsX2_hops wsX2_oneThreadOn := goodIn_r _ [9, 1, 10, 2, 3, 4, 11, 12, 13, 14, 15, 16, 17, 18] (by decide +kernel) (by decide +kernel)
set_option maxRecDepth 20000 in
theorem gX2_hops_X2_oneThreadOn : GoodIn wsX2_hops (wsV RX2 96 RX2 yX2_oneThreadOn wsX2_oneThreadOn) := goodIn_app (goodIn_of _ (by decide +kernel)) ggX2_hops_X2_oneThreadOn
theorem dX2_hops_0 : decode cX2_hops 0 = .ok (.aload_n 0, 1) := by decide +kernel
theorem dX2_hops_1 : decode cX2_hops 1 = .ok (.getfield 9, 3) := by decide +kernel
theorem dX2_hops_4 : decode cX2_hops 4 = .ok (.iload_n 1, 1) := by decide +kernel
theorem dX2_hops_5 : decode cX2_hops 5 = .ok (.iaload, 1) := by decide +kernel
theorem dX2_hops_6 : decode cX2_hops 6 = .ok (.istore_n 3, 1) := by decide +kernel
theorem dX2_hops_7 : decode cX2_hops 7 = .ok (.iconst 0, 1) := by decide +kernel
theorem dX2_hops_8 : decode cX2_hops 8 = .ok (.istore 4, 2) := by decide +kernel
theorem dX2_hops_10 : decode cX2_hops 10 = .ok (.iload 4, 2) := by decide +kernel
theorem dX2_hops_12 : decode cX2_hops 12 = .ok (.bipush 8, 2) := by decide +kernel
theorem dX2_hops_14 : decode cX2_hops 14 = .ok (.if_icmp .ge 28, 3) := by decide +kernel
theorem dX2_hops_17 : decode cX2_hops 17 = .ok (.iload_n 3, 1) := by decide +kernel
theorem dX2_hops_18 : decode cX2_hops 18 = .ok (.iload_n 2, 1) := by decide +kernel
theorem dX2_hops_19 : decode cX2_hops 19 = .ok (.invokestatic 70, 3) := by decide +kernel
theorem dX2_hops_22 : decode cX2_hops 22 = .ok (.iconst 1, 1) := by decide +kernel
theorem dX2_hops_23 : decode cX2_hops 23 = .ok (.if_icmp .ne 6, 3) := by decide +kernel
theorem dX2_hops_26 : decode cX2_hops 26 = .ok (.iload 4, 2) := by decide +kernel
theorem dX2_hops_28 : decode cX2_hops 28 = .ok (.ireturn, 1) := by decide +kernel
theorem dX2_hops_29 : decode cX2_hops 29 = .ok (.aload_n 0, 1) := by decide +kernel
theorem dX2_hops_30 : decode cX2_hops 30 = .ok (.iload_n 1, 1) := by decide +kernel
theorem dX2_hops_31 : decode cX2_hops 31 = .ok (.iload_n 3, 1) := by decide +kernel
theorem dX2_hops_32 : decode cX2_hops 32 = .ok (.invokevirtual 96, 3) := by decide +kernel
theorem dX2_hops_35 : decode cX2_hops 35 = .ok (.istore_n 3, 1) := by decide +kernel
theorem dX2_hops_36 : decode cX2_hops 36 = .ok (.iinc 4 1, 3) := by decide +kernel
theorem dX2_hops_39 : decode cX2_hops 39 = .ok (.goto (-29), 3) := by decide +kernel
theorem dX2_hops_42 : decode cX2_hops 42 = .ok (.iconst (-1), 1) := by decide +kernel
theorem dX2_hops_43 : decode cX2_hops 43 = .ok (.ireturn, 1) := by decide +kernel
theorem dX2_strengthAt_0 : decode cX2_strengthAt 0 = .ok (.iload_n 2, 1) := by decide +kernel
theorem dX2_strengthAt_1 : decode cX2_strengthAt 1 = .ok (.iconst (-1), 1) := by decide +kernel
theorem dX2_strengthAt_2 : decode cX2_strengthAt 2 = .ok (.if_icmp .ne 5, 3) := by decide +kernel
theorem dX2_strengthAt_5 : decode cX2_strengthAt 5 = .ok (.iconst 0, 1) := by decide +kernel
theorem dX2_strengthAt_6 : decode cX2_strengthAt 6 = .ok (.ireturn, 1) := by decide +kernel
theorem dX2_strengthAt_7 : decode cX2_strengthAt 7 = .ok (.bipush 8, 2) := by decide +kernel
theorem dX2_strengthAt_9 : decode cX2_strengthAt 9 = .ok (.iconst 3, 1) := by decide +kernel
theorem dX2_strengthAt_10 : decode cX2_strengthAt 10 = .ok (.iload_n 2, 1) := by decide +kernel
theorem dX2_strengthAt_11 : decode cX2_strengthAt 11 = .ok (.imul, 1) := by decide +kernel
theorem dX2_strengthAt_12 : decode cX2_strengthAt 12 = .ok (.isub, 1) := by decide +kernel
theorem dX2_strengthAt_13 : decode cX2_strengthAt 13 = .ok (.iconst 0, 1) := by decide +kernel
theorem dX2_strengthAt_14 : decode cX2_strengthAt 14 = .ok (.invokestatic 99, 3) := by decide +kernel
theorem dX2_strengthAt_17 : decode cX2_strengthAt 17 = .ok (.istore_n 3, 1) := by decide +kernel
theorem dX2_strengthAt_18 : decode cX2_strengthAt 18 = .ok (.iload_n 3, 1) := by decide +kernel
theorem dX2_strengthAt_19 : decode cX2_strengthAt 19 = .ok (.aload_n 0, 1) := by decide +kernel
theorem dX2_strengthAt_20 : decode cX2_strengthAt 20 = .ok (.getfield 18, 3) := by decide +kernel
theorem dX2_strengthAt_23 : decode cX2_strengthAt 23 = .ok (.iload_n 1, 1) := by decide +kernel
theorem dX2_strengthAt_24 : decode cX2_strengthAt 24 = .ok (.iaload, 1) := by decide +kernel
theorem dX2_strengthAt_25 : decode cX2_strengthAt 25 = .ok (.bipush 10, 2) := by decide +kernel
theorem dX2_strengthAt_27 : decode cX2_strengthAt 27 = .ok (.idiv, 1) := by decide +kernel
theorem dX2_strengthAt_28 : decode cX2_strengthAt 28 = .ok (.isub, 1) := by decide +kernel
theorem dX2_strengthAt_29 : decode cX2_strengthAt 29 = .ok (.iconst 0, 1) := by decide +kernel
theorem dX2_strengthAt_30 : decode cX2_strengthAt 30 = .ok (.invokestatic 99, 3) := by decide +kernel
theorem dX2_strengthAt_33 : decode cX2_strengthAt 33 = .ok (.ireturn, 1) := by decide +kernel
set_option maxRecDepth 20000 in
theorem ggX2_answering_X4_bit : GoodIn wsX2_answering wsX4_bit := goodIn_r _ [5] (by decide +kernel) (by decide +kernel)
set_option maxRecDepth 20000 in
theorem gX2_answering_X4_bit_n70 : GoodIn wsX2_answering (wsX4_bit) := ggX2_answering_X4_bit
set_option maxRecDepth 20000 in
theorem ggX2_answering_X2_strengthAt : GoodIn wsX2_answering wsX2_strengthAt := goodIn_r _ [10, 11, 12, 13, 14, 15, 21, 22, 23, 24, 25, 26, 27, 28] (by decide +kernel) (by decide +kernel)
set_option maxRecDepth 20000 in
theorem gX2_answering_X2_strengthAt : GoodIn wsX2_answering (wsV RX2 102 RX2 yX2_strengthAt wsX2_strengthAt) := goodIn_app (goodIn_of _ (by decide +kernel)) ggX2_answering_X2_strengthAt
set_option maxRecDepth 20000 in
theorem ggX2_answering_X2_oneThreadOn : GoodIn wsX2_answering wsX2_oneThreadOn := goodIn_r _ [19, 1, 20, 3, 4, 5, 21, 22, 23, 24, 25, 26, 27, 28] (by decide +kernel) (by decide +kernel)
set_option maxRecDepth 20000 in
theorem gX2_answering_X2_oneThreadOn : GoodIn wsX2_answering (wsV RX2 96 RX2 yX2_oneThreadOn wsX2_oneThreadOn) := goodIn_app (goodIn_of _ (by decide +kernel)) ggX2_answering_X2_oneThreadOn
theorem dX2_answering_0 : decode cX2_answering 0 = .ok (.iconst 0, 1) := by decide +kernel
theorem dX2_answering_1 : decode cX2_answering 1 = .ok (.istore_n 2, 1) := by decide +kernel
theorem dX2_answering_2 : decode cX2_answering 2 = .ok (.iconst 0, 1) := by decide +kernel
theorem dX2_answering_3 : decode cX2_answering 3 = .ok (.istore_n 3, 1) := by decide +kernel
theorem dX2_answering_4 : decode cX2_answering 4 = .ok (.aload_n 0, 1) := by decide +kernel
theorem dX2_answering_5 : decode cX2_answering 5 = .ok (.getfield 9, 3) := by decide +kernel
theorem dX2_answering_8 : decode cX2_answering 8 = .ok (.iload_n 1, 1) := by decide +kernel
theorem dX2_answering_9 : decode cX2_answering 9 = .ok (.iaload, 1) := by decide +kernel
theorem dX2_answering_10 : decode cX2_answering 10 = .ok (.istore 4, 2) := by decide +kernel
theorem dX2_answering_12 : decode cX2_answering 12 = .ok (.iconst 0, 1) := by decide +kernel
theorem dX2_answering_13 : decode cX2_answering 13 = .ok (.istore 5, 2) := by decide +kernel
theorem dX2_answering_15 : decode cX2_answering 15 = .ok (.iconst 3, 1) := by decide +kernel
theorem dX2_answering_16 : decode cX2_answering 16 = .ok (.iload 5, 2) := by decide +kernel
theorem dX2_answering_18 : decode cX2_answering 18 = .ok (.imul, 1) := by decide +kernel
theorem dX2_answering_19 : decode cX2_answering 19 = .ok (.bipush 8, 2) := by decide +kernel
theorem dX2_answering_21 : decode cX2_answering 21 = .ok (.if_icmp .ge 80, 3) := by decide +kernel
theorem dX2_answering_24 : decode cX2_answering 24 = .ok (.iload 4, 2) := by decide +kernel
theorem dX2_answering_26 : decode cX2_answering 26 = .ok (.iload_n 3, 1) := by decide +kernel
theorem dX2_answering_27 : decode cX2_answering 27 = .ok (.iconst (-1), 1) := by decide +kernel
theorem dX2_answering_28 : decode cX2_answering 28 = .ok (.ixor, 1) := by decide +kernel
theorem dX2_answering_29 : decode cX2_answering 29 = .ok (.iand, 1) := by decide +kernel
theorem dX2_answering_30 : decode cX2_answering 30 = .ok (.istore 6, 2) := by decide +kernel
theorem dX2_answering_32 : decode cX2_answering 32 = .ok (.iconst 0, 1) := by decide +kernel
theorem dX2_answering_33 : decode cX2_answering 33 = .ok (.istore 7, 2) := by decide +kernel
theorem dX2_answering_35 : decode cX2_answering 35 = .ok (.iload 7, 2) := by decide +kernel
theorem dX2_answering_37 : decode cX2_answering 37 = .ok (.bipush 8, 2) := by decide +kernel
theorem dX2_answering_39 : decode cX2_answering 39 = .ok (.if_icmp .ge 44, 3) := by decide +kernel
theorem dX2_answering_42 : decode cX2_answering 42 = .ok (.iload 6, 2) := by decide +kernel
theorem dX2_answering_44 : decode cX2_answering 44 = .ok (.iload 7, 2) := by decide +kernel
theorem dX2_answering_46 : decode cX2_answering 46 = .ok (.invokestatic 70, 3) := by decide +kernel
theorem dX2_answering_49 : decode cX2_answering 49 = .ok (.iconst 1, 1) := by decide +kernel
theorem dX2_answering_50 : decode cX2_answering 50 = .ok (.if_icmp .ne 27, 3) := by decide +kernel
theorem dX2_answering_53 : decode cX2_answering 53 = .ok (.aload_n 0, 1) := by decide +kernel
theorem dX2_answering_54 : decode cX2_answering 54 = .ok (.iload 7, 2) := by decide +kernel
theorem dX2_answering_56 : decode cX2_answering 56 = .ok (.iload 5, 2) := by decide +kernel
theorem dX2_answering_58 : decode cX2_answering 58 = .ok (.invokevirtual 102, 3) := by decide +kernel
theorem dX2_answering_61 : decode cX2_answering 61 = .ok (.aload_n 0, 1) := by decide +kernel
theorem dX2_answering_62 : decode cX2_answering 62 = .ok (.getfield 21, 3) := by decide +kernel
theorem dX2_answering_65 : decode cX2_answering 65 = .ok (.iconst 0, 1) := by decide +kernel
theorem dX2_answering_66 : decode cX2_answering 66 = .ok (.iaload, 1) := by decide +kernel
theorem dX2_answering_67 : decode cX2_answering 67 = .ok (.if_icmp .lt 10, 3) := by decide +kernel
theorem dX2_answering_70 : decode cX2_answering 70 = .ok (.iload_n 2, 1) := by decide +kernel
theorem dX2_answering_71 : decode cX2_answering 71 = .ok (.iconst 1, 1) := by decide +kernel
theorem dX2_answering_72 : decode cX2_answering 72 = .ok (.iload 7, 2) := by decide +kernel
theorem dX2_answering_74 : decode cX2_answering 74 = .ok (.ishl, 1) := by decide +kernel
theorem dX2_answering_75 : decode cX2_answering 75 = .ok (.ior, 1) := by decide +kernel
theorem dX2_answering_76 : decode cX2_answering 76 = .ok (.istore_n 2, 1) := by decide +kernel
theorem dX2_answering_77 : decode cX2_answering 77 = .ok (.iinc 7 1, 3) := by decide +kernel
theorem dX2_answering_80 : decode cX2_answering 80 = .ok (.goto (-45), 3) := by decide +kernel
theorem dX2_answering_83 : decode cX2_answering 83 = .ok (.iload 4, 2) := by decide +kernel
theorem dX2_answering_85 : decode cX2_answering 85 = .ok (.istore_n 3, 1) := by decide +kernel
end
section
theorem dX2_answering_86 : decode cX2_answering 86 = .ok (.aload_n 0, 1) := by decide +kernel
theorem dX2_answering_87 : decode cX2_answering 87 = .ok (.iload_n 1, 1) := by decide +kernel
theorem dX2_answering_88 : decode cX2_answering 88 = .ok (.iload 4, 2) := by decide +kernel
theorem dX2_answering_90 : decode cX2_answering 90 = .ok (.invokevirtual 96, 3) := by decide +kernel
theorem dX2_answering_93 : decode cX2_answering 93 = .ok (.istore 4, 2) := by decide +kernel
theorem dX2_answering_95 : decode cX2_answering 95 = .ok (.iinc 5 1, 3) := by decide +kernel
theorem dX2_answering_98 : decode cX2_answering 98 = .ok (.goto (-83), 3) := by decide +kernel
theorem dX2_answering_101 : decode cX2_answering 101 = .ok (.iload_n 2, 1) := by decide +kernel
theorem dX2_answering_102 : decode cX2_answering 102 = .ok (.ireturn, 1) := by decide +kernel
set_option maxRecDepth 20000 in
theorem ggX2_readingsUntilChange_X4_bit : GoodIn wsX2_readingsUntilChange wsX4_bit := goodIn_r _ [6] (by decide +kernel) (by decide +kernel)
set_option maxRecDepth 20000 in
theorem gX2_readingsUntilChange_X4_bit_n70 : GoodIn wsX2_readingsUntilChange (wsX4_bit) := ggX2_readingsUntilChange_X4_bit
theorem dX2_readingsUntilChange_0 : decode cX2_readingsUntilChange 0 = .ok (.bipush 10, 2) := by decide +kernel
theorem dX2_readingsUntilChange_2 : decode cX2_readingsUntilChange 2 = .ok (.bipush 8, 2) := by decide +kernel
theorem dX2_readingsUntilChange_4 : decode cX2_readingsUntilChange 4 = .ok (.aload_n 0, 1) := by decide +kernel
theorem dX2_readingsUntilChange_5 : decode cX2_readingsUntilChange 5 = .ok (.getfield 21, 3) := by decide +kernel
theorem dX2_readingsUntilChange_8 : decode cX2_readingsUntilChange 8 = .ok (.iconst 0, 1) := by decide +kernel
theorem dX2_readingsUntilChange_9 : decode cX2_readingsUntilChange 9 = .ok (.iaload, 1) := by decide +kernel
theorem dX2_readingsUntilChange_10 : decode cX2_readingsUntilChange 10 = .ok (.isub, 1) := by decide +kernel
theorem dX2_readingsUntilChange_11 : decode cX2_readingsUntilChange 11 = .ok (.iconst 1, 1) := by decide +kernel
theorem dX2_readingsUntilChange_12 : decode cX2_readingsUntilChange 12 = .ok (.iadd, 1) := by decide +kernel
theorem dX2_readingsUntilChange_13 : decode cX2_readingsUntilChange 13 = .ok (.imul, 1) := by decide +kernel
theorem dX2_readingsUntilChange_14 : decode cX2_readingsUntilChange 14 = .ok (.istore_n 2, 1) := by decide +kernel
theorem dX2_readingsUntilChange_15 : decode cX2_readingsUntilChange 15 = .ok (.iconst (-1), 1) := by decide +kernel
theorem dX2_readingsUntilChange_16 : decode cX2_readingsUntilChange 16 = .ok (.istore_n 3, 1) := by decide +kernel
theorem dX2_readingsUntilChange_17 : decode cX2_readingsUntilChange 17 = .ok (.iconst 0, 1) := by decide +kernel
theorem dX2_readingsUntilChange_18 : decode cX2_readingsUntilChange 18 = .ok (.istore 4, 2) := by decide +kernel
theorem dX2_readingsUntilChange_20 : decode cX2_readingsUntilChange 20 = .ok (.iload 4, 2) := by decide +kernel
theorem dX2_readingsUntilChange_22 : decode cX2_readingsUntilChange 22 = .ok (.bipush 8, 2) := by decide +kernel
theorem dX2_readingsUntilChange_24 : decode cX2_readingsUntilChange 24 = .ok (.if_icmp .ge 54, 3) := by decide +kernel
theorem dX2_readingsUntilChange_27 : decode cX2_readingsUntilChange 27 = .ok (.iload_n 2, 1) := by decide +kernel
theorem dX2_readingsUntilChange_28 : decode cX2_readingsUntilChange 28 = .ok (.aload_n 0, 1) := by decide +kernel
theorem dX2_readingsUntilChange_29 : decode cX2_readingsUntilChange 29 = .ok (.getfield 18, 3) := by decide +kernel
theorem dX2_readingsUntilChange_32 : decode cX2_readingsUntilChange 32 = .ok (.iload 4, 2) := by decide +kernel
theorem dX2_readingsUntilChange_34 : decode cX2_readingsUntilChange 34 = .ok (.iaload, 1) := by decide +kernel
theorem dX2_readingsUntilChange_35 : decode cX2_readingsUntilChange 35 = .ok (.isub, 1) := by decide +kernel
theorem dX2_readingsUntilChange_36 : decode cX2_readingsUntilChange 36 = .ok (.istore 5, 2) := by decide +kernel
theorem dX2_readingsUntilChange_38 : decode cX2_readingsUntilChange 38 = .ok (.aload_n 0, 1) := by decide +kernel
theorem dX2_readingsUntilChange_39 : decode cX2_readingsUntilChange 39 = .ok (.getfield 9, 3) := by decide +kernel
theorem dX2_readingsUntilChange_42 : decode cX2_readingsUntilChange 42 = .ok (.iload_n 1, 1) := by decide +kernel
theorem dX2_readingsUntilChange_43 : decode cX2_readingsUntilChange 43 = .ok (.iaload, 1) := by decide +kernel
theorem dX2_readingsUntilChange_44 : decode cX2_readingsUntilChange 44 = .ok (.iload 4, 2) := by decide +kernel
theorem dX2_readingsUntilChange_46 : decode cX2_readingsUntilChange 46 = .ok (.invokestatic 70, 3) := by decide +kernel
theorem dX2_readingsUntilChange_49 : decode cX2_readingsUntilChange 49 = .ok (.iconst 1, 1) := by decide +kernel
theorem dX2_readingsUntilChange_50 : decode cX2_readingsUntilChange 50 = .ok (.if_icmp .ne 22, 3) := by decide +kernel
theorem dX2_readingsUntilChange_53 : decode cX2_readingsUntilChange 53 = .ok (.iload 5, 2) := by decide +kernel
theorem dX2_readingsUntilChange_55 : decode cX2_readingsUntilChange 55 = .ok (.ifCond .le 17, 3) := by decide +kernel
theorem dX2_readingsUntilChange_58 : decode cX2_readingsUntilChange 58 = .ok (.iload_n 3, 1) := by decide +kernel
theorem dX2_readingsUntilChange_59 : decode cX2_readingsUntilChange 59 = .ok (.iconst (-1), 1) := by decide +kernel
theorem dX2_readingsUntilChange_60 : decode cX2_readingsUntilChange 60 = .ok (.if_icmp .eq 9, 3) := by decide +kernel
theorem dX2_readingsUntilChange_63 : decode cX2_readingsUntilChange 63 = .ok (.iload 5, 2) := by decide +kernel
theorem dX2_readingsUntilChange_65 : decode cX2_readingsUntilChange 65 = .ok (.iload_n 3, 1) := by decide +kernel
theorem dX2_readingsUntilChange_66 : decode cX2_readingsUntilChange 66 = .ok (.if_icmp .ge 6, 3) := by decide +kernel
theorem dX2_readingsUntilChange_69 : decode cX2_readingsUntilChange 69 = .ok (.iload 5, 2) := by decide +kernel
theorem dX2_readingsUntilChange_71 : decode cX2_readingsUntilChange 71 = .ok (.istore_n 3, 1) := by decide +kernel
theorem dX2_readingsUntilChange_72 : decode cX2_readingsUntilChange 72 = .ok (.iinc 4 1, 3) := by decide +kernel
theorem dX2_readingsUntilChange_75 : decode cX2_readingsUntilChange 75 = .ok (.goto (-55), 3) := by decide +kernel
theorem dX2_readingsUntilChange_78 : decode cX2_readingsUntilChange 78 = .ok (.iload_n 3, 1) := by decide +kernel
theorem dX2_readingsUntilChange_79 : decode cX2_readingsUntilChange 79 = .ok (.ireturn, 1) := by decide +kernel
set_option maxRecDepth 20000 in
theorem ggX2_threadsThrough_X4_bit : GoodIn wsX2_threadsThrough wsX4_bit := goodIn_r _ [4] (by decide +kernel) (by decide +kernel)
set_option maxRecDepth 20000 in
theorem gX2_threadsThrough_X4_bit_n70 : GoodIn wsX2_threadsThrough (wsX4_bit) := ggX2_threadsThrough_X4_bit
theorem dX2_threadsThrough_0 : decode cX2_threadsThrough 0 = .ok (.iconst 0, 1) := by decide +kernel
theorem dX2_threadsThrough_1 : decode cX2_threadsThrough 1 = .ok (.istore_n 2, 1) := by decide +kernel
theorem dX2_threadsThrough_2 : decode cX2_threadsThrough 2 = .ok (.iconst 0, 1) := by decide +kernel
theorem dX2_threadsThrough_3 : decode cX2_threadsThrough 3 = .ok (.istore_n 3, 1) := by decide +kernel
theorem dX2_threadsThrough_4 : decode cX2_threadsThrough 4 = .ok (.iload_n 3, 1) := by decide +kernel
theorem dX2_threadsThrough_5 : decode cX2_threadsThrough 5 = .ok (.bipush 16, 2) := by decide +kernel
theorem dX2_threadsThrough_7 : decode cX2_threadsThrough 7 = .ok (.if_icmp .ge 24, 3) := by decide +kernel
theorem dX2_threadsThrough_10 : decode cX2_threadsThrough 10 = .ok (.iload_n 2, 1) := by decide +kernel
theorem dX2_threadsThrough_11 : decode cX2_threadsThrough 11 = .ok (.aload_n 0, 1) := by decide +kernel
theorem dX2_threadsThrough_12 : decode cX2_threadsThrough 12 = .ok (.getfield 9, 3) := by decide +kernel
theorem dX2_threadsThrough_15 : decode cX2_threadsThrough 15 = .ok (.iload_n 3, 1) := by decide +kernel
theorem dX2_threadsThrough_16 : decode cX2_threadsThrough 16 = .ok (.iaload, 1) := by decide +kernel
theorem dX2_threadsThrough_17 : decode cX2_threadsThrough 17 = .ok (.iload_n 1, 1) := by decide +kernel
theorem dX2_threadsThrough_18 : decode cX2_threadsThrough 18 = .ok (.invokestatic 70, 3) := by decide +kernel
theorem dX2_threadsThrough_21 : decode cX2_threadsThrough 21 = .ok (.iload_n 3, 1) := by decide +kernel
theorem dX2_threadsThrough_22 : decode cX2_threadsThrough 22 = .ok (.ishl, 1) := by decide +kernel
theorem dX2_threadsThrough_23 : decode cX2_threadsThrough 23 = .ok (.ior, 1) := by decide +kernel
theorem dX2_threadsThrough_24 : decode cX2_threadsThrough 24 = .ok (.istore_n 2, 1) := by decide +kernel
theorem dX2_threadsThrough_25 : decode cX2_threadsThrough 25 = .ok (.iinc 3 1, 3) := by decide +kernel
theorem dX2_threadsThrough_28 : decode cX2_threadsThrough 28 = .ok (.goto (-24), 3) := by decide +kernel
theorem dX2_threadsThrough_31 : decode cX2_threadsThrough 31 = .ok (.iload_n 2, 1) := by decide +kernel
theorem dX2_threadsThrough_32 : decode cX2_threadsThrough 32 = .ok (.ireturn, 1) := by decide +kernel
set_option maxRecDepth 20000 in
theorem ggX2_threadsAnswered_X2_answering : GoodIn wsX2_threadsAnswered wsX2_answering := goodIn_r _ [5, 6, 7, 8, 9, 10, 11, 12, 13, 4, 14, 15, 16, 17, 18, 19, 20, 21, 22, 23, 24, 25, 26, 27, 28, 29, 30, 31, 32] (by decide +kernel) (by decide +kernel)
set_option maxRecDepth 20000 in
theorem gX2_threadsAnswered_X2_answering : GoodIn wsX2_threadsAnswered (wsV RX2 55 RX2 yX2_answering wsX2_answering) := goodIn_app (goodIn_of _ (by decide +kernel)) ggX2_threadsAnswered_X2_answering
set_option maxRecDepth 20000 in
theorem ggX2_threadsAnswered_X4_bit : GoodIn wsX2_threadsAnswered wsX4_bit := goodIn_r _ [10] (by decide +kernel) (by decide +kernel)
set_option maxRecDepth 20000 in
theorem gX2_threadsAnswered_X4_bit_n70 : GoodIn wsX2_threadsAnswered (wsX4_bit) := ggX2_threadsAnswered_X4_bit
theorem dX2_threadsAnswered_0 : decode cX2_threadsAnswered 0 = .ok (.iconst 0, 1) := by decide +kernel
theorem dX2_threadsAnswered_1 : decode cX2_threadsAnswered 1 = .ok (.istore_n 2, 1) := by decide +kernel
theorem dX2_threadsAnswered_2 : decode cX2_threadsAnswered 2 = .ok (.iconst 0, 1) := by decide +kernel
theorem dX2_threadsAnswered_3 : decode cX2_threadsAnswered 3 = .ok (.istore_n 3, 1) := by decide +kernel
theorem dX2_threadsAnswered_4 : decode cX2_threadsAnswered 4 = .ok (.iload_n 3, 1) := by decide +kernel
theorem dX2_threadsAnswered_5 : decode cX2_threadsAnswered 5 = .ok (.bipush 16, 2) := by decide +kernel
theorem dX2_threadsAnswered_7 : decode cX2_threadsAnswered 7 = .ok (.if_icmp .ge 21, 3) := by decide +kernel
theorem dX2_threadsAnswered_10 : decode cX2_threadsAnswered 10 = .ok (.iload_n 2, 1) := by decide +kernel
theorem dX2_threadsAnswered_11 : decode cX2_threadsAnswered 11 = .ok (.aload_n 0, 1) := by decide +kernel
theorem dX2_threadsAnswered_12 : decode cX2_threadsAnswered 12 = .ok (.iload_n 3, 1) := by decide +kernel
theorem dX2_threadsAnswered_13 : decode cX2_threadsAnswered 13 = .ok (.invokevirtual 55, 3) := by decide +kernel
theorem dX2_threadsAnswered_16 : decode cX2_threadsAnswered 16 = .ok (.iload_n 1, 1) := by decide +kernel
theorem dX2_threadsAnswered_17 : decode cX2_threadsAnswered 17 = .ok (.invokestatic 70, 3) := by decide +kernel
theorem dX2_threadsAnswered_20 : decode cX2_threadsAnswered 20 = .ok (.iadd, 1) := by decide +kernel
theorem dX2_threadsAnswered_21 : decode cX2_threadsAnswered 21 = .ok (.istore_n 2, 1) := by decide +kernel
theorem dX2_threadsAnswered_22 : decode cX2_threadsAnswered 22 = .ok (.iinc 3 1, 3) := by decide +kernel
theorem dX2_threadsAnswered_25 : decode cX2_threadsAnswered 25 = .ok (.goto (-21), 3) := by decide +kernel
theorem dX2_threadsAnswered_28 : decode cX2_threadsAnswered 28 = .ok (.iload_n 2, 1) := by decide +kernel
theorem dX2_threadsAnswered_29 : decode cX2_threadsAnswered 29 = .ok (.ireturn, 1) := by decide +kernel
set_option maxRecDepth 20000 in
theorem ggX2_isWornOut_X2_threadsThrough : GoodIn wsX2_isWornOut wsX2_threadsThrough := goodIn_r _ [6, 7, 8, 9, 10, 20, 21, 22, 23, 24, 25, 26, 27] (by decide +kernel) (by decide +kernel)
set_option maxRecDepth 20000 in
theorem gX2_isWornOut_X2_threadsThrough : GoodIn wsX2_isWornOut (wsV RX2 67 RX2 yX2_threadsThrough wsX2_threadsThrough) := goodIn_app (goodIn_of _ (by decide +kernel)) ggX2_isWornOut_X2_threadsThrough
set_option maxRecDepth 20000 in
theorem ggX2_isWornOut_X2_strengthAt : GoodIn wsX2_isWornOut wsX2_strengthAt := goodIn_r _ [14, 15, 16, 17, 18, 19, 20, 21, 22, 23, 24, 25, 26, 27] (by decide +kernel) (by decide +kernel)
set_option maxRecDepth 20000 in
theorem gX2_isWornOut_X2_strengthAt : GoodIn wsX2_isWornOut (wsV RX2 102 RX2 yX2_strengthAt wsX2_strengthAt) := goodIn_app (goodIn_of _ (by decide +kernel)) ggX2_isWornOut_X2_strengthAt
theorem dX2_isWornOut_0 : decode cX2_isWornOut 0 = .ok (.aload_n 0, 1) := by decide +kernel
theorem dX2_isWornOut_1 : decode cX2_isWornOut 1 = .ok (.iload_n 1, 1) := by decide +kernel
theorem dX2_isWornOut_2 : decode cX2_isWornOut 2 = .ok (.invokevirtual 67, 3) := by decide +kernel
theorem dX2_isWornOut_5 : decode cX2_isWornOut 5 = .ok (.ifCond .eq 22, 3) := by decide +kernel
theorem dX2_isWornOut_8 : decode cX2_isWornOut 8 = .ok (.aload_n 0, 1) := by decide +kernel
theorem dX2_isWornOut_9 : decode cX2_isWornOut 9 = .ok (.iload_n 1, 1) := by decide +kernel
theorem dX2_isWornOut_10 : decode cX2_isWornOut 10 = .ok (.iconst 0, 1) := by decide +kernel
theorem dX2_isWornOut_11 : decode cX2_isWornOut 11 = .ok (.invokevirtual 102, 3) := by decide +kernel
theorem dX2_isWornOut_14 : decode cX2_isWornOut 14 = .ok (.aload_n 0, 1) := by decide +kernel
theorem dX2_isWornOut_15 : decode cX2_isWornOut 15 = .ok (.getfield 21, 3) := by decide +kernel
theorem dX2_isWornOut_18 : decode cX2_isWornOut 18 = .ok (.iconst 0, 1) := by decide +kernel
theorem dX2_isWornOut_19 : decode cX2_isWornOut 19 = .ok (.iaload, 1) := by decide +kernel
theorem dX2_isWornOut_20 : decode cX2_isWornOut 20 = .ok (.if_icmp .ge 7, 3) := by decide +kernel
theorem dX2_isWornOut_23 : decode cX2_isWornOut 23 = .ok (.iconst 1, 1) := by decide +kernel
theorem dX2_isWornOut_24 : decode cX2_isWornOut 24 = .ok (.goto 4, 3) := by decide +kernel
theorem dX2_isWornOut_27 : decode cX2_isWornOut 27 = .ok (.iconst 0, 1) := by decide +kernel
theorem dX2_isWornOut_28 : decode cX2_isWornOut 28 = .ok (.ireturn, 1) := by decide +kernel
set_option maxRecDepth 20000 in
theorem ggX2_threadsRight_X2_answering : GoodIn wsX2_threadsRight wsX2_answering := goodIn_r _ [6, 1, 7, 8, 9, 10, 11, 12, 13, 5, 14, 15, 16, 17, 18, 19, 20, 21, 22, 23, 24, 25, 26, 27, 28, 29, 30, 31, 32] (by decide +kernel) (by decide +kernel)
set_option maxRecDepth 20000 in
theorem gX2_threadsRight_X2_answering : GoodIn wsX2_threadsRight (wsV RX2 55 RX2 yX2_answering wsX2_answering) := goodIn_app (goodIn_of _ (by decide +kernel)) ggX2_threadsRight_X2_answering
theorem dX2_threadsRight_0 : decode cX2_threadsRight 0 = .ok (.iconst 0, 1) := by decide +kernel
theorem dX2_threadsRight_1 : decode cX2_threadsRight 1 = .ok (.istore_n 1, 1) := by decide +kernel
theorem dX2_threadsRight_2 : decode cX2_threadsRight 2 = .ok (.iconst 0, 1) := by decide +kernel
theorem dX2_threadsRight_3 : decode cX2_threadsRight 3 = .ok (.istore_n 2, 1) := by decide +kernel
theorem dX2_threadsRight_4 : decode cX2_threadsRight 4 = .ok (.iload_n 2, 1) := by decide +kernel
theorem dX2_threadsRight_5 : decode cX2_threadsRight 5 = .ok (.bipush 16, 2) := by decide +kernel
theorem dX2_threadsRight_7 : decode cX2_threadsRight 7 = .ok (.if_icmp .ge 26, 3) := by decide +kernel
theorem dX2_threadsRight_10 : decode cX2_threadsRight 10 = .ok (.aload_n 0, 1) := by decide +kernel
theorem dX2_threadsRight_11 : decode cX2_threadsRight 11 = .ok (.iload_n 2, 1) := by decide +kernel
theorem dX2_threadsRight_12 : decode cX2_threadsRight 12 = .ok (.invokevirtual 55, 3) := by decide +kernel
theorem dX2_threadsRight_15 : decode cX2_threadsRight 15 = .ok (.aload_n 0, 1) := by decide +kernel
theorem dX2_threadsRight_16 : decode cX2_threadsRight 16 = .ok (.getfield 9, 3) := by decide +kernel
theorem dX2_threadsRight_19 : decode cX2_threadsRight 19 = .ok (.iload_n 2, 1) := by decide +kernel
theorem dX2_threadsRight_20 : decode cX2_threadsRight 20 = .ok (.iaload, 1) := by decide +kernel
theorem dX2_threadsRight_21 : decode cX2_threadsRight 21 = .ok (.if_icmp .ne 6, 3) := by decide +kernel
theorem dX2_threadsRight_24 : decode cX2_threadsRight 24 = .ok (.iinc 1 1, 3) := by decide +kernel
theorem dX2_threadsRight_27 : decode cX2_threadsRight 27 = .ok (.iinc 2 1, 3) := by decide +kernel
theorem dX2_threadsRight_30 : decode cX2_threadsRight 30 = .ok (.goto (-26), 3) := by decide +kernel
theorem dX2_threadsRight_33 : decode cX2_threadsRight 33 = .ok (.iload_n 1, 1) := by decide +kernel
theorem dX2_threadsRight_34 : decode cX2_threadsRight 34 = .ok (.ireturn, 1) := by decide +kernel
set_option maxRecDepth 20000 in
theorem ggX2_crossingsByThreads_J6_bitCount_0f7a4 : GoodIn wsX2_crossingsByThreads wsJ6_bitCount_0f7a4 := goodIn_r _ [5, 6, 7, 8] (by decide +kernel) (by decide +kernel)
set_option maxRecDepth 20000 in
theorem gX2_crossingsByThreads_J6_bitCount_0f7a4 : GoodIn wsX2_crossingsByThreads (va_wsS RX2 62 yJ6_bitCount_0f7a4 wsJ6_bitCount_0f7a4) := goodIn_app (goodIn_of _ (by decide +kernel)) ggX2_crossingsByThreads_J6_bitCount_0f7a4
theorem dX2_crossingsByThreads_0 : decode cX2_crossingsByThreads 0 = .ok (.iconst 0, 1) := by decide +kernel
theorem dX2_crossingsByThreads_1 : decode cX2_crossingsByThreads 1 = .ok (.istore_n 1, 1) := by decide +kernel
theorem dX2_crossingsByThreads_2 : decode cX2_crossingsByThreads 2 = .ok (.iconst 0, 1) := by decide +kernel
theorem dX2_crossingsByThreads_3 : decode cX2_crossingsByThreads 3 = .ok (.istore_n 2, 1) := by decide +kernel
theorem dX2_crossingsByThreads_4 : decode cX2_crossingsByThreads 4 = .ok (.iload_n 2, 1) := by decide +kernel
theorem dX2_crossingsByThreads_5 : decode cX2_crossingsByThreads 5 = .ok (.bipush 16, 2) := by decide +kernel
theorem dX2_crossingsByThreads_7 : decode cX2_crossingsByThreads 7 = .ok (.if_icmp .ge 21, 3) := by decide +kernel
theorem dX2_crossingsByThreads_10 : decode cX2_crossingsByThreads 10 = .ok (.iload_n 1, 1) := by decide +kernel
theorem dX2_crossingsByThreads_11 : decode cX2_crossingsByThreads 11 = .ok (.aload_n 0, 1) := by decide +kernel
theorem dX2_crossingsByThreads_12 : decode cX2_crossingsByThreads 12 = .ok (.getfield 9, 3) := by decide +kernel
theorem dX2_crossingsByThreads_15 : decode cX2_crossingsByThreads 15 = .ok (.iload_n 2, 1) := by decide +kernel
theorem dX2_crossingsByThreads_16 : decode cX2_crossingsByThreads 16 = .ok (.iaload, 1) := by decide +kernel
theorem dX2_crossingsByThreads_17 : decode cX2_crossingsByThreads 17 = .ok (.invokestatic 62, 3) := by decide +kernel
theorem dX2_crossingsByThreads_20 : decode cX2_crossingsByThreads 20 = .ok (.iadd, 1) := by decide +kernel
theorem dX2_crossingsByThreads_21 : decode cX2_crossingsByThreads 21 = .ok (.istore_n 1, 1) := by decide +kernel
theorem dX2_crossingsByThreads_22 : decode cX2_crossingsByThreads 22 = .ok (.iinc 2 1, 3) := by decide +kernel
theorem dX2_crossingsByThreads_25 : decode cX2_crossingsByThreads 25 = .ok (.goto (-21), 3) := by decide +kernel
theorem dX2_crossingsByThreads_28 : decode cX2_crossingsByThreads 28 = .ok (.iload_n 1, 1) := by decide +kernel
theorem dX2_crossingsByThreads_29 : decode cX2_crossingsByThreads 29 = .ok (.ireturn, 1) := by decide +kernel
set_option maxRecDepth 20000 in
theorem ggX2_crossingsByRings_X2_threadsThrough : GoodIn wsX2_crossingsByRings wsX2_threadsThrough := goodIn_r _ [5, 6, 7, 8, 9, 17, 18, 19, 20, 21, 22, 23, 24] (by decide +kernel) (by decide +kernel)
set_option maxRecDepth 20000 in
theorem gX2_crossingsByRings_X2_threadsThrough : GoodIn wsX2_crossingsByRings (wsV RX2 67 RX2 yX2_threadsThrough wsX2_threadsThrough) := goodIn_app (goodIn_of _ (by decide +kernel)) ggX2_crossingsByRings_X2_threadsThrough
set_option maxRecDepth 20000 in
theorem ggX2_crossingsByRings_J6_bitCount_0f7a4 : GoodIn wsX2_crossingsByRings wsJ6_bitCount_0f7a4 := goodIn_r _ [13, 14, 15, 16] (by decide +kernel) (by decide +kernel)
set_option maxRecDepth 20000 in
theorem gX2_crossingsByRings_J6_bitCount_0f7a4 : GoodIn wsX2_crossingsByRings (va_wsS RX2 62 yJ6_bitCount_0f7a4 wsJ6_bitCount_0f7a4) := goodIn_app (goodIn_of _ (by decide +kernel)) ggX2_crossingsByRings_J6_bitCount_0f7a4
theorem dX2_crossingsByRings_0 : decode cX2_crossingsByRings 0 = .ok (.iconst 0, 1) := by decide +kernel
theorem dX2_crossingsByRings_1 : decode cX2_crossingsByRings 1 = .ok (.istore_n 1, 1) := by decide +kernel
theorem dX2_crossingsByRings_2 : decode cX2_crossingsByRings 2 = .ok (.iconst 0, 1) := by decide +kernel
theorem dX2_crossingsByRings_3 : decode cX2_crossingsByRings 3 = .ok (.istore_n 2, 1) := by decide +kernel
theorem dX2_crossingsByRings_4 : decode cX2_crossingsByRings 4 = .ok (.iload_n 2, 1) := by decide +kernel
theorem dX2_crossingsByRings_5 : decode cX2_crossingsByRings 5 = .ok (.bipush 8, 2) := by decide +kernel
theorem dX2_crossingsByRings_7 : decode cX2_crossingsByRings 7 = .ok (.if_icmp .ge 20, 3) := by decide +kernel
theorem dX2_crossingsByRings_10 : decode cX2_crossingsByRings 10 = .ok (.iload_n 1, 1) := by decide +kernel
theorem dX2_crossingsByRings_11 : decode cX2_crossingsByRings 11 = .ok (.aload_n 0, 1) := by decide +kernel
theorem dX2_crossingsByRings_12 : decode cX2_crossingsByRings 12 = .ok (.iload_n 2, 1) := by decide +kernel
theorem dX2_crossingsByRings_13 : decode cX2_crossingsByRings 13 = .ok (.invokevirtual 67, 3) := by decide +kernel
theorem dX2_crossingsByRings_16 : decode cX2_crossingsByRings 16 = .ok (.invokestatic 62, 3) := by decide +kernel
theorem dX2_crossingsByRings_19 : decode cX2_crossingsByRings 19 = .ok (.iadd, 1) := by decide +kernel
theorem dX2_crossingsByRings_20 : decode cX2_crossingsByRings 20 = .ok (.istore_n 1, 1) := by decide +kernel
theorem dX2_crossingsByRings_21 : decode cX2_crossingsByRings 21 = .ok (.iinc 2 1, 3) := by decide +kernel
theorem dX2_crossingsByRings_24 : decode cX2_crossingsByRings 24 = .ok (.goto (-20), 3) := by decide +kernel
theorem dX2_crossingsByRings_27 : decode cX2_crossingsByRings 27 = .ok (.iload_n 1, 1) := by decide +kernel
theorem dX2_crossingsByRings_28 : decode cX2_crossingsByRings 28 = .ok (.ireturn, 1) := by decide +kernel
theorem dX2_greatestWear_0 : decode cX2_greatestWear 0 = .ok (.iconst 0, 1) := by decide +kernel
theorem dX2_greatestWear_1 : decode cX2_greatestWear 1 = .ok (.istore_n 1, 1) := by decide +kernel
theorem dX2_greatestWear_2 : decode cX2_greatestWear 2 = .ok (.iconst 0, 1) := by decide +kernel
theorem dX2_greatestWear_3 : decode cX2_greatestWear 3 = .ok (.istore_n 2, 1) := by decide +kernel
theorem dX2_greatestWear_4 : decode cX2_greatestWear 4 = .ok (.iload_n 2, 1) := by decide +kernel
theorem dX2_greatestWear_5 : decode cX2_greatestWear 5 = .ok (.bipush 8, 2) := by decide +kernel
theorem dX2_greatestWear_7 : decode cX2_greatestWear 7 = .ok (.if_icmp .ge 20, 3) := by decide +kernel
theorem dX2_greatestWear_10 : decode cX2_greatestWear 10 = .ok (.iload_n 1, 1) := by decide +kernel
theorem dX2_greatestWear_11 : decode cX2_greatestWear 11 = .ok (.aload_n 0, 1) := by decide +kernel
theorem dX2_greatestWear_12 : decode cX2_greatestWear 12 = .ok (.getfield 18, 3) := by decide +kernel
theorem dX2_greatestWear_15 : decode cX2_greatestWear 15 = .ok (.iload_n 2, 1) := by decide +kernel
theorem dX2_greatestWear_16 : decode cX2_greatestWear 16 = .ok (.iaload, 1) := by decide +kernel
theorem dX2_greatestWear_17 : decode cX2_greatestWear 17 = .ok (.invokestatic 99, 3) := by decide +kernel
theorem dX2_greatestWear_20 : decode cX2_greatestWear 20 = .ok (.istore_n 1, 1) := by decide +kernel
theorem dX2_greatestWear_21 : decode cX2_greatestWear 21 = .ok (.iinc 2 1, 3) := by decide +kernel
theorem dX2_greatestWear_24 : decode cX2_greatestWear 24 = .ok (.goto (-20), 3) := by decide +kernel
theorem dX2_greatestWear_27 : decode cX2_greatestWear 27 = .ok (.iload_n 1, 1) := by decide +kernel
theorem dX2_greatestWear_28 : decode cX2_greatestWear 28 = .ok (.ireturn, 1) := by decide +kernel
theorem dX2_wearOfAll_0 : decode cX2_wearOfAll 0 = .ok (.iconst 0, 1) := by decide +kernel
theorem dX2_wearOfAll_1 : decode cX2_wearOfAll 1 = .ok (.istore_n 1, 1) := by decide +kernel
theorem dX2_wearOfAll_2 : decode cX2_wearOfAll 2 = .ok (.iconst 0, 1) := by decide +kernel
theorem dX2_wearOfAll_3 : decode cX2_wearOfAll 3 = .ok (.istore_n 2, 1) := by decide +kernel
theorem dX2_wearOfAll_4 : decode cX2_wearOfAll 4 = .ok (.iload_n 2, 1) := by decide +kernel
theorem dX2_wearOfAll_5 : decode cX2_wearOfAll 5 = .ok (.bipush 8, 2) := by decide +kernel
theorem dX2_wearOfAll_7 : decode cX2_wearOfAll 7 = .ok (.if_icmp .ge 18, 3) := by decide +kernel
theorem dX2_wearOfAll_10 : decode cX2_wearOfAll 10 = .ok (.iload_n 1, 1) := by decide +kernel
theorem dX2_wearOfAll_11 : decode cX2_wearOfAll 11 = .ok (.aload_n 0, 1) := by decide +kernel
theorem dX2_wearOfAll_12 : decode cX2_wearOfAll 12 = .ok (.getfield 18, 3) := by decide +kernel
theorem dX2_wearOfAll_15 : decode cX2_wearOfAll 15 = .ok (.iload_n 2, 1) := by decide +kernel
theorem dX2_wearOfAll_16 : decode cX2_wearOfAll 16 = .ok (.iaload, 1) := by decide +kernel
theorem dX2_wearOfAll_17 : decode cX2_wearOfAll 17 = .ok (.iadd, 1) := by decide +kernel
theorem dX2_wearOfAll_18 : decode cX2_wearOfAll 18 = .ok (.istore_n 1, 1) := by decide +kernel
theorem dX2_wearOfAll_19 : decode cX2_wearOfAll 19 = .ok (.iinc 2 1, 3) := by decide +kernel
theorem dX2_wearOfAll_22 : decode cX2_wearOfAll 22 = .ok (.goto (-18), 3) := by decide +kernel
theorem dX2_wearOfAll_25 : decode cX2_wearOfAll 25 = .ok (.iload_n 1, 1) := by decide +kernel
theorem dX2_wearOfAll_26 : decode cX2_wearOfAll 26 = .ok (.ireturn, 1) := by decide +kernel
set_option maxRecDepth 20000 in
theorem ggX2_fewestUnlikeBits_J6_bitCount_0f7a4 : GoodIn wsX2_fewestUnlikeBits wsJ6_bitCount_0f7a4 := goodIn_r _ [9, 10, 11, 12] (by decide +kernel) (by decide +kernel)
set_option maxRecDepth 20000 in
theorem gX2_fewestUnlikeBits_J6_bitCount_0f7a4 : GoodIn wsX2_fewestUnlikeBits (va_wsS RX2 62 yJ6_bitCount_0f7a4 wsJ6_bitCount_0f7a4) := goodIn_app (goodIn_of _ (by decide +kernel)) ggX2_fewestUnlikeBits_J6_bitCount_0f7a4
theorem dX2_fewestUnlikeBits_0 : decode cX2_fewestUnlikeBits 0 = .ok (.bipush 8, 2) := by decide +kernel
theorem dX2_fewestUnlikeBits_2 : decode cX2_fewestUnlikeBits 2 = .ok (.istore_n 1, 1) := by decide +kernel
theorem dX2_fewestUnlikeBits_3 : decode cX2_fewestUnlikeBits 3 = .ok (.iconst 0, 1) := by decide +kernel
theorem dX2_fewestUnlikeBits_4 : decode cX2_fewestUnlikeBits 4 = .ok (.istore_n 2, 1) := by decide +kernel
theorem dX2_fewestUnlikeBits_5 : decode cX2_fewestUnlikeBits 5 = .ok (.iload_n 2, 1) := by decide +kernel
theorem dX2_fewestUnlikeBits_6 : decode cX2_fewestUnlikeBits 6 = .ok (.bipush 16, 2) := by decide +kernel
theorem dX2_fewestUnlikeBits_8 : decode cX2_fewestUnlikeBits 8 = .ok (.if_icmp .ge 43, 3) := by decide +kernel
theorem dX2_fewestUnlikeBits_11 : decode cX2_fewestUnlikeBits 11 = .ok (.iconst 0, 1) := by decide +kernel
theorem dX2_fewestUnlikeBits_12 : decode cX2_fewestUnlikeBits 12 = .ok (.istore_n 3, 1) := by decide +kernel
theorem dX2_fewestUnlikeBits_13 : decode cX2_fewestUnlikeBits 13 = .ok (.iload_n 3, 1) := by decide +kernel
theorem dX2_fewestUnlikeBits_14 : decode cX2_fewestUnlikeBits 14 = .ok (.iload_n 2, 1) := by decide +kernel
theorem dX2_fewestUnlikeBits_15 : decode cX2_fewestUnlikeBits 15 = .ok (.if_icmp .ge 30, 3) := by decide +kernel
theorem dX2_fewestUnlikeBits_18 : decode cX2_fewestUnlikeBits 18 = .ok (.iload_n 1, 1) := by decide +kernel
theorem dX2_fewestUnlikeBits_19 : decode cX2_fewestUnlikeBits 19 = .ok (.aload_n 0, 1) := by decide +kernel
theorem dX2_fewestUnlikeBits_20 : decode cX2_fewestUnlikeBits 20 = .ok (.getfield 9, 3) := by decide +kernel
theorem dX2_fewestUnlikeBits_23 : decode cX2_fewestUnlikeBits 23 = .ok (.iload_n 2, 1) := by decide +kernel
theorem dX2_fewestUnlikeBits_24 : decode cX2_fewestUnlikeBits 24 = .ok (.iaload, 1) := by decide +kernel
theorem dX2_fewestUnlikeBits_25 : decode cX2_fewestUnlikeBits 25 = .ok (.aload_n 0, 1) := by decide +kernel
theorem dX2_fewestUnlikeBits_26 : decode cX2_fewestUnlikeBits 26 = .ok (.getfield 9, 3) := by decide +kernel
theorem dX2_fewestUnlikeBits_29 : decode cX2_fewestUnlikeBits 29 = .ok (.iload_n 3, 1) := by decide +kernel
theorem dX2_fewestUnlikeBits_30 : decode cX2_fewestUnlikeBits 30 = .ok (.iaload, 1) := by decide +kernel
theorem dX2_fewestUnlikeBits_31 : decode cX2_fewestUnlikeBits 31 = .ok (.ixor, 1) := by decide +kernel
theorem dX2_fewestUnlikeBits_32 : decode cX2_fewestUnlikeBits 32 = .ok (.invokestatic 62, 3) := by decide +kernel
theorem dX2_fewestUnlikeBits_35 : decode cX2_fewestUnlikeBits 35 = .ok (.invokestatic 74, 3) := by decide +kernel
theorem dX2_fewestUnlikeBits_38 : decode cX2_fewestUnlikeBits 38 = .ok (.istore_n 1, 1) := by decide +kernel
theorem dX2_fewestUnlikeBits_39 : decode cX2_fewestUnlikeBits 39 = .ok (.iinc 3 1, 3) := by decide +kernel
theorem dX2_fewestUnlikeBits_42 : decode cX2_fewestUnlikeBits 42 = .ok (.goto (-29), 3) := by decide +kernel
theorem dX2_fewestUnlikeBits_45 : decode cX2_fewestUnlikeBits 45 = .ok (.iinc 2 1, 3) := by decide +kernel
theorem dX2_fewestUnlikeBits_48 : decode cX2_fewestUnlikeBits 48 = .ok (.goto (-43), 3) := by decide +kernel
theorem dX2_fewestUnlikeBits_51 : decode cX2_fewestUnlikeBits 51 = .ok (.iload_n 1, 1) := by decide +kernel
theorem dX2_fewestUnlikeBits_52 : decode cX2_fewestUnlikeBits 52 = .ok (.ireturn, 1) := by decide +kernel
theorem dX3_init_0 : decode cX3_init 0 = .ok (.aload_n 0, 1) := by decide +kernel
theorem dX3_init_1 : decode cX3_init 1 = .ok (.invokespecial 3, 3) := by decide +kernel
theorem dX3_init_4 : decode cX3_init 4 = .ok (.aload_n 0, 1) := by decide +kernel
theorem dX3_init_5 : decode cX3_init 5 = .ok (.bipush 60, 2) := by decide +kernel
theorem dX3_init_7 : decode cX3_init 7 = .ok (.newarray .int, 2) := by decide +kernel
theorem dX3_init_9 : decode cX3_init 9 = .ok (.putfield 11, 3) := by decide +kernel
theorem dX3_init_12 : decode cX3_init 12 = .ok (.aload_n 0, 1) := by decide +kernel
theorem dX3_init_13 : decode cX3_init 13 = .ok (.bipush 16, 2) := by decide +kernel
theorem dX3_init_15 : decode cX3_init 15 = .ok (.newarray .int, 2) := by decide +kernel
theorem dX3_init_17 : decode cX3_init 17 = .ok (.putfield 15, 3) := by decide +kernel
theorem dX3_init_20 : decode cX3_init 20 = .ok (.return_, 1) := by decide +kernel
theorem dX3_put_0 : decode cX3_put 0 = .ok (.aload_n 0, 1) := by decide +kernel
theorem dX3_put_1 : decode cX3_put 1 = .ok (.getfield 18, 3) := by decide +kernel
theorem dX3_put_4 : decode cX3_put 4 = .ok (.bipush 60, 2) := by decide +kernel
theorem dX3_put_6 : decode cX3_put 6 = .ok (.if_icmp .ge 23, 3) := by decide +kernel
theorem dX3_put_9 : decode cX3_put 9 = .ok (.aload_n 0, 1) := by decide +kernel
theorem dX3_put_10 : decode cX3_put 10 = .ok (.getfield 11, 3) := by decide +kernel
theorem dX3_put_13 : decode cX3_put 13 = .ok (.aload_n 0, 1) := by decide +kernel
theorem dX3_put_14 : decode cX3_put 14 = .ok (.getfield 18, 3) := by decide +kernel
theorem dX3_put_17 : decode cX3_put 17 = .ok (.iload_n 1, 1) := by decide +kernel
theorem dX3_put_18 : decode cX3_put 18 = .ok (.iastore, 1) := by decide +kernel
theorem dX3_put_19 : decode cX3_put 19 = .ok (.aload_n 0, 1) := by decide +kernel
theorem dX3_put_20 : decode cX3_put 20 = .ok (.dup, 1) := by decide +kernel
theorem dX3_put_21 : decode cX3_put 21 = .ok (.getfield 18, 3) := by decide +kernel
theorem dX3_put_24 : decode cX3_put 24 = .ok (.iconst 1, 1) := by decide +kernel
theorem dX3_put_25 : decode cX3_put 25 = .ok (.iadd, 1) := by decide +kernel
theorem dX3_put_26 : decode cX3_put 26 = .ok (.putfield 18, 3) := by decide +kernel
theorem dX3_put_29 : decode cX3_put 29 = .ok (.return_, 1) := by decide +kernel
set_option maxRecDepth 20000 in
theorem ggX3_putWord_X3_signOf : GoodIn wsX3_putWord wsX3_signOf := goodIn_r _ [4] (by decide +kernel) (by decide +kernel)
set_option maxRecDepth 20000 in
theorem gX3_putWord_X3_signOf : GoodIn wsX3_putWord (va_wsS RX3 22 yX3_signOf wsX3_signOf) := goodIn_app (goodIn_of _ (by decide +kernel)) ggX3_putWord_X3_signOf
set_option maxRecDepth 20000 in
theorem ggX3_putWord_X3_put : GoodIn wsX3_putWord wsX3_put := goodIn_r _ [8, 9, 10, 11, 12, 13, 14, 15] (by decide +kernel) (by decide +kernel)
set_option maxRecDepth 20000 in
theorem gX3_putWord_X3_put : GoodIn wsX3_putWord (wsV RX3 26 RX3 yX3_put wsX3_put) := goodIn_app (goodIn_of _ (by decide +kernel)) ggX3_putWord_X3_put
theorem dX3_putWord_0 : decode cX3_putWord 0 = .ok (.aload_n 0, 1) := by decide +kernel
theorem dX3_putWord_1 : decode cX3_putWord 1 = .ok (.iload_n 1, 1) := by decide +kernel
theorem dX3_putWord_2 : decode cX3_putWord 2 = .ok (.bipush 16, 2) := by decide +kernel
theorem dX3_putWord_4 : decode cX3_putWord 4 = .ok (.idiv, 1) := by decide +kernel
theorem dX3_putWord_5 : decode cX3_putWord 5 = .ok (.invokestatic 22, 3) := by decide +kernel
theorem dX3_putWord_8 : decode cX3_putWord 8 = .ok (.invokevirtual 26, 3) := by decide +kernel
theorem dX3_putWord_11 : decode cX3_putWord 11 = .ok (.aload_n 0, 1) := by decide +kernel
theorem dX3_putWord_12 : decode cX3_putWord 12 = .ok (.iload_n 1, 1) := by decide +kernel
theorem dX3_putWord_13 : decode cX3_putWord 13 = .ok (.bipush 16, 2) := by decide +kernel
theorem dX3_putWord_15 : decode cX3_putWord 15 = .ok (.irem, 1) := by decide +kernel
theorem dX3_putWord_16 : decode cX3_putWord 16 = .ok (.invokestatic 22, 3) := by decide +kernel
theorem dX3_putWord_19 : decode cX3_putWord 19 = .ok (.invokevirtual 26, 3) := by decide +kernel
theorem dX3_putWord_22 : decode cX3_putWord 22 = .ok (.return_, 1) := by decide +kernel
set_option maxRecDepth 20000 in
theorem ggX3_tellsProgram_X3_parse : GoodIn wsX3_tellsProgram wsX3_parse := goodIn_r _ [7, 2, 8, 1, 9, 10, 11, 12, 6, 13, 14, 15, 16, 17, 18, 19, 20, 21, 22] (by decide +kernel) (by decide +kernel)
set_option maxRecDepth 20000 in
theorem gX3_tellsProgram_X3_parse : GoodIn wsX3_tellsProgram (wsV RX3 30 RX3 yX3_parse wsX3_parse) := goodIn_app (goodIn_of _ (by decide +kernel)) ggX3_tellsProgram_X3_parse
theorem dX3_tellsProgram_0 : decode cX3_tellsProgram 0 = .ok (.aload_n 0, 1) := by decide +kernel
theorem dX3_tellsProgram_1 : decode cX3_tellsProgram 1 = .ok (.invokevirtual 30, 3) := by decide +kernel
theorem dX3_tellsProgram_4 : decode cX3_tellsProgram 4 = .ok (.aload_n 0, 1) := by decide +kernel
theorem dX3_tellsProgram_5 : decode cX3_tellsProgram 5 = .ok (.getfield 18, 3) := by decide +kernel
theorem dX3_tellsProgram_8 : decode cX3_tellsProgram 8 = .ok (.if_icmp .ne 15, 3) := by decide +kernel
theorem dX3_tellsProgram_11 : decode cX3_tellsProgram 11 = .ok (.aload_n 0, 1) := by decide +kernel
theorem dX3_tellsProgram_12 : decode cX3_tellsProgram 12 = .ok (.getfield 34, 3) := by decide +kernel
theorem dX3_tellsProgram_15 : decode cX3_tellsProgram 15 = .ok (.iconst 2, 1) := by decide +kernel
theorem dX3_tellsProgram_16 : decode cX3_tellsProgram 16 = .ok (.if_icmp .ne 7, 3) := by decide +kernel
theorem dX3_tellsProgram_19 : decode cX3_tellsProgram 19 = .ok (.iconst 1, 1) := by decide +kernel
theorem dX3_tellsProgram_20 : decode cX3_tellsProgram 20 = .ok (.goto 4, 3) := by decide +kernel
theorem dX3_tellsProgram_23 : decode cX3_tellsProgram 23 = .ok (.iconst 0, 1) := by decide +kernel
theorem dX3_tellsProgram_24 : decode cX3_tellsProgram 24 = .ok (.ireturn, 1) := by decide +kernel
set_option maxRecDepth 20000 in
theorem ggX3_parse_X3_takeCode : GoodIn wsX3_parse wsX3_takeCode := goodIn_r _ [9, 2, 1, 10, 11, 12, 8, 13, 14, 15, 16, 17, 18] (by decide +kernel) (by decide +kernel)
set_option maxRecDepth 20000 in
theorem gX3_parse_X3_takeCode : GoodIn wsX3_parse (wsV RX3 40 RX3 yX3_takeCode wsX3_takeCode) := goodIn_app (goodIn_of _ (by decide +kernel)) ggX3_parse_X3_takeCode
theorem dX3_parse_0 : decode cX3_parse 0 = .ok (.aload_n 0, 1) := by decide +kernel
theorem dX3_parse_1 : decode cX3_parse 1 = .ok (.iconst 0, 1) := by decide +kernel
theorem dX3_parse_2 : decode cX3_parse 2 = .ok (.putfield 34, 3) := by decide +kernel
theorem dX3_parse_5 : decode cX3_parse 5 = .ok (.aload_n 0, 1) := by decide +kernel
theorem dX3_parse_6 : decode cX3_parse 6 = .ok (.iconst 0, 1) := by decide +kernel
theorem dX3_parse_7 : decode cX3_parse 7 = .ok (.putfield 37, 3) := by decide +kernel
theorem dX3_parse_10 : decode cX3_parse 10 = .ok (.iconst 0, 1) := by decide +kernel
theorem dX3_parse_11 : decode cX3_parse 11 = .ok (.istore_n 1, 1) := by decide +kernel
theorem dX3_parse_12 : decode cX3_parse 12 = .ok (.iload_n 1, 1) := by decide +kernel
theorem dX3_parse_13 : decode cX3_parse 13 = .ok (.aload_n 0, 1) := by decide +kernel
theorem dX3_parse_14 : decode cX3_parse 14 = .ok (.getfield 18, 3) := by decide +kernel
theorem dX3_parse_17 : decode cX3_parse 17 = .ok (.if_icmp .ge 29, 3) := by decide +kernel
theorem dX3_parse_20 : decode cX3_parse 20 = .ok (.aload_n 0, 1) := by decide +kernel
theorem dX3_parse_21 : decode cX3_parse 21 = .ok (.aload_n 0, 1) := by decide +kernel
theorem dX3_parse_22 : decode cX3_parse 22 = .ok (.getfield 11, 3) := by decide +kernel
theorem dX3_parse_25 : decode cX3_parse 25 = .ok (.iload_n 1, 1) := by decide +kernel
theorem dX3_parse_26 : decode cX3_parse 26 = .ok (.iaload, 1) := by decide +kernel
theorem dX3_parse_27 : decode cX3_parse 27 = .ok (.invokevirtual 40, 3) := by decide +kernel
theorem dX3_parse_30 : decode cX3_parse 30 = .ok (.aload_n 0, 1) := by decide +kernel
theorem dX3_parse_31 : decode cX3_parse 31 = .ok (.getfield 34, 3) := by decide +kernel
theorem dX3_parse_34 : decode cX3_parse 34 = .ok (.iconst 3, 1) := by decide +kernel
theorem dX3_parse_35 : decode cX3_parse 35 = .ok (.if_icmp .ne 5, 3) := by decide +kernel
theorem dX3_parse_38 : decode cX3_parse 38 = .ok (.iload_n 1, 1) := by decide +kernel
theorem dX3_parse_39 : decode cX3_parse 39 = .ok (.ireturn, 1) := by decide +kernel
theorem dX3_parse_40 : decode cX3_parse 40 = .ok (.iinc 1 1, 3) := by decide +kernel
theorem dX3_parse_43 : decode cX3_parse 43 = .ok (.goto (-31), 3) := by decide +kernel
theorem dX3_parse_46 : decode cX3_parse 46 = .ok (.aload_n 0, 1) := by decide +kernel
theorem dX3_parse_47 : decode cX3_parse 47 = .ok (.getfield 18, 3) := by decide +kernel
theorem dX3_parse_50 : decode cX3_parse 50 = .ok (.ireturn, 1) := by decide +kernel
set_option maxRecDepth 20000 in
theorem ggX3_takeCode_X3_digitOf : GoodIn wsX3_takeCode wsX3_digitOf := goodIn_r _ [7] (by decide +kernel) (by decide +kernel)
set_option maxRecDepth 20000 in
theorem gX3_takeCode_X3_digitOf : GoodIn wsX3_takeCode (va_wsS RX3 43 yX3_digitOf wsX3_digitOf) := goodIn_app (goodIn_of _ (by decide +kernel)) ggX3_takeCode_X3_digitOf
theorem dX3_takeCode_0 : decode cX3_takeCode 0 = .ok (.iload_n 1, 1) := by decide +kernel
theorem dX3_takeCode_1 : decode cX3_takeCode 1 = .ok (.invokestatic 43, 3) := by decide +kernel
theorem dX3_takeCode_4 : decode cX3_takeCode 4 = .ok (.istore_n 2, 1) := by decide +kernel
theorem dX3_takeCode_5 : decode cX3_takeCode 5 = .ok (.aload_n 0, 1) := by decide +kernel
theorem dX3_takeCode_6 : decode cX3_takeCode 6 = .ok (.getfield 37, 3) := by decide +kernel
theorem dX3_takeCode_9 : decode cX3_takeCode 9 = .ok (.bipush 16, 2) := by decide +kernel
theorem dX3_takeCode_11 : decode cX3_takeCode 11 = .ok (.if_icmp .ge 7, 3) := by decide +kernel
theorem dX3_takeCode_14 : decode cX3_takeCode 14 = .ok (.iconst 1, 1) := by decide +kernel
theorem dX3_takeCode_15 : decode cX3_takeCode 15 = .ok (.goto 4, 3) := by decide +kernel
theorem dX3_takeCode_18 : decode cX3_takeCode 18 = .ok (.iconst 0, 1) := by decide +kernel
theorem dX3_takeCode_19 : decode cX3_takeCode 19 = .ok (.istore_n 3, 1) := by decide +kernel
theorem dX3_takeCode_20 : decode cX3_takeCode 20 = .ok (.iload_n 2, 1) := by decide +kernel
theorem dX3_takeCode_21 : decode cX3_takeCode 21 = .ok (.iconst (-1), 1) := by decide +kernel
theorem dX3_takeCode_22 : decode cX3_takeCode 22 = .ok (.if_icmp .eq 46, 3) := by decide +kernel
theorem dX3_takeCode_25 : decode cX3_takeCode 25 = .ok (.iload_n 3, 1) := by decide +kernel
theorem dX3_takeCode_26 : decode cX3_takeCode 26 = .ok (.ifCond .eq 42, 3) := by decide +kernel
theorem dX3_takeCode_29 : decode cX3_takeCode 29 = .ok (.aload_n 0, 1) := by decide +kernel
theorem dX3_takeCode_30 : decode cX3_takeCode 30 = .ok (.getfield 34, 3) := by decide +kernel
theorem dX3_takeCode_33 : decode cX3_takeCode 33 = .ok (.iconst 1, 1) := by decide +kernel
theorem dX3_takeCode_34 : decode cX3_takeCode 34 = .ok (.if_icmp .ne 34, 3) := by decide +kernel
theorem dX3_takeCode_37 : decode cX3_takeCode 37 = .ok (.aload_n 0, 1) := by decide +kernel
theorem dX3_takeCode_38 : decode cX3_takeCode 38 = .ok (.getfield 15, 3) := by decide +kernel
theorem dX3_takeCode_41 : decode cX3_takeCode 41 = .ok (.aload_n 0, 1) := by decide +kernel
theorem dX3_takeCode_42 : decode cX3_takeCode 42 = .ok (.getfield 37, 3) := by decide +kernel
theorem dX3_takeCode_45 : decode cX3_takeCode 45 = .ok (.dup2, 1) := by decide +kernel
theorem dX3_takeCode_46 : decode cX3_takeCode 46 = .ok (.iaload, 1) := by decide +kernel
theorem dX3_takeCode_47 : decode cX3_takeCode 47 = .ok (.iload_n 2, 1) := by decide +kernel
theorem dX3_takeCode_48 : decode cX3_takeCode 48 = .ok (.iadd, 1) := by decide +kernel
theorem dX3_takeCode_49 : decode cX3_takeCode 49 = .ok (.iastore, 1) := by decide +kernel
theorem dX3_takeCode_50 : decode cX3_takeCode 50 = .ok (.aload_n 0, 1) := by decide +kernel
theorem dX3_takeCode_51 : decode cX3_takeCode 51 = .ok (.dup, 1) := by decide +kernel
theorem dX3_takeCode_52 : decode cX3_takeCode 52 = .ok (.getfield 37, 3) := by decide +kernel
theorem dX3_takeCode_55 : decode cX3_takeCode 55 = .ok (.iconst 1, 1) := by decide +kernel
theorem dX3_takeCode_56 : decode cX3_takeCode 56 = .ok (.iadd, 1) := by decide +kernel
theorem dX3_takeCode_57 : decode cX3_takeCode 57 = .ok (.putfield 37, 3) := by decide +kernel
theorem dX3_takeCode_60 : decode cX3_takeCode 60 = .ok (.aload_n 0, 1) := by decide +kernel
theorem dX3_takeCode_61 : decode cX3_takeCode 61 = .ok (.iconst 2, 1) := by decide +kernel
theorem dX3_takeCode_62 : decode cX3_takeCode 62 = .ok (.putfield 34, 3) := by decide +kernel
theorem dX3_takeCode_65 : decode cX3_takeCode 65 = .ok (.goto 64, 3) := by decide +kernel
theorem dX3_takeCode_68 : decode cX3_takeCode 68 = .ok (.iload_n 2, 1) := by decide +kernel
theorem dX3_takeCode_69 : decode cX3_takeCode 69 = .ok (.iconst (-1), 1) := by decide +kernel
theorem dX3_takeCode_70 : decode cX3_takeCode 70 = .ok (.if_icmp .eq 28, 3) := by decide +kernel
theorem dX3_takeCode_73 : decode cX3_takeCode 73 = .ok (.iload_n 3, 1) := by decide +kernel
theorem dX3_takeCode_74 : decode cX3_takeCode 74 = .ok (.ifCond .eq 24, 3) := by decide +kernel
theorem dX3_takeCode_77 : decode cX3_takeCode 77 = .ok (.aload_n 0, 1) := by decide +kernel
theorem dX3_takeCode_78 : decode cX3_takeCode 78 = .ok (.getfield 15, 3) := by decide +kernel
theorem dX3_takeCode_81 : decode cX3_takeCode 81 = .ok (.aload_n 0, 1) := by decide +kernel
theorem dX3_takeCode_82 : decode cX3_takeCode 82 = .ok (.getfield 37, 3) := by decide +kernel
theorem dX3_takeCode_85 : decode cX3_takeCode 85 = .ok (.bipush 16, 2) := by decide +kernel
theorem dX3_takeCode_87 : decode cX3_takeCode 87 = .ok (.iload_n 2, 1) := by decide +kernel
theorem dX3_takeCode_88 : decode cX3_takeCode 88 = .ok (.imul, 1) := by decide +kernel
theorem dX3_takeCode_89 : decode cX3_takeCode 89 = .ok (.iastore, 1) := by decide +kernel
theorem dX3_takeCode_90 : decode cX3_takeCode 90 = .ok (.aload_n 0, 1) := by decide +kernel
theorem dX3_takeCode_91 : decode cX3_takeCode 91 = .ok (.iconst 1, 1) := by decide +kernel
theorem dX3_takeCode_92 : decode cX3_takeCode 92 = .ok (.putfield 34, 3) := by decide +kernel
theorem dX3_takeCode_95 : decode cX3_takeCode 95 = .ok (.goto 34, 3) := by decide +kernel
theorem dX3_takeCode_98 : decode cX3_takeCode 98 = .ok (.iload_n 1, 1) := by decide +kernel
theorem dX3_takeCode_99 : decode cX3_takeCode 99 = .ok (.bipush 46, 2) := by decide +kernel
theorem dX3_takeCode_101 : decode cX3_takeCode 101 = .ok (.if_icmp .ne 23, 3) := by decide +kernel
theorem dX3_takeCode_104 : decode cX3_takeCode 104 = .ok (.iload_n 3, 1) := by decide +kernel
theorem dX3_takeCode_105 : decode cX3_takeCode 105 = .ok (.ifCond .eq 19, 3) := by decide +kernel
theorem dX3_takeCode_108 : decode cX3_takeCode 108 = .ok (.aload_n 0, 1) := by decide +kernel
theorem dX3_takeCode_109 : decode cX3_takeCode 109 = .ok (.getfield 34, 3) := by decide +kernel
theorem dX3_takeCode_112 : decode cX3_takeCode 112 = .ok (.iconst 2, 1) := by decide +kernel
theorem dX3_takeCode_113 : decode cX3_takeCode 113 = .ok (.if_icmp .ne 11, 3) := by decide +kernel
theorem dX3_takeCode_116 : decode cX3_takeCode 116 = .ok (.aload_n 0, 1) := by decide +kernel
theorem dX3_takeCode_117 : decode cX3_takeCode 117 = .ok (.iconst 0, 1) := by decide +kernel
theorem dX3_takeCode_118 : decode cX3_takeCode 118 = .ok (.putfield 34, 3) := by decide +kernel
theorem dX3_takeCode_121 : decode cX3_takeCode 121 = .ok (.goto 8, 3) := by decide +kernel
theorem dX3_takeCode_124 : decode cX3_takeCode 124 = .ok (.aload_n 0, 1) := by decide +kernel
theorem dX3_takeCode_125 : decode cX3_takeCode 125 = .ok (.iconst 3, 1) := by decide +kernel
theorem dX3_takeCode_126 : decode cX3_takeCode 126 = .ok (.putfield 34, 3) := by decide +kernel
theorem dX3_takeCode_129 : decode cX3_takeCode 129 = .ok (.return_, 1) := by decide +kernel
theorem dX3_signOf_0 : decode cX3_signOf 0 = .ok (.iload_n 0, 1) := by decide +kernel
theorem dX3_signOf_1 : decode cX3_signOf 1 = .ok (.bipush 10, 2) := by decide +kernel
theorem dX3_signOf_3 : decode cX3_signOf 3 = .ok (.if_icmp .ge 10, 3) := by decide +kernel
theorem dX3_signOf_6 : decode cX3_signOf 6 = .ok (.bipush 48, 2) := by decide +kernel
theorem dX3_signOf_8 : decode cX3_signOf 8 = .ok (.iload_n 0, 1) := by decide +kernel
theorem dX3_signOf_9 : decode cX3_signOf 9 = .ok (.iadd, 1) := by decide +kernel
theorem dX3_signOf_10 : decode cX3_signOf 10 = .ok (.goto 10, 3) := by decide +kernel
theorem dX3_signOf_13 : decode cX3_signOf 13 = .ok (.bipush 97, 2) := by decide +kernel
theorem dX3_signOf_15 : decode cX3_signOf 15 = .ok (.iload_n 0, 1) := by decide +kernel
theorem dX3_signOf_16 : decode cX3_signOf 16 = .ok (.iadd, 1) := by decide +kernel
theorem dX3_signOf_17 : decode cX3_signOf 17 = .ok (.bipush 10, 2) := by decide +kernel
theorem dX3_signOf_19 : decode cX3_signOf 19 = .ok (.isub, 1) := by decide +kernel
theorem dX3_signOf_20 : decode cX3_signOf 20 = .ok (.ireturn, 1) := by decide +kernel
theorem dX3_digitOf_0 : decode cX3_digitOf 0 = .ok (.iload_n 0, 1) := by decide +kernel
theorem dX3_digitOf_1 : decode cX3_digitOf 1 = .ok (.bipush 48, 2) := by decide +kernel
theorem dX3_digitOf_3 : decode cX3_digitOf 3 = .ok (.if_icmp .lt 14, 3) := by decide +kernel
theorem dX3_digitOf_6 : decode cX3_digitOf 6 = .ok (.iload_n 0, 1) := by decide +kernel
theorem dX3_digitOf_7 : decode cX3_digitOf 7 = .ok (.bipush 57, 2) := by decide +kernel
theorem dX3_digitOf_9 : decode cX3_digitOf 9 = .ok (.if_icmp .gt 8, 3) := by decide +kernel
theorem dX3_digitOf_12 : decode cX3_digitOf 12 = .ok (.iload_n 0, 1) := by decide +kernel
theorem dX3_digitOf_13 : decode cX3_digitOf 13 = .ok (.bipush 48, 2) := by decide +kernel
theorem dX3_digitOf_15 : decode cX3_digitOf 15 = .ok (.isub, 1) := by decide +kernel
theorem dX3_digitOf_16 : decode cX3_digitOf 16 = .ok (.ireturn, 1) := by decide +kernel
theorem dX3_digitOf_17 : decode cX3_digitOf 17 = .ok (.iload_n 0, 1) := by decide +kernel
theorem dX3_digitOf_18 : decode cX3_digitOf 18 = .ok (.bipush 97, 2) := by decide +kernel
theorem dX3_digitOf_20 : decode cX3_digitOf 20 = .ok (.if_icmp .lt 17, 3) := by decide +kernel
theorem dX3_digitOf_23 : decode cX3_digitOf 23 = .ok (.iload_n 0, 1) := by decide +kernel
theorem dX3_digitOf_24 : decode cX3_digitOf 24 = .ok (.bipush 102, 2) := by decide +kernel
theorem dX3_digitOf_26 : decode cX3_digitOf 26 = .ok (.if_icmp .gt 11, 3) := by decide +kernel
theorem dX3_digitOf_29 : decode cX3_digitOf 29 = .ok (.iload_n 0, 1) := by decide +kernel
theorem dX3_digitOf_30 : decode cX3_digitOf 30 = .ok (.bipush 97, 2) := by decide +kernel
theorem dX3_digitOf_32 : decode cX3_digitOf 32 = .ok (.isub, 1) := by decide +kernel
theorem dX3_digitOf_33 : decode cX3_digitOf 33 = .ok (.bipush 10, 2) := by decide +kernel
theorem dX3_digitOf_35 : decode cX3_digitOf 35 = .ok (.iadd, 1) := by decide +kernel
theorem dX3_digitOf_36 : decode cX3_digitOf 36 = .ok (.ireturn, 1) := by decide +kernel
theorem dX3_digitOf_37 : decode cX3_digitOf 37 = .ok (.iconst (-1), 1) := by decide +kernel
theorem dX3_digitOf_38 : decode cX3_digitOf 38 = .ok (.ireturn, 1) := by decide +kernel
set_option maxRecDepth 20000 in
theorem ggX4_init_X2_init : GoodIn wsX4_init wsX2_init := goodIn_r _ [24, 25, 2, 3, 20, 26, 27, 28, 29, 30, 31, 32, 33, 34, 35, 36, 37, 38, 39, 40, 41, 42, 43, 44, 45, 46, 47, 48, 61, 62, 63, 64, 65, 66, 67, 68, 84, 85, 86, 87, 88, 89, 90] (by decide +kernel) (by decide +kernel)
set_option maxRecDepth 20000 in
theorem gX4_init_X2_init : GoodIn wsX4_init (wsX2_init) := ggX4_init_X2_init
set_option maxRecDepth 20000 in
theorem ggX4_init_X1_init : GoodIn wsX4_init wsX1_init := goodIn_r _ [51, 52, 2, 3, 53, 54, 5, 6, 55, 23, 24, 25, 20, 26, 27, 28, 29, 30, 31, 32, 33, 34, 35, 36, 37, 38, 39, 40, 41, 42, 43, 44, 45, 46, 47, 48, 76, 77, 78, 61, 62, 63, 64, 65, 66, 67, 68, 84, 85, 86, 87, 88, 89, 90] (by decide +kernel) (by decide +kernel)
set_option maxRecDepth 20000 in
theorem gX4_init_X1_init : GoodIn wsX4_init (wsX1_init) := ggX4_init_X1_init
set_option maxRecDepth 20000 in
theorem ggX4_init_X3_init : GoodIn wsX4_init wsX3_init := goodIn_r _ [57, 58, 2, 3, 20, 59, 60, 79, 80, 81, 82, 83] (by decide +kernel) (by decide +kernel)
set_option maxRecDepth 20000 in
theorem gX4_init_X3_init_n36 : GoodIn wsX4_init (wsX3_init) := ggX4_init_X3_init
theorem dX4_init_0 : decode cX4_init 0 = .ok (.aload_n 0, 1) := by decide +kernel
theorem dX4_init_1 : decode cX4_init 1 = .ok (.invokespecial 1, 3) := by decide +kernel
theorem dX4_init_4 : decode cX4_init 4 = .ok (.aload_n 0, 1) := by decide +kernel
theorem dX4_init_5 : decode cX4_init 5 = .ok (.new 7, 3) := by decide +kernel
theorem dX4_init_8 : decode cX4_init 8 = .ok (.dup, 1) := by decide +kernel
theorem dX4_init_9 : decode cX4_init 9 = .ok (.invokespecial 9, 3) := by decide +kernel
theorem dX4_init_12 : decode cX4_init 12 = .ok (.putfield 10, 3) := by decide +kernel
theorem dX4_init_15 : decode cX4_init 15 = .ok (.aload_n 0, 1) := by decide +kernel
theorem dX4_init_16 : decode cX4_init 16 = .ok (.new 7, 3) := by decide +kernel
theorem dX4_init_19 : decode cX4_init 19 = .ok (.dup, 1) := by decide +kernel
theorem dX4_init_20 : decode cX4_init 20 = .ok (.invokespecial 9, 3) := by decide +kernel
theorem dX4_init_23 : decode cX4_init 23 = .ok (.putfield 16, 3) := by decide +kernel
theorem dX4_init_26 : decode cX4_init 26 = .ok (.aload_n 0, 1) := by decide +kernel
theorem dX4_init_27 : decode cX4_init 27 = .ok (.new 19, 3) := by decide +kernel
theorem dX4_init_30 : decode cX4_init 30 = .ok (.dup, 1) := by decide +kernel
theorem dX4_init_31 : decode cX4_init 31 = .ok (.invokespecial 21, 3) := by decide +kernel
theorem dX4_init_34 : decode cX4_init 34 = .ok (.putfield 22, 3) := by decide +kernel
theorem dX4_init_37 : decode cX4_init 37 = .ok (.aload_n 0, 1) := by decide +kernel
theorem dX4_init_38 : decode cX4_init 38 = .ok (.iconst 2, 1) := by decide +kernel
theorem dX4_init_39 : decode cX4_init 39 = .ok (.anewarray 7, 3) := by decide +kernel
theorem dX4_init_42 : decode cX4_init 42 = .ok (.putfield 26, 3) := by decide +kernel
theorem dX4_init_45 : decode cX4_init 45 = .ok (.aload_n 0, 1) := by decide +kernel
theorem dX4_init_46 : decode cX4_init 46 = .ok (.iconst 2, 1) := by decide +kernel
theorem dX4_init_47 : decode cX4_init 47 = .ok (.newarray .boolean, 2) := by decide +kernel
theorem dX4_init_49 : decode cX4_init 49 = .ok (.putfield 30, 3) := by decide +kernel
theorem dX4_init_52 : decode cX4_init 52 = .ok (.aload_n 0, 1) := by decide +kernel
theorem dX4_init_53 : decode cX4_init 53 = .ok (.new 34, 3) := by decide +kernel
theorem dX4_init_56 : decode cX4_init 56 = .ok (.dup, 1) := by decide +kernel
theorem dX4_init_57 : decode cX4_init 57 = .ok (.invokespecial 36, 3) := by decide +kernel
theorem dX4_init_60 : decode cX4_init 60 = .ok (.putfield 37, 3) := by decide +kernel
theorem dX4_init_63 : decode cX4_init 63 = .ok (.aload_n 0, 1) := by decide +kernel
theorem dX4_init_64 : decode cX4_init 64 = .ok (.bipush 16, 2) := by decide +kernel
theorem dX4_init_66 : decode cX4_init 66 = .ok (.newarray .int, 2) := by decide +kernel
theorem dX4_init_68 : decode cX4_init 68 = .ok (.putfield 41, 3) := by decide +kernel
theorem dX4_init_71 : decode cX4_init 71 = .ok (.iconst 0, 1) := by decide +kernel
theorem dX4_init_72 : decode cX4_init 72 = .ok (.istore_n 1, 1) := by decide +kernel
theorem dX4_init_73 : decode cX4_init 73 = .ok (.iload_n 1, 1) := by decide +kernel
theorem dX4_init_74 : decode cX4_init 74 = .ok (.iconst 2, 1) := by decide +kernel
theorem dX4_init_75 : decode cX4_init 75 = .ok (.if_icmp .ge 22, 3) := by decide +kernel
theorem dX4_init_78 : decode cX4_init 78 = .ok (.aload_n 0, 1) := by decide +kernel
theorem dX4_init_79 : decode cX4_init 79 = .ok (.getfield 26, 3) := by decide +kernel
theorem dX4_init_82 : decode cX4_init 82 = .ok (.iload_n 1, 1) := by decide +kernel
theorem dX4_init_83 : decode cX4_init 83 = .ok (.new 7, 3) := by decide +kernel
theorem dX4_init_86 : decode cX4_init 86 = .ok (.dup, 1) := by decide +kernel
theorem dX4_init_87 : decode cX4_init 87 = .ok (.invokespecial 9, 3) := by decide +kernel
theorem dX4_init_90 : decode cX4_init 90 = .ok (.aastore, 1) := by decide +kernel
theorem dX4_init_91 : decode cX4_init 91 = .ok (.iinc 1 1, 3) := by decide +kernel
theorem dX4_init_94 : decode cX4_init 94 = .ok (.goto (-21), 3) := by decide +kernel
theorem dX4_init_97 : decode cX4_init 97 = .ok (.return_, 1) := by decide +kernel
set_option maxRecDepth 20000 in
theorem ggX4_cross_X4_isThread : GoodIn wsX4_cross wsX4_isThread := goodIn_r _ [9, 10, 11, 8, 12] (by decide +kernel) (by decide +kernel)
set_option maxRecDepth 20000 in
theorem gX4_cross_X4_isThread : GoodIn wsX4_cross (va_wsS RX4 45 yX4_isThread wsX4_isThread) := goodIn_app (goodIn_of _ (by decide +kernel)) ggX4_cross_X4_isThread
set_option maxRecDepth 20000 in
theorem ggX4_cross_X4_isRing : GoodIn wsX4_cross wsX4_isRing := goodIn_r _ [15, 10, 11, 8, 12] (by decide +kernel) (by decide +kernel)
set_option maxRecDepth 20000 in
theorem gX4_cross_X4_isRing : GoodIn wsX4_cross (va_wsS RX4 49 yX4_isRing wsX4_isRing) := goodIn_app (goodIn_of _ (by decide +kernel)) ggX4_cross_X4_isRing
set_option maxRecDepth 20000 in
theorem ggX4_cross_X1_push : GoodIn wsX4_cross wsX1_push := goodIn_r _ [20, 21, 22, 23, 24, 25, 26, 27, 28, 29, 30, 31, 32, 33, 34, 35, 36, 37, 38, 39, 40, 41, 42, 43, 44, 45, 46, 47, 48, 49, 50, 51, 52, 53, 91, 92, 93, 83, 84, 85, 86, 87, 88, 89, 90, 94, 95, 96, 97, 98, 99, 100] (by decide +kernel) (by decide +kernel)
set_option maxRecDepth 20000 in
theorem gX4_cross_X1_push : GoodIn wsX4_cross (wsV RX4 59 RX1 yX1_push wsX1_push) := goodIn_app (goodIn_of _ (by decide +kernel)) ggX4_cross_X1_push
set_option maxRecDepth 20000 in
theorem ggX4_cross_X2_layThrough : GoodIn wsX4_cross wsX2_layThrough := goodIn_r _ [57, 29, 39, 58, 59, 60, 27, 61, 35, 62, 63, 64, 65, 66, 8, 67, 68, 69, 70, 71, 72, 73, 74, 83, 84, 85, 86, 87, 88, 89, 90] (by decide +kernel) (by decide +kernel)
set_option maxRecDepth 20000 in
theorem gX4_cross_X2_layThrough : GoodIn wsX4_cross (wsV RX4 66 RX2 yX2_layThrough wsX2_layThrough) := goodIn_app (goodIn_of _ (by decide +kernel)) ggX4_cross_X2_layThrough
set_option maxRecDepth 20000 in
theorem ggX4_cross_X4_bit : GoodIn wsX4_cross wsX4_bit := goodIn_r _ [67] (by decide +kernel) (by decide +kernel)
set_option maxRecDepth 20000 in
theorem gX4_cross_X4_bit : GoodIn wsX4_cross (va_wsS RX4 70 yX4_bit wsX4_bit) := goodIn_app (goodIn_of _ (by decide +kernel)) ggX4_cross_X4_bit
theorem dX4_cross_0 : decode cX4_cross 0 = .ok (.iload_n 1, 1) := by decide +kernel
theorem dX4_cross_1 : decode cX4_cross 1 = .ok (.invokestatic 45, 3) := by decide +kernel
theorem dX4_cross_4 : decode cX4_cross 4 = .ok (.ifCond .eq 10, 3) := by decide +kernel
theorem dX4_cross_7 : decode cX4_cross 7 = .ok (.iload_n 2, 1) := by decide +kernel
theorem dX4_cross_8 : decode cX4_cross 8 = .ok (.invokestatic 49, 3) := by decide +kernel
theorem dX4_cross_11 : decode cX4_cross 11 = .ok (.ifCond .ne 13, 3) := by decide +kernel
theorem dX4_cross_14 : decode cX4_cross 14 = .ok (.new 52, 3) := by decide +kernel
theorem dX4_cross_17 : decode cX4_cross 17 = .ok (.dup, 1) := by decide +kernel
theorem dX4_cross_18 : decode cX4_cross 18 = .ok (.ldc 54, 2) := by decide +kernel
theorem dX4_cross_20 : decode cX4_cross 20 = .ok (.invokespecial 56, 3) := by decide +kernel
theorem dX4_cross_23 : decode cX4_cross 23 = .ok (.athrow, 1) := by decide +kernel
theorem dX4_cross_24 : decode cX4_cross 24 = .ok (.aload_n 0, 1) := by decide +kernel
theorem dX4_cross_25 : decode cX4_cross 25 = .ok (.getfield 22, 3) := by decide +kernel
theorem dX4_cross_28 : decode cX4_cross 28 = .ok (.aload_n 0, 1) := by decide +kernel
theorem dX4_cross_29 : decode cX4_cross 29 = .ok (.getfield 10, 3) := by decide +kernel
theorem dX4_cross_32 : decode cX4_cross 32 = .ok (.invokevirtual 59, 3) := by decide +kernel
theorem dX4_cross_35 : decode cX4_cross 35 = .ok (.aload_n 0, 1) := by decide +kernel
theorem dX4_cross_36 : decode cX4_cross 36 = .ok (.getfield 10, 3) := by decide +kernel
theorem dX4_cross_39 : decode cX4_cross 39 = .ok (.iload_n 1, 1) := by decide +kernel
theorem dX4_cross_40 : decode cX4_cross 40 = .ok (.aload_n 0, 1) := by decide +kernel
theorem dX4_cross_41 : decode cX4_cross 41 = .ok (.getfield 10, 3) := by decide +kernel
theorem dX4_cross_44 : decode cX4_cross 44 = .ok (.getfield 63, 3) := by decide +kernel
theorem dX4_cross_47 : decode cX4_cross 47 = .ok (.iload_n 1, 1) := by decide +kernel
theorem dX4_cross_48 : decode cX4_cross 48 = .ok (.iaload, 1) := by decide +kernel
theorem dX4_cross_49 : decode cX4_cross 49 = .ok (.iconst 1, 1) := by decide +kernel
theorem dX4_cross_50 : decode cX4_cross 50 = .ok (.iload_n 2, 1) := by decide +kernel
theorem dX4_cross_51 : decode cX4_cross 51 = .ok (.ishl, 1) := by decide +kernel
theorem dX4_cross_52 : decode cX4_cross 52 = .ok (.ixor, 1) := by decide +kernel
theorem dX4_cross_53 : decode cX4_cross 53 = .ok (.invokevirtual 66, 3) := by decide +kernel
theorem dX4_cross_56 : decode cX4_cross 56 = .ok (.pop, 1) := by decide +kernel
theorem dX4_cross_57 : decode cX4_cross 57 = .ok (.aload_n 0, 1) := by decide +kernel
theorem dX4_cross_58 : decode cX4_cross 58 = .ok (.getfield 10, 3) := by decide +kernel
theorem dX4_cross_61 : decode cX4_cross 61 = .ok (.getfield 63, 3) := by decide +kernel
theorem dX4_cross_64 : decode cX4_cross 64 = .ok (.iload_n 1, 1) := by decide +kernel
theorem dX4_cross_65 : decode cX4_cross 65 = .ok (.iaload, 1) := by decide +kernel
theorem dX4_cross_66 : decode cX4_cross 66 = .ok (.iload_n 2, 1) := by decide +kernel
theorem dX4_cross_67 : decode cX4_cross 67 = .ok (.invokestatic 70, 3) := by decide +kernel
theorem dX4_cross_70 : decode cX4_cross 70 = .ok (.ireturn, 1) := by decide +kernel
set_option maxRecDepth 20000 in
theorem ggX4_lay_X4_isThread : GoodIn wsX4_lay wsX4_isThread := goodIn_r _ [10, 11, 12, 9, 13] (by decide +kernel) (by decide +kernel)
set_option maxRecDepth 20000 in
theorem gX4_lay_X4_isThread : GoodIn wsX4_lay (va_wsS RX4 45 yX4_isThread wsX4_isThread) := goodIn_app (goodIn_of _ (by decide +kernel)) ggX4_lay_X4_isThread
set_option maxRecDepth 20000 in
theorem ggX4_lay_X4_isWithin : GoodIn wsX4_lay wsX4_isWithin := goodIn_r _ [13] (by decide +kernel) (by decide +kernel)
set_option maxRecDepth 20000 in
theorem gX4_lay_X4_isWithin : GoodIn wsX4_lay (va_wsS RX4 75 yX4_isWithin wsX4_isWithin) := goodIn_app (goodIn_of _ (by decide +kernel)) ggX4_lay_X4_isWithin
set_option maxRecDepth 20000 in
theorem ggX4_lay_X1_push : GoodIn wsX4_lay wsX1_push := goodIn_r _ [18, 19, 20, 21, 22, 23, 24, 25, 26, 27, 28, 29, 30, 31, 32, 33, 34, 35, 36, 37, 38, 39, 40, 41, 42, 43, 44, 45, 46, 47, 48, 49, 50, 51, 84, 85, 86, 87, 88, 89, 90, 91, 92, 93, 94, 95, 96, 97, 98, 99, 100, 101] (by decide +kernel) (by decide +kernel)
set_option maxRecDepth 20000 in
theorem gX4_lay_X1_push : GoodIn wsX4_lay (wsV RX4 59 RX1 yX1_push wsX1_push) := goodIn_app (goodIn_of _ (by decide +kernel)) ggX4_lay_X1_push
set_option maxRecDepth 20000 in
theorem ggX4_lay_X2_asWord : GoodIn wsX4_lay wsX2_asWord := goodIn_r _ [55, 34, 87, 88, 89, 90, 91, 92, 93, 94] (by decide +kernel) (by decide +kernel)
set_option maxRecDepth 20000 in
theorem gX4_lay_X2_asWord : GoodIn wsX4_lay (wsV RX4 84 RX2 yX2_asWord wsX2_asWord) := goodIn_app (goodIn_of _ (by decide +kernel)) ggX4_lay_X2_asWord
set_option maxRecDepth 20000 in
theorem ggX4_lay_X2_layThrough : GoodIn wsX4_lay wsX2_layThrough := goodIn_r _ [59, 27, 37, 60, 61, 62, 25, 63, 33, 64, 65, 66, 67, 68, 9, 69, 70, 71, 72, 73, 74, 75, 76, 87, 88, 89, 90, 91, 92, 93, 94] (by decide +kernel) (by decide +kernel)
set_option maxRecDepth 20000 in
theorem gX4_lay_X2_layThrough : GoodIn wsX4_lay (wsV RX4 66 RX2 yX2_layThrough wsX2_layThrough) := goodIn_app (goodIn_of _ (by decide +kernel)) ggX4_lay_X2_layThrough
theorem dX4_lay_0 : decode cX4_lay 0 = .ok (.iload_n 1, 1) := by decide +kernel
theorem dX4_lay_1 : decode cX4_lay 1 = .ok (.invokestatic 45, 3) := by decide +kernel
theorem dX4_lay_4 : decode cX4_lay 4 = .ok (.ifCond .ne 13, 3) := by decide +kernel
theorem dX4_lay_7 : decode cX4_lay 7 = .ok (.new 52, 3) := by decide +kernel
theorem dX4_lay_10 : decode cX4_lay 10 = .ok (.dup, 1) := by decide +kernel
theorem dX4_lay_11 : decode cX4_lay 11 = .ok (.ldc 73, 2) := by decide +kernel
theorem dX4_lay_13 : decode cX4_lay 13 = .ok (.invokespecial 56, 3) := by decide +kernel
theorem dX4_lay_16 : decode cX4_lay 16 = .ok (.athrow, 1) := by decide +kernel
theorem dX4_lay_17 : decode cX4_lay 17 = .ok (.iload_n 2, 1) := by decide +kernel
theorem dX4_lay_18 : decode cX4_lay 18 = .ok (.iconst 0, 1) := by decide +kernel
theorem dX4_lay_19 : decode cX4_lay 19 = .ok (.sipush 255, 3) := by decide +kernel
theorem dX4_lay_22 : decode cX4_lay 22 = .ok (.invokestatic 75, 3) := by decide +kernel
theorem dX4_lay_25 : decode cX4_lay 25 = .ok (.ifCond .ne 13, 3) := by decide +kernel
theorem dX4_lay_28 : decode cX4_lay 28 = .ok (.new 79, 3) := by decide +kernel
theorem dX4_lay_31 : decode cX4_lay 31 = .ok (.dup, 1) := by decide +kernel
theorem dX4_lay_32 : decode cX4_lay 32 = .ok (.ldc 81, 2) := by decide +kernel
theorem dX4_lay_34 : decode cX4_lay 34 = .ok (.invokespecial 83, 3) := by decide +kernel
theorem dX4_lay_37 : decode cX4_lay 37 = .ok (.athrow, 1) := by decide +kernel
theorem dX4_lay_38 : decode cX4_lay 38 = .ok (.aload_n 0, 1) := by decide +kernel
theorem dX4_lay_39 : decode cX4_lay 39 = .ok (.getfield 22, 3) := by decide +kernel
theorem dX4_lay_42 : decode cX4_lay 42 = .ok (.aload_n 0, 1) := by decide +kernel
theorem dX4_lay_43 : decode cX4_lay 43 = .ok (.getfield 10, 3) := by decide +kernel
theorem dX4_lay_46 : decode cX4_lay 46 = .ok (.invokevirtual 59, 3) := by decide +kernel
theorem dX4_lay_49 : decode cX4_lay 49 = .ok (.aload_n 0, 1) := by decide +kernel
theorem dX4_lay_50 : decode cX4_lay 50 = .ok (.getfield 10, 3) := by decide +kernel
theorem dX4_lay_53 : decode cX4_lay 53 = .ok (.iload_n 1, 1) := by decide +kernel
theorem dX4_lay_54 : decode cX4_lay 54 = .ok (.aload_n 0, 1) := by decide +kernel
theorem dX4_lay_55 : decode cX4_lay 55 = .ok (.getfield 10, 3) := by decide +kernel
theorem dX4_lay_58 : decode cX4_lay 58 = .ok (.iload_n 2, 1) := by decide +kernel
theorem dX4_lay_59 : decode cX4_lay 59 = .ok (.invokevirtual 84, 3) := by decide +kernel
theorem dX4_lay_62 : decode cX4_lay 62 = .ok (.invokevirtual 66, 3) := by decide +kernel
theorem dX4_lay_65 : decode cX4_lay 65 = .ok (.ireturn, 1) := by decide +kernel
set_option maxRecDepth 20000 in
theorem ggX4_guard_X4_isThread : GoodIn wsX4_guard wsX4_isThread := goodIn_r _ [9, 10, 11, 8, 12] (by decide +kernel) (by decide +kernel)
set_option maxRecDepth 20000 in
theorem gX4_guard_X4_isThread : GoodIn wsX4_guard (va_wsS RX4 45 yX4_isThread wsX4_isThread) := goodIn_app (goodIn_of _ (by decide +kernel)) ggX4_guard_X4_isThread
set_option maxRecDepth 20000 in
theorem ggX4_guard_X1_push : GoodIn wsX4_guard wsX1_push := goodIn_r _ [17, 18, 19, 20, 21, 22, 23, 24, 25, 26, 27, 28, 29, 30, 31, 32, 33, 34, 35, 36, 37, 38, 39, 40, 41, 42, 43, 44, 45, 46, 47, 48, 49, 50, 69, 70, 71, 61, 62, 63, 64, 65, 66, 67, 68, 72, 73, 74, 75, 76, 77, 78] (by decide +kernel) (by decide +kernel)
set_option maxRecDepth 20000 in
theorem gX4_guard_X1_push : GoodIn wsX4_guard (wsV RX4 59 RX1 yX1_push wsX1_push) := goodIn_app (goodIn_of _ (by decide +kernel)) ggX4_guard_X1_push
set_option maxRecDepth 20000 in
theorem ggX4_guard_X4_bit : GoodIn wsX4_guard wsX4_bit := goodIn_r _ [53] (by decide +kernel) (by decide +kernel)
set_option maxRecDepth 20000 in
theorem gX4_guard_X4_bit : GoodIn wsX4_guard (va_wsS RX4 70 yX4_bit wsX4_bit) := goodIn_app (goodIn_of _ (by decide +kernel)) ggX4_guard_X4_bit
theorem dX4_guard_0 : decode cX4_guard 0 = .ok (.iload_n 1, 1) := by decide +kernel
theorem dX4_guard_1 : decode cX4_guard 1 = .ok (.invokestatic 45, 3) := by decide +kernel
theorem dX4_guard_4 : decode cX4_guard 4 = .ok (.ifCond .ne 13, 3) := by decide +kernel
theorem dX4_guard_7 : decode cX4_guard 7 = .ok (.new 52, 3) := by decide +kernel
theorem dX4_guard_10 : decode cX4_guard 10 = .ok (.dup, 1) := by decide +kernel
theorem dX4_guard_11 : decode cX4_guard 11 = .ok (.ldc 73, 2) := by decide +kernel
theorem dX4_guard_13 : decode cX4_guard 13 = .ok (.invokespecial 56, 3) := by decide +kernel
theorem dX4_guard_16 : decode cX4_guard 16 = .ok (.athrow, 1) := by decide +kernel
theorem dX4_guard_17 : decode cX4_guard 17 = .ok (.aload_n 0, 1) := by decide +kernel
theorem dX4_guard_18 : decode cX4_guard 18 = .ok (.getfield 22, 3) := by decide +kernel
theorem dX4_guard_21 : decode cX4_guard 21 = .ok (.aload_n 0, 1) := by decide +kernel
theorem dX4_guard_22 : decode cX4_guard 22 = .ok (.getfield 10, 3) := by decide +kernel
theorem dX4_guard_25 : decode cX4_guard 25 = .ok (.invokevirtual 59, 3) := by decide +kernel
theorem dX4_guard_28 : decode cX4_guard 28 = .ok (.aload_n 0, 1) := by decide +kernel
theorem dX4_guard_29 : decode cX4_guard 29 = .ok (.getfield 10, 3) := by decide +kernel
theorem dX4_guard_32 : decode cX4_guard 32 = .ok (.aload_n 0, 1) := by decide +kernel
theorem dX4_guard_33 : decode cX4_guard 33 = .ok (.getfield 10, 3) := by decide +kernel
theorem dX4_guard_36 : decode cX4_guard 36 = .ok (.getfield 88, 3) := by decide +kernel
theorem dX4_guard_39 : decode cX4_guard 39 = .ok (.iconst 1, 1) := by decide +kernel
theorem dX4_guard_40 : decode cX4_guard 40 = .ok (.iload_n 1, 1) := by decide +kernel
theorem dX4_guard_41 : decode cX4_guard 41 = .ok (.ishl, 1) := by decide +kernel
theorem dX4_guard_42 : decode cX4_guard 42 = .ok (.ixor, 1) := by decide +kernel
theorem dX4_guard_43 : decode cX4_guard 43 = .ok (.putfield 88, 3) := by decide +kernel
theorem dX4_guard_46 : decode cX4_guard 46 = .ok (.aload_n 0, 1) := by decide +kernel
theorem dX4_guard_47 : decode cX4_guard 47 = .ok (.getfield 10, 3) := by decide +kernel
theorem dX4_guard_50 : decode cX4_guard 50 = .ok (.getfield 88, 3) := by decide +kernel
theorem dX4_guard_53 : decode cX4_guard 53 = .ok (.iload_n 1, 1) := by decide +kernel
theorem dX4_guard_54 : decode cX4_guard 54 = .ok (.invokestatic 70, 3) := by decide +kernel
theorem dX4_guard_57 : decode cX4_guard 57 = .ok (.ireturn, 1) := by decide +kernel
set_option maxRecDepth 20000 in
theorem ggX4_change_X4_isRing : GoodIn wsX4_change wsX4_isRing := goodIn_r _ [8, 9, 10, 7, 11] (by decide +kernel) (by decide +kernel)
set_option maxRecDepth 20000 in
theorem gX4_change_X4_isRing : GoodIn wsX4_change (va_wsS RX4 49 yX4_isRing wsX4_isRing) := goodIn_app (goodIn_of _ (by decide +kernel)) ggX4_change_X4_isRing
set_option maxRecDepth 20000 in
theorem ggX4_change_X1_push : GoodIn wsX4_change wsX1_push := goodIn_r _ [16, 17, 18, 19, 20, 21, 22, 23, 24, 25, 26, 27, 28, 29, 30, 31, 32, 33, 34, 35, 36, 37, 38, 39, 40, 41, 42, 43, 44, 45, 46, 47, 48, 49, 74, 75, 76, 77, 78, 79, 80, 81, 82, 83, 84, 85, 86, 87, 88, 89, 90, 91] (by decide +kernel) (by decide +kernel)
set_option maxRecDepth 20000 in
theorem gX4_change_X1_push : GoodIn wsX4_change (wsV RX4 59 RX1 yX1_push wsX1_push) := goodIn_app (goodIn_of _ (by decide +kernel)) ggX4_change_X1_push
set_option maxRecDepth 20000 in
theorem ggX4_change_X2_renewRing : GoodIn wsX4_change wsX2_renewRing := goodIn_r _ [53, 25, 31, 54, 55, 56, 23, 57, 58, 7, 59, 60, 61, 62, 63, 64, 65, 66, 77, 78, 79, 80, 81, 82, 83, 84] (by decide +kernel) (by decide +kernel)
set_option maxRecDepth 20000 in
theorem gX4_change_X2_renewRing : GoodIn wsX4_change (wsV RX4 94 RX2 yX2_renewRing wsX2_renewRing) := goodIn_app (goodIn_of _ (by decide +kernel)) ggX4_change_X2_renewRing
theorem dX4_change_0 : decode cX4_change 0 = .ok (.iload_n 1, 1) := by decide +kernel
theorem dX4_change_1 : decode cX4_change 1 = .ok (.invokestatic 49, 3) := by decide +kernel
theorem dX4_change_4 : decode cX4_change 4 = .ok (.ifCond .ne 13, 3) := by decide +kernel
theorem dX4_change_7 : decode cX4_change 7 = .ok (.new 52, 3) := by decide +kernel
theorem dX4_change_10 : decode cX4_change 10 = .ok (.dup, 1) := by decide +kernel
theorem dX4_change_11 : decode cX4_change 11 = .ok (.ldc 92, 2) := by decide +kernel
theorem dX4_change_13 : decode cX4_change 13 = .ok (.invokespecial 56, 3) := by decide +kernel
theorem dX4_change_16 : decode cX4_change 16 = .ok (.athrow, 1) := by decide +kernel
theorem dX4_change_17 : decode cX4_change 17 = .ok (.aload_n 0, 1) := by decide +kernel
theorem dX4_change_18 : decode cX4_change 18 = .ok (.getfield 22, 3) := by decide +kernel
theorem dX4_change_21 : decode cX4_change 21 = .ok (.aload_n 0, 1) := by decide +kernel
theorem dX4_change_22 : decode cX4_change 22 = .ok (.getfield 10, 3) := by decide +kernel
theorem dX4_change_25 : decode cX4_change 25 = .ok (.invokevirtual 59, 3) := by decide +kernel
theorem dX4_change_28 : decode cX4_change 28 = .ok (.aload_n 0, 1) := by decide +kernel
theorem dX4_change_29 : decode cX4_change 29 = .ok (.getfield 10, 3) := by decide +kernel
theorem dX4_change_32 : decode cX4_change 32 = .ok (.iload_n 1, 1) := by decide +kernel
theorem dX4_change_33 : decode cX4_change 33 = .ok (.invokevirtual 94, 3) := by decide +kernel
theorem dX4_change_36 : decode cX4_change 36 = .ok (.ireturn, 1) := by decide +kernel
set_option maxRecDepth 20000 in
theorem ggX4_set_X4_isSetting : GoodIn wsX4_set wsX4_isSetting := goodIn_r _ [11, 12, 13, 10, 14] (by decide +kernel) (by decide +kernel)
set_option maxRecDepth 20000 in
theorem gX4_set_X4_isSetting : GoodIn wsX4_set (va_wsS RX4 97 yX4_isSetting wsX4_isSetting) := goodIn_app (goodIn_of _ (by decide +kernel)) ggX4_set_X4_isSetting
set_option maxRecDepth 20000 in
theorem ggX4_set_X4_isWithin : GoodIn wsX4_set wsX4_isWithin := goodIn_r _ [14] (by decide +kernel) (by decide +kernel)
set_option maxRecDepth 20000 in
theorem gX4_set_X4_isWithin : GoodIn wsX4_set (va_wsS RX4 75 yX4_isWithin wsX4_isWithin) := goodIn_app (goodIn_of _ (by decide +kernel)) ggX4_set_X4_isWithin
set_option maxRecDepth 20000 in
theorem ggX4_set_X1_push : GoodIn wsX4_set wsX1_push := goodIn_r _ [19, 20, 21, 22, 23, 24, 25, 26, 27, 28, 29, 30, 31, 32, 33, 34, 35, 36, 37, 38, 39, 40, 41, 42, 43, 44, 45, 46, 47, 48, 49, 50, 51, 52, 68, 69, 70, 60, 61, 62, 63, 64, 65, 66, 67, 71, 72, 73, 74, 75, 76, 77] (by decide +kernel) (by decide +kernel)
set_option maxRecDepth 20000 in
theorem gX4_set_X1_push : GoodIn wsX4_set (wsV RX4 59 RX1 yX1_push wsX1_push) := goodIn_app (goodIn_of _ (by decide +kernel)) ggX4_set_X1_push
theorem dX4_set_0 : decode cX4_set 0 = .ok (.iload_n 1, 1) := by decide +kernel
theorem dX4_set_1 : decode cX4_set 1 = .ok (.invokestatic 97, 3) := by decide +kernel
theorem dX4_set_4 : decode cX4_set 4 = .ok (.ifCond .ne 13, 3) := by decide +kernel
theorem dX4_set_7 : decode cX4_set 7 = .ok (.new 52, 3) := by decide +kernel
theorem dX4_set_10 : decode cX4_set 10 = .ok (.dup, 1) := by decide +kernel
theorem dX4_set_11 : decode cX4_set 11 = .ok (.ldc 100, 2) := by decide +kernel
theorem dX4_set_13 : decode cX4_set 13 = .ok (.invokespecial 56, 3) := by decide +kernel
theorem dX4_set_16 : decode cX4_set 16 = .ok (.athrow, 1) := by decide +kernel
theorem dX4_set_17 : decode cX4_set 17 = .ok (.iload_n 2, 1) := by decide +kernel
theorem dX4_set_18 : decode cX4_set 18 = .ok (.iload_n 1, 1) := by decide +kernel
theorem dX4_set_19 : decode cX4_set 19 = .ok (.ifCond .ne 7, 3) := by decide +kernel
theorem dX4_set_22 : decode cX4_set 22 = .ok (.iconst 1, 1) := by decide +kernel
theorem dX4_set_23 : decode cX4_set 23 = .ok (.goto 4, 3) := by decide +kernel
theorem dX4_set_26 : decode cX4_set 26 = .ok (.iconst 0, 1) := by decide +kernel
theorem dX4_set_27 : decode cX4_set 27 = .ok (.iload_n 1, 1) := by decide +kernel
theorem dX4_set_28 : decode cX4_set 28 = .ok (.ifCond .ne 8, 3) := by decide +kernel
theorem dX4_set_31 : decode cX4_set 31 = .ok (.bipush 8, 2) := by decide +kernel
theorem dX4_set_33 : decode cX4_set 33 = .ok (.goto 4, 3) := by decide +kernel
theorem dX4_set_36 : decode cX4_set 36 = .ok (.iconst 1, 1) := by decide +kernel
theorem dX4_set_37 : decode cX4_set 37 = .ok (.invokestatic 75, 3) := by decide +kernel
theorem dX4_set_40 : decode cX4_set 40 = .ok (.ifCond .ne 13, 3) := by decide +kernel
theorem dX4_set_43 : decode cX4_set 43 = .ok (.new 79, 3) := by decide +kernel
theorem dX4_set_46 : decode cX4_set 46 = .ok (.dup, 1) := by decide +kernel
theorem dX4_set_47 : decode cX4_set 47 = .ok (.ldc 102, 2) := by decide +kernel
theorem dX4_set_49 : decode cX4_set 49 = .ok (.invokespecial 83, 3) := by decide +kernel
theorem dX4_set_52 : decode cX4_set 52 = .ok (.athrow, 1) := by decide +kernel
theorem dX4_set_53 : decode cX4_set 53 = .ok (.aload_n 0, 1) := by decide +kernel
theorem dX4_set_54 : decode cX4_set 54 = .ok (.getfield 22, 3) := by decide +kernel
theorem dX4_set_57 : decode cX4_set 57 = .ok (.aload_n 0, 1) := by decide +kernel
theorem dX4_set_58 : decode cX4_set 58 = .ok (.getfield 10, 3) := by decide +kernel
theorem dX4_set_61 : decode cX4_set 61 = .ok (.invokevirtual 59, 3) := by decide +kernel
theorem dX4_set_64 : decode cX4_set 64 = .ok (.aload_n 0, 1) := by decide +kernel
theorem dX4_set_65 : decode cX4_set 65 = .ok (.getfield 10, 3) := by decide +kernel
theorem dX4_set_68 : decode cX4_set 68 = .ok (.getfield 104, 3) := by decide +kernel
end
section
theorem dX4_set_71 : decode cX4_set 71 = .ok (.iload_n 1, 1) := by decide +kernel
theorem dX4_set_72 : decode cX4_set 72 = .ok (.iaload, 1) := by decide +kernel
theorem dX4_set_73 : decode cX4_set 73 = .ok (.istore_n 3, 1) := by decide +kernel
theorem dX4_set_74 : decode cX4_set 74 = .ok (.aload_n 0, 1) := by decide +kernel
theorem dX4_set_75 : decode cX4_set 75 = .ok (.getfield 10, 3) := by decide +kernel
theorem dX4_set_78 : decode cX4_set 78 = .ok (.getfield 104, 3) := by decide +kernel
theorem dX4_set_81 : decode cX4_set 81 = .ok (.iload_n 1, 1) := by decide +kernel
theorem dX4_set_82 : decode cX4_set 82 = .ok (.iload_n 2, 1) := by decide +kernel
theorem dX4_set_83 : decode cX4_set 83 = .ok (.iastore, 1) := by decide +kernel
theorem dX4_set_84 : decode cX4_set 84 = .ok (.iload_n 3, 1) := by decide +kernel
theorem dX4_set_85 : decode cX4_set 85 = .ok (.ireturn, 1) := by decide +kernel
set_option maxRecDepth 20000 in
theorem ggX4_read_X4_isThread : GoodIn wsX4_read wsX4_isThread := goodIn_r _ [8, 9, 10, 7, 11] (by decide +kernel) (by decide +kernel)
set_option maxRecDepth 20000 in
theorem gX4_read_X4_isThread : GoodIn wsX4_read (va_wsS RX4 45 yX4_isThread wsX4_isThread) := goodIn_app (goodIn_of _ (by decide +kernel)) ggX4_read_X4_isThread
set_option maxRecDepth 20000 in
theorem ggX4_read_X1_push : GoodIn wsX4_read wsX1_push := goodIn_r _ [16, 17, 18, 19, 20, 21, 22, 23, 24, 25, 26, 27, 28, 29, 30, 31, 32, 33, 34, 35, 36, 37, 38, 39, 40, 41, 42, 43, 44, 45, 46, 47, 48, 49, 94, 95, 96, 97, 98, 99, 100, 101, 102, 103, 104, 105, 106, 107, 108, 109, 110, 111] (by decide +kernel) (by decide +kernel)
set_option maxRecDepth 20000 in
theorem gX4_read_X1_push : GoodIn wsX4_read (wsV RX4 59 RX1 yX1_push wsX1_push) := goodIn_app (goodIn_of _ (by decide +kernel)) ggX4_read_X1_push
set_option maxRecDepth 20000 in
theorem ggX4_read_X2_takeReading : GoodIn wsX4_read wsX2_takeReading := goodIn_r _ [53, 25, 30, 36, 54, 55, 56, 23, 57, 58, 59, 60, 61, 32, 62, 7, 63, 64, 65, 66, 67, 68, 69, 70, 71, 31, 72, 73, 74, 75, 34, 76, 77, 78, 79, 80, 81, 82, 83, 84, 85, 86, 97, 98, 99, 100, 101, 102, 103, 104] (by decide +kernel) (by decide +kernel)
set_option maxRecDepth 20000 in
theorem gX4_read_X2_takeReading : GoodIn wsX4_read (wsV RX4 107 RX2 yX2_takeReading wsX2_takeReading) := goodIn_app (goodIn_of _ (by decide +kernel)) ggX4_read_X2_takeReading
theorem dX4_read_0 : decode cX4_read 0 = .ok (.iload_n 1, 1) := by decide +kernel
theorem dX4_read_1 : decode cX4_read 1 = .ok (.invokestatic 45, 3) := by decide +kernel
theorem dX4_read_4 : decode cX4_read 4 = .ok (.ifCond .ne 13, 3) := by decide +kernel
theorem dX4_read_7 : decode cX4_read 7 = .ok (.new 52, 3) := by decide +kernel
theorem dX4_read_10 : decode cX4_read 10 = .ok (.dup, 1) := by decide +kernel
theorem dX4_read_11 : decode cX4_read 11 = .ok (.ldc 73, 2) := by decide +kernel
theorem dX4_read_13 : decode cX4_read 13 = .ok (.invokespecial 56, 3) := by decide +kernel
theorem dX4_read_16 : decode cX4_read 16 = .ok (.athrow, 1) := by decide +kernel
theorem dX4_read_17 : decode cX4_read 17 = .ok (.aload_n 0, 1) := by decide +kernel
theorem dX4_read_18 : decode cX4_read 18 = .ok (.getfield 22, 3) := by decide +kernel
theorem dX4_read_21 : decode cX4_read 21 = .ok (.aload_n 0, 1) := by decide +kernel
theorem dX4_read_22 : decode cX4_read 22 = .ok (.getfield 10, 3) := by decide +kernel
theorem dX4_read_25 : decode cX4_read 25 = .ok (.invokevirtual 59, 3) := by decide +kernel
theorem dX4_read_28 : decode cX4_read 28 = .ok (.aload_n 0, 1) := by decide +kernel
theorem dX4_read_29 : decode cX4_read 29 = .ok (.getfield 10, 3) := by decide +kernel
theorem dX4_read_32 : decode cX4_read 32 = .ok (.iload_n 1, 1) := by decide +kernel
theorem dX4_read_33 : decode cX4_read 33 = .ok (.invokevirtual 107, 3) := by decide +kernel
theorem dX4_read_36 : decode cX4_read 36 = .ok (.ireturn, 1) := by decide +kernel
set_option maxRecDepth 20000 in
theorem ggX4_start_X1_push : GoodIn wsX4_start wsX1_push := goodIn_r _ [9, 10, 11, 12, 13, 14, 15, 16, 17, 18, 19, 20, 21, 22, 23, 24, 25, 26, 27, 28, 29, 30, 31, 32, 33, 34, 35, 36, 37, 38, 39, 40, 41, 42, 69, 70, 71, 54, 55, 56, 57, 58, 59, 60, 61, 62, 63, 64, 65, 66, 67, 68] (by decide +kernel) (by decide +kernel)
set_option maxRecDepth 20000 in
theorem gX4_start_X1_push : GoodIn wsX4_start (wsV RX4 59 RX1 yX1_push wsX1_push) := goodIn_app (goodIn_of _ (by decide +kernel)) ggX4_start_X1_push
set_option maxRecDepth 20000 in
theorem ggX4_start_X0_begin : GoodIn wsX4_start wsX0_begin := goodIn_r _ [46, 35, 37, 38, 39, 40, 41, 42, 62, 63, 64, 65, 66, 67, 68] (by decide +kernel) (by decide +kernel)
set_option maxRecDepth 20000 in
theorem gX4_start_X0_begin : GoodIn wsX4_start (wsV RX4 119 RX0 yX0_begin wsX0_begin) := goodIn_app (goodIn_of _ (by decide +kernel)) ggX4_start_X0_begin
theorem dX4_start_0 : decode cX4_start 0 = .ok (.aload_n 0, 1) := by decide +kernel
theorem dX4_start_1 : decode cX4_start 1 = .ok (.getfield 22, 3) := by decide +kernel
theorem dX4_start_4 : decode cX4_start 4 = .ok (.aload_n 0, 1) := by decide +kernel
theorem dX4_start_5 : decode cX4_start 5 = .ok (.getfield 10, 3) := by decide +kernel
theorem dX4_start_8 : decode cX4_start 8 = .ok (.invokevirtual 59, 3) := by decide +kernel
theorem dX4_start_11 : decode cX4_start 11 = .ok (.aload_n 0, 1) := by decide +kernel
theorem dX4_start_12 : decode cX4_start 12 = .ok (.getfield 10, 3) := by decide +kernel
theorem dX4_start_15 : decode cX4_start 15 = .ok (.getfield 110, 3) := by decide +kernel
theorem dX4_start_18 : decode cX4_start 18 = .ok (.getfield 114, 3) := by decide +kernel
theorem dX4_start_21 : decode cX4_start 21 = .ok (.istore_n 1, 1) := by decide +kernel
theorem dX4_start_22 : decode cX4_start 22 = .ok (.aload_n 0, 1) := by decide +kernel
theorem dX4_start_23 : decode cX4_start 23 = .ok (.getfield 10, 3) := by decide +kernel
theorem dX4_start_26 : decode cX4_start 26 = .ok (.getfield 110, 3) := by decide +kernel
theorem dX4_start_29 : decode cX4_start 29 = .ok (.invokevirtual 119, 3) := by decide +kernel
theorem dX4_start_32 : decode cX4_start 32 = .ok (.iload_n 1, 1) := by decide +kernel
theorem dX4_start_33 : decode cX4_start 33 = .ok (.ireturn, 1) := by decide +kernel
set_option maxRecDepth 20000 in
theorem ggX4_go_X4_isWithin : GoodIn wsX4_go wsX4_isWithin := goodIn_r _ [8] (by decide +kernel) (by decide +kernel)
set_option maxRecDepth 20000 in
theorem gX4_go_X4_isWithin : GoodIn wsX4_go (va_wsS RX4 75 yX4_isWithin wsX4_isWithin) := goodIn_app (goodIn_of _ (by decide +kernel)) ggX4_go_X4_isWithin
set_option maxRecDepth 20000 in
theorem ggX4_go_X1_push : GoodIn wsX4_go wsX1_push := goodIn_r _ [13, 14, 15, 16, 17, 18, 19, 20, 21, 22, 23, 24, 25, 26, 27, 28, 29, 30, 31, 32, 33, 34, 35, 36, 37, 38, 39, 40, 41, 42, 43, 44, 45, 46, 105, 106, 107, 108, 109, 110, 111, 112, 113, 114, 115, 116, 117, 118, 119, 120, 121, 122] (by decide +kernel) (by decide +kernel)
set_option maxRecDepth 20000 in
theorem gX4_go_X1_push : GoodIn wsX4_go (wsV RX4 59 RX1 yX1_push wsX1_push) := goodIn_app (goodIn_of _ (by decide +kernel)) ggX4_go_X1_push
set_option maxRecDepth 20000 in
theorem ggX4_go_X2_run : GoodIn wsX4_go wsX2_run := goodIn_r _ [50, 30, 51, 52, 53, 54, 55, 20, 56, 22, 27, 33, 57, 58, 59, 60, 61, 62, 63, 64, 29, 65, 7, 66, 67, 68, 69, 70, 71, 72, 73, 74, 28, 75, 76, 77, 78, 31, 79, 80, 81, 82, 83, 84, 85, 86, 87, 88, 89, 90, 91, 92, 37, 93, 45, 42, 44, 43, 39, 94, 95, 96, 97, 41, 46, 108, 109, 110, 111, 112, 113, 114, 115, 116, 117, 118, 119, 120, 121, 122] (by decide +kernel) (by decide +kernel)
set_option maxRecDepth 20000 in
theorem gX4_go_X2_run : GoodIn wsX4_go (wsV RX4 124 RX2 yX2_run wsX2_run) := goodIn_app (goodIn_of _ (by decide +kernel)) ggX4_go_X2_run
theorem dX4_go_0 : decode cX4_go 0 = .ok (.iload_n 1, 1) := by decide +kernel
theorem dX4_go_1 : decode cX4_go 1 = .ok (.iconst 1, 1) := by decide +kernel
theorem dX4_go_2 : decode cX4_go 2 = .ok (.bipush 99, 2) := by decide +kernel
theorem dX4_go_4 : decode cX4_go 4 = .ok (.invokestatic 75, 3) := by decide +kernel
theorem dX4_go_7 : decode cX4_go 7 = .ok (.ifCond .ne 13, 3) := by decide +kernel
theorem dX4_go_10 : decode cX4_go 10 = .ok (.new 79, 3) := by decide +kernel
theorem dX4_go_13 : decode cX4_go 13 = .ok (.dup, 1) := by decide +kernel
theorem dX4_go_14 : decode cX4_go 14 = .ok (.ldc 122, 2) := by decide +kernel
theorem dX4_go_16 : decode cX4_go 16 = .ok (.invokespecial 83, 3) := by decide +kernel
theorem dX4_go_19 : decode cX4_go 19 = .ok (.athrow, 1) := by decide +kernel
theorem dX4_go_20 : decode cX4_go 20 = .ok (.aload_n 0, 1) := by decide +kernel
theorem dX4_go_21 : decode cX4_go 21 = .ok (.getfield 22, 3) := by decide +kernel
theorem dX4_go_24 : decode cX4_go 24 = .ok (.aload_n 0, 1) := by decide +kernel
theorem dX4_go_25 : decode cX4_go 25 = .ok (.getfield 10, 3) := by decide +kernel
theorem dX4_go_28 : decode cX4_go 28 = .ok (.invokevirtual 59, 3) := by decide +kernel
theorem dX4_go_31 : decode cX4_go 31 = .ok (.aload_n 0, 1) := by decide +kernel
theorem dX4_go_32 : decode cX4_go 32 = .ok (.getfield 10, 3) := by decide +kernel
theorem dX4_go_35 : decode cX4_go 35 = .ok (.iload_n 1, 1) := by decide +kernel
theorem dX4_go_36 : decode cX4_go 36 = .ok (.invokevirtual 124, 3) := by decide +kernel
theorem dX4_go_39 : decode cX4_go 39 = .ok (.ireturn, 1) := by decide +kernel
set_option maxRecDepth 20000 in
theorem ggX4_append_X4_isWithin : GoodIn wsX4_append wsX4_isWithin := goodIn_r _ [10] (by decide +kernel) (by decide +kernel)
set_option maxRecDepth 20000 in
theorem gX4_append_X4_isWithin : GoodIn wsX4_append (va_wsS RX4 75 yX4_isWithin wsX4_isWithin) := goodIn_app (goodIn_of _ (by decide +kernel)) ggX4_append_X4_isWithin
set_option maxRecDepth 20000 in
theorem ggX4_append_X3_put : GoodIn wsX4_append wsX3_put := goodIn_r _ [15, 16, 17, 25, 26, 27, 28, 29] (by decide +kernel) (by decide +kernel)
set_option maxRecDepth 20000 in
theorem gX4_append_X3_put : GoodIn wsX4_append (wsV RX4 137 RX3 yX3_put wsX3_put) := goodIn_app (goodIn_of _ (by decide +kernel)) ggX4_append_X3_put
theorem dX4_append_0 : decode cX4_append 0 = .ok (.iload_n 1, 1) := by decide +kernel
theorem dX4_append_1 : decode cX4_append 1 = .ok (.bipush 33, 2) := by decide +kernel
theorem dX4_append_3 : decode cX4_append 3 = .ok (.bipush 126, 2) := by decide +kernel
theorem dX4_append_5 : decode cX4_append 5 = .ok (.invokestatic 75, 3) := by decide +kernel
theorem dX4_append_8 : decode cX4_append 8 = .ok (.ifCond .ne 13, 3) := by decide +kernel
theorem dX4_append_11 : decode cX4_append 11 = .ok (.new 79, 3) := by decide +kernel
theorem dX4_append_14 : decode cX4_append 14 = .ok (.dup, 1) := by decide +kernel
theorem dX4_append_15 : decode cX4_append 15 = .ok (.ldc 127, 2) := by decide +kernel
theorem dX4_append_17 : decode cX4_append 17 = .ok (.invokespecial 83, 3) := by decide +kernel
theorem dX4_append_20 : decode cX4_append 20 = .ok (.athrow, 1) := by decide +kernel
theorem dX4_append_21 : decode cX4_append 21 = .ok (.aload_n 0, 1) := by decide +kernel
theorem dX4_append_22 : decode cX4_append 22 = .ok (.getfield 37, 3) := by decide +kernel
theorem dX4_append_25 : decode cX4_append 25 = .ok (.getfield 129, 3) := by decide +kernel
theorem dX4_append_28 : decode cX4_append 28 = .ok (.bipush 60, 2) := by decide +kernel
theorem dX4_append_30 : decode cX4_append 30 = .ok (.if_icmp .lt 13, 3) := by decide +kernel
theorem dX4_append_33 : decode cX4_append 33 = .ok (.new 132, 3) := by decide +kernel
theorem dX4_append_36 : decode cX4_append 36 = .ok (.dup, 1) := by decide +kernel
theorem dX4_append_37 : decode cX4_append 37 = .ok (.ldc 134, 2) := by decide +kernel
theorem dX4_append_39 : decode cX4_append 39 = .ok (.invokespecial 136, 3) := by decide +kernel
theorem dX4_append_42 : decode cX4_append 42 = .ok (.athrow, 1) := by decide +kernel
theorem dX4_append_43 : decode cX4_append 43 = .ok (.aload_n 0, 1) := by decide +kernel
theorem dX4_append_44 : decode cX4_append 44 = .ok (.getfield 37, 3) := by decide +kernel
theorem dX4_append_47 : decode cX4_append 47 = .ok (.iload_n 1, 1) := by decide +kernel
theorem dX4_append_48 : decode cX4_append 48 = .ok (.invokevirtual 137, 3) := by decide +kernel
theorem dX4_append_51 : decode cX4_append 51 = .ok (.aload_n 0, 1) := by decide +kernel
theorem dX4_append_52 : decode cX4_append 52 = .ok (.getfield 37, 3) := by decide +kernel
theorem dX4_append_55 : decode cX4_append 55 = .ok (.getfield 129, 3) := by decide +kernel
theorem dX4_append_58 : decode cX4_append 58 = .ok (.ireturn, 1) := by decide +kernel
theorem dX4_clearBuffer_0 : decode cX4_clearBuffer 0 = .ok (.aload_n 0, 1) := by decide +kernel
theorem dX4_clearBuffer_1 : decode cX4_clearBuffer 1 = .ok (.getfield 37, 3) := by decide +kernel
theorem dX4_clearBuffer_4 : decode cX4_clearBuffer 4 = .ok (.getfield 129, 3) := by decide +kernel
theorem dX4_clearBuffer_7 : decode cX4_clearBuffer 7 = .ok (.istore_n 1, 1) := by decide +kernel
theorem dX4_clearBuffer_8 : decode cX4_clearBuffer 8 = .ok (.aload_n 0, 1) := by decide +kernel
theorem dX4_clearBuffer_9 : decode cX4_clearBuffer 9 = .ok (.getfield 37, 3) := by decide +kernel
theorem dX4_clearBuffer_12 : decode cX4_clearBuffer 12 = .ok (.iconst 0, 1) := by decide +kernel
theorem dX4_clearBuffer_13 : decode cX4_clearBuffer 13 = .ok (.putfield 129, 3) := by decide +kernel
theorem dX4_clearBuffer_16 : decode cX4_clearBuffer 16 = .ok (.iload_n 1, 1) := by decide +kernel
theorem dX4_clearBuffer_17 : decode cX4_clearBuffer 17 = .ok (.ireturn, 1) := by decide +kernel
set_option maxRecDepth 20000 in
theorem ggX4_firstError_X3_parse : GoodIn wsX4_firstError wsX3_parse := goodIn_r _ [6, 7, 8, 9, 10, 11, 12, 13, 5, 14, 15, 16, 17, 18, 26, 27, 28, 29, 30] (by decide +kernel) (by decide +kernel)
set_option maxRecDepth 20000 in
theorem gX4_firstError_X3_parse : GoodIn wsX4_firstError (wsV RX4 141 RX3 yX3_parse wsX3_parse) := goodIn_app (goodIn_of _ (by decide +kernel)) ggX4_firstError_X3_parse
theorem dX4_firstError_0 : decode cX4_firstError 0 = .ok (.aload_n 0, 1) := by decide +kernel
theorem dX4_firstError_1 : decode cX4_firstError 1 = .ok (.getfield 37, 3) := by decide +kernel
theorem dX4_firstError_4 : decode cX4_firstError 4 = .ok (.invokevirtual 141, 3) := by decide +kernel
theorem dX4_firstError_7 : decode cX4_firstError 7 = .ok (.ireturn, 1) := by decide +kernel
set_option maxRecDepth 20000 in
theorem ggX4_load_X4_isThread : GoodIn wsX4_load wsX4_isThread := goodIn_r _ [14, 15, 16, 13, 17] (by decide +kernel) (by decide +kernel)
set_option maxRecDepth 20000 in
theorem gX4_load_X4_isThread : GoodIn wsX4_load (va_wsS RX4 45 yX4_isThread wsX4_isThread) := goodIn_app (goodIn_of _ (by decide +kernel)) ggX4_load_X4_isThread
set_option maxRecDepth 20000 in
theorem ggX4_load_X3_tellsProgram : GoodIn wsX4_load wsX3_tellsProgram := goodIn_r _ [22, 23, 24, 25, 26, 27, 21, 28, 29, 30, 31, 32, 33, 34, 35, 36, 37, 38, 109, 110, 111, 112, 113] (by decide +kernel) (by decide +kernel)
set_option maxRecDepth 20000 in
theorem gX4_load_X3_tellsProgram : GoodIn wsX4_load (wsV RX4 145 RX3 yX3_tellsProgram wsX3_tellsProgram) := goodIn_app (goodIn_of _ (by decide +kernel)) ggX4_load_X3_tellsProgram
set_option maxRecDepth 20000 in
theorem ggX4_load_X1_push : GoodIn wsX4_load wsX1_push := goodIn_r _ [43, 44, 45, 46, 47, 48, 49, 50, 51, 52, 53, 54, 55, 56, 57, 58, 59, 60, 61, 62, 63, 64, 65, 66, 67, 68, 69, 70, 71, 72, 73, 74, 75, 76, 114, 115, 116, 117, 118, 119, 120, 121, 122, 123, 124, 125, 126, 127, 128, 129, 130, 131] (by decide +kernel) (by decide +kernel)
set_option maxRecDepth 20000 in
theorem gX4_load_X1_push : GoodIn wsX4_load (wsV RX4 59 RX1 yX1_push wsX1_push) := goodIn_app (goodIn_of _ (by decide +kernel)) ggX4_load_X1_push
set_option maxRecDepth 20000 in
theorem ggX4_load_X2_asWord : GoodIn wsX4_load wsX2_asWord := goodIn_r _ [80, 59, 117, 118, 119, 120, 121, 122, 123, 124] (by decide +kernel) (by decide +kernel)
set_option maxRecDepth 20000 in
theorem gX4_load_X2_asWord : GoodIn wsX4_load (wsV RX4 84 RX2 yX2_asWord wsX2_asWord) := goodIn_app (goodIn_of _ (by decide +kernel)) ggX4_load_X2_asWord
set_option maxRecDepth 20000 in
theorem ggX4_load_X2_layThrough : GoodIn wsX4_load wsX2_layThrough := goodIn_r _ [84, 52, 62, 85, 86, 87, 50, 88, 58, 89, 90, 91, 92, 93, 13, 94, 95, 96, 97, 98, 99, 100, 101, 117, 118, 119, 120, 121, 122, 123, 124] (by decide +kernel) (by decide +kernel)
set_option maxRecDepth 20000 in
theorem gX4_load_X2_layThrough : GoodIn wsX4_load (wsV RX4 66 RX2 yX2_layThrough wsX2_layThrough) := goodIn_app (goodIn_of _ (by decide +kernel)) ggX4_load_X2_layThrough
theorem dX4_load_0 : decode cX4_load 0 = .ok (.iload_n 1, 1) := by decide +kernel
theorem dX4_load_1 : decode cX4_load 1 = .ok (.invokestatic 45, 3) := by decide +kernel
theorem dX4_load_4 : decode cX4_load 4 = .ok (.ifCond .ne 13, 3) := by decide +kernel
theorem dX4_load_7 : decode cX4_load 7 = .ok (.new 52, 3) := by decide +kernel
theorem dX4_load_10 : decode cX4_load 10 = .ok (.dup, 1) := by decide +kernel
theorem dX4_load_11 : decode cX4_load 11 = .ok (.ldc 73, 2) := by decide +kernel
theorem dX4_load_13 : decode cX4_load 13 = .ok (.invokespecial 56, 3) := by decide +kernel
theorem dX4_load_16 : decode cX4_load 16 = .ok (.athrow, 1) := by decide +kernel
theorem dX4_load_17 : decode cX4_load 17 = .ok (.aload_n 0, 1) := by decide +kernel
theorem dX4_load_18 : decode cX4_load 18 = .ok (.getfield 37, 3) := by decide +kernel
theorem dX4_load_21 : decode cX4_load 21 = .ok (.invokevirtual 145, 3) := by decide +kernel
theorem dX4_load_24 : decode cX4_load 24 = .ok (.ifCond .ne 13, 3) := by decide +kernel
theorem dX4_load_27 : decode cX4_load 27 = .ok (.new 79, 3) := by decide +kernel
theorem dX4_load_30 : decode cX4_load 30 = .ok (.dup, 1) := by decide +kernel
theorem dX4_load_31 : decode cX4_load 31 = .ok (.ldc 149, 2) := by decide +kernel
theorem dX4_load_33 : decode cX4_load 33 = .ok (.invokespecial 83, 3) := by decide +kernel
theorem dX4_load_36 : decode cX4_load 36 = .ok (.athrow, 1) := by decide +kernel
theorem dX4_load_37 : decode cX4_load 37 = .ok (.aload_n 0, 1) := by decide +kernel
theorem dX4_load_38 : decode cX4_load 38 = .ok (.getfield 22, 3) := by decide +kernel
theorem dX4_load_41 : decode cX4_load 41 = .ok (.aload_n 0, 1) := by decide +kernel
theorem dX4_load_42 : decode cX4_load 42 = .ok (.getfield 10, 3) := by decide +kernel
theorem dX4_load_45 : decode cX4_load 45 = .ok (.invokevirtual 59, 3) := by decide +kernel
theorem dX4_load_48 : decode cX4_load 48 = .ok (.iconst 0, 1) := by decide +kernel
theorem dX4_load_49 : decode cX4_load 49 = .ok (.istore_n 2, 1) := by decide +kernel
theorem dX4_load_50 : decode cX4_load 50 = .ok (.iconst 0, 1) := by decide +kernel
theorem dX4_load_51 : decode cX4_load 51 = .ok (.istore_n 3, 1) := by decide +kernel
theorem dX4_load_52 : decode cX4_load 52 = .ok (.iload_n 3, 1) := by decide +kernel
theorem dX4_load_53 : decode cX4_load 53 = .ok (.aload_n 0, 1) := by decide +kernel
theorem dX4_load_54 : decode cX4_load 54 = .ok (.getfield 37, 3) := by decide +kernel
theorem dX4_load_57 : decode cX4_load 57 = .ok (.getfield 151, 3) := by decide +kernel
theorem dX4_load_60 : decode cX4_load 60 = .ok (.if_icmp .ge 41, 3) := by decide +kernel
theorem dX4_load_63 : decode cX4_load 63 = .ok (.iload_n 2, 1) := by decide +kernel
theorem dX4_load_64 : decode cX4_load 64 = .ok (.aload_n 0, 1) := by decide +kernel
theorem dX4_load_65 : decode cX4_load 65 = .ok (.getfield 10, 3) := by decide +kernel
theorem dX4_load_68 : decode cX4_load 68 = .ok (.iload_n 1, 1) := by decide +kernel
theorem dX4_load_69 : decode cX4_load 69 = .ok (.iload_n 3, 1) := by decide +kernel
theorem dX4_load_70 : decode cX4_load 70 = .ok (.iadd, 1) := by decide +kernel
theorem dX4_load_71 : decode cX4_load 71 = .ok (.bipush 16, 2) := by decide +kernel
theorem dX4_load_73 : decode cX4_load 73 = .ok (.irem, 1) := by decide +kernel
theorem dX4_load_74 : decode cX4_load 74 = .ok (.aload_n 0, 1) := by decide +kernel
theorem dX4_load_75 : decode cX4_load 75 = .ok (.getfield 10, 3) := by decide +kernel
theorem dX4_load_78 : decode cX4_load 78 = .ok (.aload_n 0, 1) := by decide +kernel
theorem dX4_load_79 : decode cX4_load 79 = .ok (.getfield 37, 3) := by decide +kernel
theorem dX4_load_82 : decode cX4_load 82 = .ok (.getfield 154, 3) := by decide +kernel
theorem dX4_load_85 : decode cX4_load 85 = .ok (.iload_n 3, 1) := by decide +kernel
theorem dX4_load_86 : decode cX4_load 86 = .ok (.iaload, 1) := by decide +kernel
theorem dX4_load_87 : decode cX4_load 87 = .ok (.invokevirtual 84, 3) := by decide +kernel
theorem dX4_load_90 : decode cX4_load 90 = .ok (.invokevirtual 66, 3) := by decide +kernel
theorem dX4_load_93 : decode cX4_load 93 = .ok (.iadd, 1) := by decide +kernel
theorem dX4_load_94 : decode cX4_load 94 = .ok (.istore_n 2, 1) := by decide +kernel
theorem dX4_load_95 : decode cX4_load 95 = .ok (.iinc 3 1, 3) := by decide +kernel
theorem dX4_load_98 : decode cX4_load 98 = .ok (.goto (-46), 3) := by decide +kernel
theorem dX4_load_101 : decode cX4_load 101 = .ok (.aload_n 0, 1) := by decide +kernel
theorem dX4_load_102 : decode cX4_load 102 = .ok (.getfield 37, 3) := by decide +kernel
theorem dX4_load_105 : decode cX4_load 105 = .ok (.iconst 0, 1) := by decide +kernel
theorem dX4_load_106 : decode cX4_load 106 = .ok (.putfield 129, 3) := by decide +kernel
theorem dX4_load_109 : decode cX4_load 109 = .ok (.iload_n 2, 1) := by decide +kernel
theorem dX4_load_110 : decode cX4_load 110 = .ok (.ireturn, 1) := by decide +kernel
set_option maxRecDepth 20000 in
theorem ggX4_write_X4_isThread : GoodIn wsX4_write wsX4_isThread := goodIn_r _ [9, 10, 11, 8, 12] (by decide +kernel) (by decide +kernel)
set_option maxRecDepth 20000 in
theorem gX4_write_X4_isThread : GoodIn wsX4_write (va_wsS RX4 45 yX4_isThread wsX4_isThread) := goodIn_app (goodIn_of _ (by decide +kernel)) ggX4_write_X4_isThread
set_option maxRecDepth 20000 in
theorem ggX4_write_X2_tells : GoodIn wsX4_write wsX2_tells := goodIn_r _ [17, 18, 19, 20, 16, 21, 22, 23, 24, 8, 25, 26, 27, 28, 29, 30, 31, 32, 33, 34, 35, 36, 37, 38, 39, 40, 41, 42, 43, 70, 71, 72, 73, 74, 75, 76, 77] (by decide +kernel) (by decide +kernel)
set_option maxRecDepth 20000 in
theorem gX4_write_X2_tells : GoodIn wsX4_write (wsV RX4 159 RX2 yX2_tells wsX2_tells) := goodIn_app (goodIn_of _ (by decide +kernel)) ggX4_write_X2_tells
set_option maxRecDepth 20000 in
theorem ggX4_write_X3_putWord : GoodIn wsX4_write wsX3_putWord := goodIn_r _ [48, 49, 50, 47, 51, 52, 53, 54, 55, 56, 57, 65, 66, 67, 68, 69] (by decide +kernel) (by decide +kernel)
set_option maxRecDepth 20000 in
theorem gX4_write_X3_putWord : GoodIn wsX4_write (wsV RX4 162 RX3 yX3_putWord wsX3_putWord) := goodIn_app (goodIn_of _ (by decide +kernel)) ggX4_write_X3_putWord
theorem dX4_write_0 : decode cX4_write 0 = .ok (.iload_n 1, 1) := by decide +kernel
theorem dX4_write_1 : decode cX4_write 1 = .ok (.invokestatic 45, 3) := by decide +kernel
theorem dX4_write_4 : decode cX4_write 4 = .ok (.ifCond .eq 15, 3) := by decide +kernel
theorem dX4_write_7 : decode cX4_write 7 = .ok (.iload_n 2, 1) := by decide +kernel
theorem dX4_write_8 : decode cX4_write 8 = .ok (.invokestatic 45, 3) := by decide +kernel
theorem dX4_write_11 : decode cX4_write 11 = .ok (.ifCond .eq 8, 3) := by decide +kernel
theorem dX4_write_14 : decode cX4_write 14 = .ok (.iload_n 2, 1) := by decide +kernel
theorem dX4_write_15 : decode cX4_write 15 = .ok (.iload_n 1, 1) := by decide +kernel
theorem dX4_write_16 : decode cX4_write 16 = .ok (.if_icmp .ge 13, 3) := by decide +kernel
theorem dX4_write_19 : decode cX4_write 19 = .ok (.new 52, 3) := by decide +kernel
theorem dX4_write_22 : decode cX4_write 22 = .ok (.dup, 1) := by decide +kernel
theorem dX4_write_23 : decode cX4_write 23 = .ok (.ldc 157, 2) := by decide +kernel
theorem dX4_write_25 : decode cX4_write 25 = .ok (.invokespecial 56, 3) := by decide +kernel
theorem dX4_write_28 : decode cX4_write 28 = .ok (.athrow, 1) := by decide +kernel
theorem dX4_write_29 : decode cX4_write 29 = .ok (.aload_n 0, 1) := by decide +kernel
theorem dX4_write_30 : decode cX4_write 30 = .ok (.getfield 37, 3) := by decide +kernel
theorem dX4_write_33 : decode cX4_write 33 = .ok (.iconst 0, 1) := by decide +kernel
theorem dX4_write_34 : decode cX4_write 34 = .ok (.putfield 129, 3) := by decide +kernel
theorem dX4_write_37 : decode cX4_write 37 = .ok (.iload_n 1, 1) := by decide +kernel
theorem dX4_write_38 : decode cX4_write 38 = .ok (.istore_n 3, 1) := by decide +kernel
theorem dX4_write_39 : decode cX4_write 39 = .ok (.iload_n 3, 1) := by decide +kernel
theorem dX4_write_40 : decode cX4_write 40 = .ok (.iload_n 2, 1) := by decide +kernel
theorem dX4_write_41 : decode cX4_write 41 = .ok (.if_icmp .gt 24, 3) := by decide +kernel
theorem dX4_write_44 : decode cX4_write 44 = .ok (.aload_n 0, 1) := by decide +kernel
theorem dX4_write_45 : decode cX4_write 45 = .ok (.getfield 37, 3) := by decide +kernel
theorem dX4_write_48 : decode cX4_write 48 = .ok (.aload_n 0, 1) := by decide +kernel
theorem dX4_write_49 : decode cX4_write 49 = .ok (.getfield 10, 3) := by decide +kernel
theorem dX4_write_52 : decode cX4_write 52 = .ok (.iload_n 3, 1) := by decide +kernel
theorem dX4_write_53 : decode cX4_write 53 = .ok (.invokevirtual 159, 3) := by decide +kernel
theorem dX4_write_56 : decode cX4_write 56 = .ok (.invokevirtual 162, 3) := by decide +kernel
theorem dX4_write_59 : decode cX4_write 59 = .ok (.iinc 3 1, 3) := by decide +kernel
theorem dX4_write_62 : decode cX4_write 62 = .ok (.goto (-23), 3) := by decide +kernel
theorem dX4_write_65 : decode cX4_write 65 = .ok (.aload_n 0, 1) := by decide +kernel
theorem dX4_write_66 : decode cX4_write 66 = .ok (.getfield 37, 3) := by decide +kernel
theorem dX4_write_69 : decode cX4_write 69 = .ok (.getfield 129, 3) := by decide +kernel
theorem dX4_write_72 : decode cX4_write 72 = .ok (.ireturn, 1) := by decide +kernel
set_option maxRecDepth 20000 in
theorem ggX4_keep_X4_isSlot : GoodIn wsX4_keep wsX4_isSlot := goodIn_r _ [9, 10, 11, 8, 12] (by decide +kernel) (by decide +kernel)
set_option maxRecDepth 20000 in
theorem gX4_keep_X4_isSlot : GoodIn wsX4_keep (va_wsS RX4 165 yX4_isSlot wsX4_isSlot) := goodIn_app (goodIn_of _ (by decide +kernel)) ggX4_keep_X4_isSlot
set_option maxRecDepth 20000 in
theorem ggX4_keep_X2_become : GoodIn wsX4_keep wsX2_become := goodIn_r _ [17, 18, 19, 20, 21, 22, 23, 24, 25, 26, 27, 28, 29, 30, 31, 32, 33, 34, 35, 36, 37, 38, 39, 40, 41, 42, 61, 62, 63, 64, 65, 66, 67, 68, 69, 70, 71, 72, 73, 74, 75] (by decide +kernel) (by decide +kernel)
set_option maxRecDepth 20000 in
theorem gX4_keep_X2_become : GoodIn wsX4_keep (wsV RX4 170 RX2 yX2_become wsX2_become) := goodIn_app (goodIn_of _ (by decide +kernel)) ggX4_keep_X2_become
set_option maxRecDepth 20000 in
theorem ggX4_keep_X2_crossingsByThreads : GoodIn wsX4_keep wsX2_crossingsByThreads := goodIn_r _ [46, 18, 47, 48, 49, 50, 51, 52, 53, 61, 62, 63, 64, 65, 66, 67, 68] (by decide +kernel) (by decide +kernel)
set_option maxRecDepth 20000 in
theorem gX4_keep_X2_crossingsByThreads : GoodIn wsX4_keep (wsV RX4 173 RX2 yX2_crossingsByThreads wsX2_crossingsByThreads) := goodIn_app (goodIn_of _ (by decide +kernel)) ggX4_keep_X2_crossingsByThreads
theorem dX4_keep_0 : decode cX4_keep 0 = .ok (.iload_n 1, 1) := by decide +kernel
theorem dX4_keep_1 : decode cX4_keep 1 = .ok (.invokestatic 165, 3) := by decide +kernel
theorem dX4_keep_4 : decode cX4_keep 4 = .ok (.ifCond .ne 13, 3) := by decide +kernel
theorem dX4_keep_7 : decode cX4_keep 7 = .ok (.new 79, 3) := by decide +kernel
theorem dX4_keep_10 : decode cX4_keep 10 = .ok (.dup, 1) := by decide +kernel
theorem dX4_keep_11 : decode cX4_keep 11 = .ok (.ldc 168, 2) := by decide +kernel
theorem dX4_keep_13 : decode cX4_keep 13 = .ok (.invokespecial 83, 3) := by decide +kernel
theorem dX4_keep_16 : decode cX4_keep 16 = .ok (.athrow, 1) := by decide +kernel
theorem dX4_keep_17 : decode cX4_keep 17 = .ok (.aload_n 0, 1) := by decide +kernel
theorem dX4_keep_18 : decode cX4_keep 18 = .ok (.getfield 26, 3) := by decide +kernel
theorem dX4_keep_21 : decode cX4_keep 21 = .ok (.iload_n 1, 1) := by decide +kernel
theorem dX4_keep_22 : decode cX4_keep 22 = .ok (.aaload, 1) := by decide +kernel
theorem dX4_keep_23 : decode cX4_keep 23 = .ok (.aload_n 0, 1) := by decide +kernel
theorem dX4_keep_24 : decode cX4_keep 24 = .ok (.getfield 10, 3) := by decide +kernel
theorem dX4_keep_27 : decode cX4_keep 27 = .ok (.invokevirtual 170, 3) := by decide +kernel
theorem dX4_keep_30 : decode cX4_keep 30 = .ok (.aload_n 0, 1) := by decide +kernel
theorem dX4_keep_31 : decode cX4_keep 31 = .ok (.getfield 30, 3) := by decide +kernel
theorem dX4_keep_34 : decode cX4_keep 34 = .ok (.iload_n 1, 1) := by decide +kernel
theorem dX4_keep_35 : decode cX4_keep 35 = .ok (.iconst 1, 1) := by decide +kernel
theorem dX4_keep_36 : decode cX4_keep 36 = .ok (.bastore, 1) := by decide +kernel
theorem dX4_keep_37 : decode cX4_keep 37 = .ok (.aload_n 0, 1) := by decide +kernel
theorem dX4_keep_38 : decode cX4_keep 38 = .ok (.getfield 10, 3) := by decide +kernel
theorem dX4_keep_41 : decode cX4_keep 41 = .ok (.invokevirtual 173, 3) := by decide +kernel
theorem dX4_keep_44 : decode cX4_keep 44 = .ok (.ireturn, 1) := by decide +kernel
set_option maxRecDepth 20000 in
theorem ggX4_goBack_X4_isSlot : GoodIn wsX4_goBack wsX4_isSlot := goodIn_r _ [12, 13, 14, 11, 15] (by decide +kernel) (by decide +kernel)
set_option maxRecDepth 20000 in
theorem gX4_goBack_X4_isSlot : GoodIn wsX4_goBack (va_wsS RX4 165 yX4_isSlot wsX4_isSlot) := goodIn_app (goodIn_of _ (by decide +kernel)) ggX4_goBack_X4_isSlot
set_option maxRecDepth 20000 in
theorem ggX4_goBack_X1_push : GoodIn wsX4_goBack wsX1_push := goodIn_r _ [20, 21, 22, 23, 24, 25, 26, 27, 28, 29, 30, 31, 32, 33, 34, 35, 36, 37, 38, 39, 40, 41, 42, 43, 44, 45, 46, 47, 48, 49, 50, 51, 52, 53, 73, 74, 75, 76, 77, 78, 79, 80, 81, 82, 83, 84, 85, 86, 87, 88, 89, 90] (by decide +kernel) (by decide +kernel)
set_option maxRecDepth 20000 in
theorem gX4_goBack_X1_push : GoodIn wsX4_goBack (wsV RX4 59 RX1 yX1_push wsX1_push) := goodIn_app (goodIn_of _ (by decide +kernel)) ggX4_goBack_X1_push
set_option maxRecDepth 20000 in
theorem ggX4_goBack_X2_become : GoodIn wsX4_goBack wsX2_become := goodIn_r _ [28, 29, 30, 31, 32, 33, 34, 35, 36, 37, 38, 39, 40, 41, 42, 43, 44, 45, 46, 47, 48, 49, 50, 51, 52, 53, 76, 77, 78, 79, 80, 81, 82, 83, 84, 85, 86, 87, 88, 89, 90] (by decide +kernel) (by decide +kernel)
set_option maxRecDepth 20000 in
theorem gX4_goBack_X2_become : GoodIn wsX4_goBack (wsV RX4 170 RX2 yX2_become wsX2_become) := goodIn_app (goodIn_of _ (by decide +kernel)) ggX4_goBack_X2_become
set_option maxRecDepth 20000 in
theorem ggX4_goBack_X2_crossingsByThreads : GoodIn wsX4_goBack wsX2_crossingsByThreads := goodIn_r _ [58, 29, 59, 60, 61, 62, 63, 64, 65, 76, 77, 78, 79, 80, 81, 82, 83] (by decide +kernel) (by decide +kernel)
set_option maxRecDepth 20000 in
theorem gX4_goBack_X2_crossingsByThreads : GoodIn wsX4_goBack (wsV RX4 173 RX2 yX2_crossingsByThreads wsX2_crossingsByThreads) := goodIn_app (goodIn_of _ (by decide +kernel)) ggX4_goBack_X2_crossingsByThreads
theorem dX4_goBack_0 : decode cX4_goBack 0 = .ok (.iload_n 1, 1) := by decide +kernel
theorem dX4_goBack_1 : decode cX4_goBack 1 = .ok (.invokestatic 165, 3) := by decide +kernel
theorem dX4_goBack_4 : decode cX4_goBack 4 = .ok (.ifCond .ne 13, 3) := by decide +kernel
theorem dX4_goBack_7 : decode cX4_goBack 7 = .ok (.new 79, 3) := by decide +kernel
theorem dX4_goBack_10 : decode cX4_goBack 10 = .ok (.dup, 1) := by decide +kernel
theorem dX4_goBack_11 : decode cX4_goBack 11 = .ok (.ldc 168, 2) := by decide +kernel
theorem dX4_goBack_13 : decode cX4_goBack 13 = .ok (.invokespecial 83, 3) := by decide +kernel
theorem dX4_goBack_16 : decode cX4_goBack 16 = .ok (.athrow, 1) := by decide +kernel
theorem dX4_goBack_17 : decode cX4_goBack 17 = .ok (.aload_n 0, 1) := by decide +kernel
theorem dX4_goBack_18 : decode cX4_goBack 18 = .ok (.getfield 30, 3) := by decide +kernel
theorem dX4_goBack_21 : decode cX4_goBack 21 = .ok (.iload_n 1, 1) := by decide +kernel
theorem dX4_goBack_22 : decode cX4_goBack 22 = .ok (.baload, 1) := by decide +kernel
theorem dX4_goBack_23 : decode cX4_goBack 23 = .ok (.ifCond .ne 13, 3) := by decide +kernel
theorem dX4_goBack_26 : decode cX4_goBack 26 = .ok (.new 132, 3) := by decide +kernel
theorem dX4_goBack_29 : decode cX4_goBack 29 = .ok (.dup, 1) := by decide +kernel
theorem dX4_goBack_30 : decode cX4_goBack 30 = .ok (.ldc 176, 2) := by decide +kernel
theorem dX4_goBack_32 : decode cX4_goBack 32 = .ok (.invokespecial 136, 3) := by decide +kernel
theorem dX4_goBack_35 : decode cX4_goBack 35 = .ok (.athrow, 1) := by decide +kernel
theorem dX4_goBack_36 : decode cX4_goBack 36 = .ok (.aload_n 0, 1) := by decide +kernel
theorem dX4_goBack_37 : decode cX4_goBack 37 = .ok (.getfield 22, 3) := by decide +kernel
theorem dX4_goBack_40 : decode cX4_goBack 40 = .ok (.aload_n 0, 1) := by decide +kernel
theorem dX4_goBack_41 : decode cX4_goBack 41 = .ok (.getfield 10, 3) := by decide +kernel
theorem dX4_goBack_44 : decode cX4_goBack 44 = .ok (.invokevirtual 59, 3) := by decide +kernel
theorem dX4_goBack_47 : decode cX4_goBack 47 = .ok (.aload_n 0, 1) := by decide +kernel
theorem dX4_goBack_48 : decode cX4_goBack 48 = .ok (.getfield 10, 3) := by decide +kernel
theorem dX4_goBack_51 : decode cX4_goBack 51 = .ok (.aload_n 0, 1) := by decide +kernel
theorem dX4_goBack_52 : decode cX4_goBack 52 = .ok (.getfield 26, 3) := by decide +kernel
theorem dX4_goBack_55 : decode cX4_goBack 55 = .ok (.iload_n 1, 1) := by decide +kernel
theorem dX4_goBack_56 : decode cX4_goBack 56 = .ok (.aaload, 1) := by decide +kernel
theorem dX4_goBack_57 : decode cX4_goBack 57 = .ok (.invokevirtual 170, 3) := by decide +kernel
theorem dX4_goBack_60 : decode cX4_goBack 60 = .ok (.aload_n 0, 1) := by decide +kernel
theorem dX4_goBack_61 : decode cX4_goBack 61 = .ok (.getfield 10, 3) := by decide +kernel
theorem dX4_goBack_64 : decode cX4_goBack 64 = .ok (.invokevirtual 173, 3) := by decide +kernel
theorem dX4_goBack_67 : decode cX4_goBack 67 = .ok (.ireturn, 1) := by decide +kernel
set_option maxRecDepth 20000 in
theorem ggX4_undo_X1_popInto : GoodIn wsX4_undo wsX1_popInto := goodIn_r _ [10, 11, 12, 13, 14, 15, 16, 17, 18, 19, 20, 21, 22, 23, 24, 25, 26, 27, 28, 29, 30, 31, 32, 33, 34, 35, 36, 37, 38, 39, 40, 41, 42, 43, 51, 52, 53, 54, 55, 56, 57, 58, 59, 60, 61, 62, 63, 64, 65, 66, 67, 68] (by decide +kernel) (by decide +kernel)
set_option maxRecDepth 20000 in
theorem gX4_undo_X1_popInto : GoodIn wsX4_undo (wsV RX4 183 RX1 yX1_popInto wsX1_popInto) := goodIn_app (goodIn_of _ (by decide +kernel)) ggX4_undo_X1_popInto
theorem dX4_undo_0 : decode cX4_undo 0 = .ok (.aload_n 0, 1) := by decide +kernel
theorem dX4_undo_1 : decode cX4_undo 1 = .ok (.getfield 22, 3) := by decide +kernel
theorem dX4_undo_4 : decode cX4_undo 4 = .ok (.getfield 178, 3) := by decide +kernel
theorem dX4_undo_7 : decode cX4_undo 7 = .ok (.ifCond .ne 13, 3) := by decide +kernel
theorem dX4_undo_10 : decode cX4_undo 10 = .ok (.new 132, 3) := by decide +kernel
theorem dX4_undo_13 : decode cX4_undo 13 = .ok (.dup, 1) := by decide +kernel
theorem dX4_undo_14 : decode cX4_undo 14 = .ok (.ldc 181, 2) := by decide +kernel
theorem dX4_undo_16 : decode cX4_undo 16 = .ok (.invokespecial 136, 3) := by decide +kernel
theorem dX4_undo_19 : decode cX4_undo 19 = .ok (.athrow, 1) := by decide +kernel
theorem dX4_undo_20 : decode cX4_undo 20 = .ok (.aload_n 0, 1) := by decide +kernel
theorem dX4_undo_21 : decode cX4_undo 21 = .ok (.getfield 22, 3) := by decide +kernel
theorem dX4_undo_24 : decode cX4_undo 24 = .ok (.aload_n 0, 1) := by decide +kernel
theorem dX4_undo_25 : decode cX4_undo 25 = .ok (.getfield 10, 3) := by decide +kernel
theorem dX4_undo_28 : decode cX4_undo 28 = .ok (.invokevirtual 183, 3) := by decide +kernel
theorem dX4_undo_31 : decode cX4_undo 31 = .ok (.aload_n 0, 1) := by decide +kernel
theorem dX4_undo_32 : decode cX4_undo 32 = .ok (.getfield 22, 3) := by decide +kernel
theorem dX4_undo_35 : decode cX4_undo 35 = .ok (.getfield 178, 3) := by decide +kernel
theorem dX4_undo_38 : decode cX4_undo 38 = .ok (.ireturn, 1) := by decide +kernel
set_option maxRecDepth 20000 in
theorem ggX4_threadOf_X4_isThread : GoodIn wsX4_threadOf wsX4_isThread := goodIn_r _ [12, 13, 14, 11, 15] (by decide +kernel) (by decide +kernel)
set_option maxRecDepth 20000 in
theorem gX4_threadOf_X4_isThread : GoodIn wsX4_threadOf (va_wsS RX4 45 yX4_isThread wsX4_isThread) := goodIn_app (goodIn_of _ (by decide +kernel)) ggX4_threadOf_X4_isThread
set_option maxRecDepth 20000 in
theorem ggX4_threadOf_X4_bit : GoodIn wsX4_threadOf wsX4_bit := goodIn_r _ [18] (by decide +kernel) (by decide +kernel)
set_option maxRecDepth 20000 in
theorem gX4_threadOf_X4_bit : GoodIn wsX4_threadOf (va_wsS RX4 70 yX4_bit wsX4_bit) := goodIn_app (goodIn_of _ (by decide +kernel)) ggX4_threadOf_X4_bit
set_option maxRecDepth 20000 in
theorem ggX4_threadOf_X2_means : GoodIn wsX4_threadOf wsX2_means := goodIn_r _ [23, 24, 25, 26, 27, 22, 28, 29, 67, 68, 69, 70, 71, 72, 73, 74] (by decide +kernel) (by decide +kernel)
set_option maxRecDepth 20000 in
theorem gX4_threadOf_X2_means : GoodIn wsX4_threadOf (wsV RX4 186 RX2 yX2_means wsX2_means) := goodIn_app (goodIn_of _ (by decide +kernel)) ggX4_threadOf_X2_means
set_option maxRecDepth 20000 in
theorem ggX4_threadOf_X2_tells : GoodIn wsX4_threadOf wsX2_tells := goodIn_r _ [33, 34, 35, 36, 22, 37, 24, 29, 17, 11, 18, 38, 39, 40, 41, 42, 43, 44, 45, 46, 47, 48, 49, 50, 51, 25, 26, 27, 28, 67, 68, 69, 70, 71, 72, 73, 74] (by decide +kernel) (by decide +kernel)
set_option maxRecDepth 20000 in
theorem gX4_threadOf_X2_tells : GoodIn wsX4_threadOf (wsV RX4 159 RX2 yX2_tells wsX2_tells) := goodIn_app (goodIn_of _ (by decide +kernel)) ggX4_threadOf_X2_tells
set_option maxRecDepth 20000 in
theorem ggX4_threadOf_J6_bitCount_0f7a4 : GoodIn wsX4_threadOf wsJ6_bitCount_0f7a4 := goodIn_r _ [55, 56, 57, 58] (by decide +kernel) (by decide +kernel)
set_option maxRecDepth 20000 in
theorem gX4_threadOf_J6_bitCount_0f7a4 : GoodIn wsX4_threadOf (va_wsS RX4 189 yJ6_bitCount_0f7a4 wsJ6_bitCount_0f7a4) := goodIn_app (goodIn_of _ (by decide +kernel)) ggX4_threadOf_J6_bitCount_0f7a4
set_option maxRecDepth 20000 in
theorem ggX4_threadOf_X2_answering : GoodIn wsX4_threadOf wsX2_answering := goodIn_r _ [37, 24, 29, 17, 11, 18, 38, 39, 40, 22, 41, 42, 43, 44, 45, 46, 47, 48, 49, 50, 51, 67, 68, 69, 70, 71, 72, 73, 74] (by decide +kernel) (by decide +kernel)
set_option maxRecDepth 20000 in
theorem gX4_threadOf_X2_answering : GoodIn wsX4_threadOf (wsV RX4 194 RX2 yX2_answering wsX2_answering) := goodIn_app (goodIn_of _ (by decide +kernel)) ggX4_threadOf_X2_answering
theorem dX4_threadOf_0 : decode cX4_threadOf 0 = .ok (.iload_n 1, 1) := by decide +kernel
theorem dX4_threadOf_1 : decode cX4_threadOf 1 = .ok (.invokestatic 45, 3) := by decide +kernel
theorem dX4_threadOf_4 : decode cX4_threadOf 4 = .ok (.ifCond .ne 13, 3) := by decide +kernel
theorem dX4_threadOf_7 : decode cX4_threadOf 7 = .ok (.new 52, 3) := by decide +kernel
theorem dX4_threadOf_10 : decode cX4_threadOf 10 = .ok (.dup, 1) := by decide +kernel
theorem dX4_threadOf_11 : decode cX4_threadOf 11 = .ok (.ldc 73, 2) := by decide +kernel
theorem dX4_threadOf_13 : decode cX4_threadOf 13 = .ok (.invokespecial 56, 3) := by decide +kernel
theorem dX4_threadOf_16 : decode cX4_threadOf 16 = .ok (.athrow, 1) := by decide +kernel
theorem dX4_threadOf_17 : decode cX4_threadOf 17 = .ok (.iload_n 2, 1) := by decide +kernel
theorem dX4_threadOf_18 : decode cX4_threadOf 18 = .ok (.tableswitch 159 0 7 #[46, 56, 68, 77, 86, 107, 128, 149], 46) := by decide +kernel
theorem dX4_threadOf_64 : decode cX4_threadOf 64 = .ok (.aload_n 0, 1) := by decide +kernel
theorem dX4_threadOf_65 : decode cX4_threadOf 65 = .ok (.getfield 10, 3) := by decide +kernel
theorem dX4_threadOf_68 : decode cX4_threadOf 68 = .ok (.getfield 63, 3) := by decide +kernel
theorem dX4_threadOf_71 : decode cX4_threadOf 71 = .ok (.iload_n 1, 1) := by decide +kernel
theorem dX4_threadOf_72 : decode cX4_threadOf 72 = .ok (.iaload, 1) := by decide +kernel
theorem dX4_threadOf_73 : decode cX4_threadOf 73 = .ok (.ireturn, 1) := by decide +kernel
theorem dX4_threadOf_74 : decode cX4_threadOf 74 = .ok (.aload_n 0, 1) := by decide +kernel
theorem dX4_threadOf_75 : decode cX4_threadOf 75 = .ok (.getfield 10, 3) := by decide +kernel
theorem dX4_threadOf_78 : decode cX4_threadOf 78 = .ok (.getfield 88, 3) := by decide +kernel
theorem dX4_threadOf_81 : decode cX4_threadOf 81 = .ok (.iload_n 1, 1) := by decide +kernel
theorem dX4_threadOf_82 : decode cX4_threadOf 82 = .ok (.invokestatic 70, 3) := by decide +kernel
theorem dX4_threadOf_85 : decode cX4_threadOf 85 = .ok (.ireturn, 1) := by decide +kernel
theorem dX4_threadOf_86 : decode cX4_threadOf 86 = .ok (.aload_n 0, 1) := by decide +kernel
theorem dX4_threadOf_87 : decode cX4_threadOf 87 = .ok (.getfield 10, 3) := by decide +kernel
theorem dX4_threadOf_90 : decode cX4_threadOf 90 = .ok (.iload_n 1, 1) := by decide +kernel
theorem dX4_threadOf_91 : decode cX4_threadOf 91 = .ok (.invokevirtual 186, 3) := by decide +kernel
theorem dX4_threadOf_94 : decode cX4_threadOf 94 = .ok (.ireturn, 1) := by decide +kernel
theorem dX4_threadOf_95 : decode cX4_threadOf 95 = .ok (.aload_n 0, 1) := by decide +kernel
theorem dX4_threadOf_96 : decode cX4_threadOf 96 = .ok (.getfield 10, 3) := by decide +kernel
theorem dX4_threadOf_99 : decode cX4_threadOf 99 = .ok (.iload_n 1, 1) := by decide +kernel
theorem dX4_threadOf_100 : decode cX4_threadOf 100 = .ok (.invokevirtual 159, 3) := by decide +kernel
theorem dX4_threadOf_103 : decode cX4_threadOf 103 = .ok (.ireturn, 1) := by decide +kernel
theorem dX4_threadOf_104 : decode cX4_threadOf 104 = .ok (.aload_n 0, 1) := by decide +kernel
theorem dX4_threadOf_105 : decode cX4_threadOf 105 = .ok (.getfield 10, 3) := by decide +kernel
theorem dX4_threadOf_108 : decode cX4_threadOf 108 = .ok (.iload_n 1, 1) := by decide +kernel
theorem dX4_threadOf_109 : decode cX4_threadOf 109 = .ok (.invokevirtual 186, 3) := by decide +kernel
theorem dX4_threadOf_112 : decode cX4_threadOf 112 = .ok (.aload_n 0, 1) := by decide +kernel
theorem dX4_threadOf_113 : decode cX4_threadOf 113 = .ok (.getfield 10, 3) := by decide +kernel
theorem dX4_threadOf_116 : decode cX4_threadOf 116 = .ok (.iload_n 1, 1) := by decide +kernel
theorem dX4_threadOf_117 : decode cX4_threadOf 117 = .ok (.invokevirtual 159, 3) := by decide +kernel
theorem dX4_threadOf_120 : decode cX4_threadOf 120 = .ok (.ixor, 1) := by decide +kernel
theorem dX4_threadOf_121 : decode cX4_threadOf 121 = .ok (.invokestatic 189, 3) := by decide +kernel
theorem dX4_threadOf_124 : decode cX4_threadOf 124 = .ok (.ireturn, 1) := by decide +kernel
theorem dX4_threadOf_125 : decode cX4_threadOf 125 = .ok (.aload_n 0, 1) := by decide +kernel
theorem dX4_threadOf_126 : decode cX4_threadOf 126 = .ok (.getfield 10, 3) := by decide +kernel
theorem dX4_threadOf_129 : decode cX4_threadOf 129 = .ok (.iload_n 1, 1) := by decide +kernel
theorem dX4_threadOf_130 : decode cX4_threadOf 130 = .ok (.invokevirtual 194, 3) := by decide +kernel
theorem dX4_threadOf_133 : decode cX4_threadOf 133 = .ok (.aload_n 0, 1) := by decide +kernel
theorem dX4_threadOf_134 : decode cX4_threadOf 134 = .ok (.getfield 10, 3) := by decide +kernel
theorem dX4_threadOf_137 : decode cX4_threadOf 137 = .ok (.getfield 63, 3) := by decide +kernel
theorem dX4_threadOf_140 : decode cX4_threadOf 140 = .ok (.iload_n 1, 1) := by decide +kernel
theorem dX4_threadOf_141 : decode cX4_threadOf 141 = .ok (.iaload, 1) := by decide +kernel
theorem dX4_threadOf_142 : decode cX4_threadOf 142 = .ok (.iconst (-1), 1) := by decide +kernel
theorem dX4_threadOf_143 : decode cX4_threadOf 143 = .ok (.ixor, 1) := by decide +kernel
theorem dX4_threadOf_144 : decode cX4_threadOf 144 = .ok (.iand, 1) := by decide +kernel
theorem dX4_threadOf_145 : decode cX4_threadOf 145 = .ok (.ireturn, 1) := by decide +kernel
theorem dX4_threadOf_146 : decode cX4_threadOf 146 = .ok (.aload_n 0, 1) := by decide +kernel
theorem dX4_threadOf_147 : decode cX4_threadOf 147 = .ok (.getfield 10, 3) := by decide +kernel
theorem dX4_threadOf_150 : decode cX4_threadOf 150 = .ok (.getfield 63, 3) := by decide +kernel
theorem dX4_threadOf_153 : decode cX4_threadOf 153 = .ok (.iload_n 1, 1) := by decide +kernel
theorem dX4_threadOf_154 : decode cX4_threadOf 154 = .ok (.iaload, 1) := by decide +kernel
theorem dX4_threadOf_155 : decode cX4_threadOf 155 = .ok (.aload_n 0, 1) := by decide +kernel
theorem dX4_threadOf_156 : decode cX4_threadOf 156 = .ok (.getfield 10, 3) := by decide +kernel
theorem dX4_threadOf_159 : decode cX4_threadOf 159 = .ok (.iload_n 1, 1) := by decide +kernel
theorem dX4_threadOf_160 : decode cX4_threadOf 160 = .ok (.invokevirtual 194, 3) := by decide +kernel
theorem dX4_threadOf_163 : decode cX4_threadOf 163 = .ok (.iconst (-1), 1) := by decide +kernel
theorem dX4_threadOf_164 : decode cX4_threadOf 164 = .ok (.ixor, 1) := by decide +kernel
theorem dX4_threadOf_165 : decode cX4_threadOf 165 = .ok (.iand, 1) := by decide +kernel
theorem dX4_threadOf_166 : decode cX4_threadOf 166 = .ok (.ireturn, 1) := by decide +kernel
theorem dX4_threadOf_167 : decode cX4_threadOf 167 = .ok (.aload_n 0, 1) := by decide +kernel
theorem dX4_threadOf_168 : decode cX4_threadOf 168 = .ok (.getfield 10, 3) := by decide +kernel
theorem dX4_threadOf_171 : decode cX4_threadOf 171 = .ok (.getfield 197, 3) := by decide +kernel
theorem dX4_threadOf_174 : decode cX4_threadOf 174 = .ok (.iload_n 1, 1) := by decide +kernel
theorem dX4_threadOf_175 : decode cX4_threadOf 175 = .ok (.iaload, 1) := by decide +kernel
theorem dX4_threadOf_176 : decode cX4_threadOf 176 = .ok (.ireturn, 1) := by decide +kernel
theorem dX4_threadOf_177 : decode cX4_threadOf 177 = .ok (.new 79, 3) := by decide +kernel
theorem dX4_threadOf_180 : decode cX4_threadOf 180 = .ok (.dup, 1) := by decide +kernel
theorem dX4_threadOf_181 : decode cX4_threadOf 181 = .ok (.ldc 200, 2) := by decide +kernel
theorem dX4_threadOf_183 : decode cX4_threadOf 183 = .ok (.invokespecial 83, 3) := by decide +kernel
theorem dX4_threadOf_186 : decode cX4_threadOf 186 = .ok (.athrow, 1) := by decide +kernel
set_option maxRecDepth 20000 in
theorem ggX4_ringOf_X4_isRing : GoodIn wsX4_ringOf wsX4_isRing := goodIn_r _ [10, 11, 12, 9, 13] (by decide +kernel) (by decide +kernel)
set_option maxRecDepth 20000 in
theorem gX4_ringOf_X4_isRing : GoodIn wsX4_ringOf (va_wsS RX4 49 yX4_isRing wsX4_isRing) := goodIn_app (goodIn_of _ (by decide +kernel)) ggX4_ringOf_X4_isRing
set_option maxRecDepth 20000 in
theorem ggX4_ringOf_X2_threadsThrough : GoodIn wsX4_ringOf wsX2_threadsThrough := goodIn_r _ [18, 19, 20, 9, 21, 64, 65, 66, 67, 68, 69, 70, 71] (by decide +kernel) (by decide +kernel)
set_option maxRecDepth 20000 in
theorem gX4_ringOf_X2_threadsThrough : GoodIn wsX4_ringOf (wsV RX4 205 RX2 yX2_threadsThrough wsX2_threadsThrough) := goodIn_app (goodIn_of _ (by decide +kernel)) ggX4_ringOf_X2_threadsThrough
set_option maxRecDepth 20000 in
theorem ggX4_ringOf_J6_bitCount_0f7a4 : GoodIn wsX4_ringOf wsJ6_bitCount_0f7a4 := goodIn_r _ [25, 26, 27, 28] (by decide +kernel) (by decide +kernel)
set_option maxRecDepth 20000 in
theorem gX4_ringOf_J6_bitCount_0f7a4 : GoodIn wsX4_ringOf (va_wsS RX4 189 yJ6_bitCount_0f7a4 wsJ6_bitCount_0f7a4) := goodIn_app (goodIn_of _ (by decide +kernel)) ggX4_ringOf_J6_bitCount_0f7a4
set_option maxRecDepth 20000 in
theorem ggX4_ringOf_X2_threadsAnswered : GoodIn wsX4_ringOf wsX2_threadsAnswered := goodIn_r _ [32, 33, 34, 35, 17, 36, 19, 37, 20, 9, 21, 38, 39, 40, 41, 42, 43, 44, 45, 46, 47, 48, 49, 50, 51, 64, 65, 66, 67, 68, 69, 70, 71] (by decide +kernel) (by decide +kernel)
set_option maxRecDepth 20000 in
theorem gX4_ringOf_X2_threadsAnswered : GoodIn wsX4_ringOf (wsV RX4 208 RX2 yX2_threadsAnswered wsX2_threadsAnswered) := goodIn_app (goodIn_of _ (by decide +kernel)) ggX4_ringOf_X2_threadsAnswered
set_option maxRecDepth 20000 in
theorem ggX4_ringOf_X2_isWornOut : GoodIn wsX4_ringOf wsX2_isWornOut := goodIn_r _ [55, 37, 56, 15, 16, 17, 18, 19, 20, 9, 21, 38, 39, 40, 41, 42, 43, 44, 45, 46, 64, 65, 66, 67, 68, 69, 70, 71] (by decide +kernel) (by decide +kernel)
set_option maxRecDepth 20000 in
theorem gX4_ringOf_X2_isWornOut : GoodIn wsX4_ringOf (wsV RX4 211 RX2 yX2_isWornOut wsX2_isWornOut) := goodIn_app (goodIn_of _ (by decide +kernel)) ggX4_ringOf_X2_isWornOut
theorem dX4_ringOf_0 : decode cX4_ringOf 0 = .ok (.iload_n 1, 1) := by decide +kernel
theorem dX4_ringOf_1 : decode cX4_ringOf 1 = .ok (.invokestatic 49, 3) := by decide +kernel
theorem dX4_ringOf_4 : decode cX4_ringOf 4 = .ok (.ifCond .ne 13, 3) := by decide +kernel
theorem dX4_ringOf_7 : decode cX4_ringOf 7 = .ok (.new 52, 3) := by decide +kernel
theorem dX4_ringOf_10 : decode cX4_ringOf 10 = .ok (.dup, 1) := by decide +kernel
theorem dX4_ringOf_11 : decode cX4_ringOf 11 = .ok (.ldc 92, 2) := by decide +kernel
theorem dX4_ringOf_13 : decode cX4_ringOf 13 = .ok (.invokespecial 56, 3) := by decide +kernel
theorem dX4_ringOf_16 : decode cX4_ringOf 16 = .ok (.athrow, 1) := by decide +kernel
theorem dX4_ringOf_17 : decode cX4_ringOf 17 = .ok (.iload_n 2, 1) := by decide +kernel
theorem dX4_ringOf_18 : decode cX4_ringOf 18 = .ok (.tableswitch 91 0 4 #[34, 44, 53, 65, 74], 34) := by decide +kernel
theorem dX4_ringOf_52 : decode cX4_ringOf 52 = .ok (.aload_n 0, 1) := by decide +kernel
theorem dX4_ringOf_53 : decode cX4_ringOf 53 = .ok (.getfield 10, 3) := by decide +kernel
theorem dX4_ringOf_56 : decode cX4_ringOf 56 = .ok (.getfield 202, 3) := by decide +kernel
theorem dX4_ringOf_59 : decode cX4_ringOf 59 = .ok (.iload_n 1, 1) := by decide +kernel
theorem dX4_ringOf_60 : decode cX4_ringOf 60 = .ok (.iaload, 1) := by decide +kernel
theorem dX4_ringOf_61 : decode cX4_ringOf 61 = .ok (.ireturn, 1) := by decide +kernel
theorem dX4_ringOf_62 : decode cX4_ringOf 62 = .ok (.aload_n 0, 1) := by decide +kernel
theorem dX4_ringOf_63 : decode cX4_ringOf 63 = .ok (.getfield 10, 3) := by decide +kernel
theorem dX4_ringOf_66 : decode cX4_ringOf 66 = .ok (.iload_n 1, 1) := by decide +kernel
theorem dX4_ringOf_67 : decode cX4_ringOf 67 = .ok (.invokevirtual 205, 3) := by decide +kernel
theorem dX4_ringOf_70 : decode cX4_ringOf 70 = .ok (.ireturn, 1) := by decide +kernel
theorem dX4_ringOf_71 : decode cX4_ringOf 71 = .ok (.aload_n 0, 1) := by decide +kernel
theorem dX4_ringOf_72 : decode cX4_ringOf 72 = .ok (.getfield 10, 3) := by decide +kernel
theorem dX4_ringOf_75 : decode cX4_ringOf 75 = .ok (.iload_n 1, 1) := by decide +kernel
theorem dX4_ringOf_76 : decode cX4_ringOf 76 = .ok (.invokevirtual 205, 3) := by decide +kernel
theorem dX4_ringOf_79 : decode cX4_ringOf 79 = .ok (.invokestatic 189, 3) := by decide +kernel
theorem dX4_ringOf_82 : decode cX4_ringOf 82 = .ok (.ireturn, 1) := by decide +kernel
theorem dX4_ringOf_83 : decode cX4_ringOf 83 = .ok (.aload_n 0, 1) := by decide +kernel
theorem dX4_ringOf_84 : decode cX4_ringOf 84 = .ok (.getfield 10, 3) := by decide +kernel
theorem dX4_ringOf_87 : decode cX4_ringOf 87 = .ok (.iload_n 1, 1) := by decide +kernel
theorem dX4_ringOf_88 : decode cX4_ringOf 88 = .ok (.invokevirtual 208, 3) := by decide +kernel
theorem dX4_ringOf_91 : decode cX4_ringOf 91 = .ok (.ireturn, 1) := by decide +kernel
theorem dX4_ringOf_92 : decode cX4_ringOf 92 = .ok (.aload_n 0, 1) := by decide +kernel
theorem dX4_ringOf_93 : decode cX4_ringOf 93 = .ok (.getfield 10, 3) := by decide +kernel
theorem dX4_ringOf_96 : decode cX4_ringOf 96 = .ok (.iload_n 1, 1) := by decide +kernel
theorem dX4_ringOf_97 : decode cX4_ringOf 97 = .ok (.invokevirtual 211, 3) := by decide +kernel
theorem dX4_ringOf_100 : decode cX4_ringOf 100 = .ok (.ifCond .eq 7, 3) := by decide +kernel
theorem dX4_ringOf_103 : decode cX4_ringOf 103 = .ok (.iconst 1, 1) := by decide +kernel
theorem dX4_ringOf_104 : decode cX4_ringOf 104 = .ok (.goto 4, 3) := by decide +kernel
theorem dX4_ringOf_107 : decode cX4_ringOf 107 = .ok (.iconst 0, 1) := by decide +kernel
theorem dX4_ringOf_108 : decode cX4_ringOf 108 = .ok (.ireturn, 1) := by decide +kernel
theorem dX4_ringOf_109 : decode cX4_ringOf 109 = .ok (.new 79, 3) := by decide +kernel
theorem dX4_ringOf_112 : decode cX4_ringOf 112 = .ok (.dup, 1) := by decide +kernel
theorem dX4_ringOf_113 : decode cX4_ringOf 113 = .ok (.ldc 214, 2) := by decide +kernel
theorem dX4_ringOf_115 : decode cX4_ringOf 115 = .ok (.invokespecial 83, 3) := by decide +kernel
theorem dX4_ringOf_118 : decode cX4_ringOf 118 = .ok (.athrow, 1) := by decide +kernel
set_option maxRecDepth 20000 in
theorem ggX4_strength_X4_isThread : GoodIn wsX4_strength wsX4_isThread := goodIn_r _ [9, 10, 11, 8, 12] (by decide +kernel) (by decide +kernel)
set_option maxRecDepth 20000 in
theorem gX4_strength_X4_isThread : GoodIn wsX4_strength (va_wsS RX4 45 yX4_isThread wsX4_isThread) := goodIn_app (goodIn_of _ (by decide +kernel)) ggX4_strength_X4_isThread
set_option maxRecDepth 20000 in
theorem ggX4_strength_X4_isRing : GoodIn wsX4_strength wsX4_isRing := goodIn_r _ [15, 10, 11, 8, 12] (by decide +kernel) (by decide +kernel)
set_option maxRecDepth 20000 in
theorem gX4_strength_X4_isRing : GoodIn wsX4_strength (va_wsS RX4 49 yX4_isRing wsX4_isRing) := goodIn_app (goodIn_of _ (by decide +kernel)) ggX4_strength_X4_isRing
set_option maxRecDepth 20000 in
theorem ggX4_strength_X2_hops : GoodIn wsX4_strength wsX2_hops := goodIn_r _ [20, 21, 22, 8, 23, 24, 25, 26, 19, 27, 28, 45, 46, 47, 48, 49, 50, 51, 52] (by decide +kernel) (by decide +kernel)
set_option maxRecDepth 20000 in
theorem gX4_strength_X2_hops : GoodIn wsX4_strength (wsV RX4 216 RX2 yX2_hops wsX2_hops) := goodIn_app (goodIn_of _ (by decide +kernel)) ggX4_strength_X2_hops
set_option maxRecDepth 20000 in
theorem ggX4_strength_X2_strengthAt : GoodIn wsX4_strength wsX2_strengthAt := goodIn_r _ [32, 33, 34, 35, 36, 37, 45, 46, 47, 48, 49, 50, 51, 52] (by decide +kernel) (by decide +kernel)
set_option maxRecDepth 20000 in
theorem gX4_strength_X2_strengthAt : GoodIn wsX4_strength (wsV RX4 219 RX2 yX2_strengthAt wsX2_strengthAt) := goodIn_app (goodIn_of _ (by decide +kernel)) ggX4_strength_X2_strengthAt
theorem dX4_strength_0 : decode cX4_strength 0 = .ok (.iload_n 1, 1) := by decide +kernel
theorem dX4_strength_1 : decode cX4_strength 1 = .ok (.invokestatic 45, 3) := by decide +kernel
theorem dX4_strength_4 : decode cX4_strength 4 = .ok (.ifCond .eq 10, 3) := by decide +kernel
theorem dX4_strength_7 : decode cX4_strength 7 = .ok (.iload_n 2, 1) := by decide +kernel
theorem dX4_strength_8 : decode cX4_strength 8 = .ok (.invokestatic 49, 3) := by decide +kernel
theorem dX4_strength_11 : decode cX4_strength 11 = .ok (.ifCond .ne 13, 3) := by decide +kernel
theorem dX4_strength_14 : decode cX4_strength 14 = .ok (.new 52, 3) := by decide +kernel
theorem dX4_strength_17 : decode cX4_strength 17 = .ok (.dup, 1) := by decide +kernel
theorem dX4_strength_18 : decode cX4_strength 18 = .ok (.ldc 54, 2) := by decide +kernel
theorem dX4_strength_20 : decode cX4_strength 20 = .ok (.invokespecial 56, 3) := by decide +kernel
theorem dX4_strength_23 : decode cX4_strength 23 = .ok (.athrow, 1) := by decide +kernel
theorem dX4_strength_24 : decode cX4_strength 24 = .ok (.iload_n 3, 1) := by decide +kernel
theorem dX4_strength_25 : decode cX4_strength 25 = .ok (.lookupswitch 55 #[(0, 27), (1, 45)], 27) := by decide +kernel
theorem dX4_strength_52 : decode cX4_strength 52 = .ok (.aload_n 0, 1) := by decide +kernel
theorem dX4_strength_53 : decode cX4_strength 53 = .ok (.getfield 10, 3) := by decide +kernel
theorem dX4_strength_56 : decode cX4_strength 56 = .ok (.iload_n 2, 1) := by decide +kernel
theorem dX4_strength_57 : decode cX4_strength 57 = .ok (.aload_n 0, 1) := by decide +kernel
theorem dX4_strength_58 : decode cX4_strength 58 = .ok (.getfield 10, 3) := by decide +kernel
theorem dX4_strength_61 : decode cX4_strength 61 = .ok (.iload_n 1, 1) := by decide +kernel
theorem dX4_strength_62 : decode cX4_strength 62 = .ok (.iload_n 2, 1) := by decide +kernel
theorem dX4_strength_63 : decode cX4_strength 63 = .ok (.invokevirtual 216, 3) := by decide +kernel
theorem dX4_strength_66 : decode cX4_strength 66 = .ok (.invokevirtual 219, 3) := by decide +kernel
theorem dX4_strength_69 : decode cX4_strength 69 = .ok (.ireturn, 1) := by decide +kernel
theorem dX4_strength_70 : decode cX4_strength 70 = .ok (.aload_n 0, 1) := by decide +kernel
theorem dX4_strength_71 : decode cX4_strength 71 = .ok (.getfield 10, 3) := by decide +kernel
theorem dX4_strength_74 : decode cX4_strength 74 = .ok (.iload_n 1, 1) := by decide +kernel
theorem dX4_strength_75 : decode cX4_strength 75 = .ok (.iload_n 2, 1) := by decide +kernel
theorem dX4_strength_76 : decode cX4_strength 76 = .ok (.invokevirtual 216, 3) := by decide +kernel
theorem dX4_strength_79 : decode cX4_strength 79 = .ok (.ireturn, 1) := by decide +kernel
theorem dX4_strength_80 : decode cX4_strength 80 = .ok (.new 79, 3) := by decide +kernel
theorem dX4_strength_83 : decode cX4_strength 83 = .ok (.dup, 1) := by decide +kernel
theorem dX4_strength_84 : decode cX4_strength 84 = .ok (.ldc 222, 2) := by decide +kernel
theorem dX4_strength_86 : decode cX4_strength 86 = .ok (.invokespecial 83, 3) := by decide +kernel
theorem dX4_strength_89 : decode cX4_strength 89 = .ok (.athrow, 1) := by decide +kernel
theorem dX4_machine_0 : decode cX4_machine 0 = .ok (.iload_n 1, 1) := by decide +kernel
theorem dX4_machine_1 : decode cX4_machine 1 = .ok (.tableswitch 129 0 8 #[51, 62, 73, 73, 73, 73, 88, 107, 118], 51) := by decide +kernel
theorem dX4_machine_52 : decode cX4_machine 52 = .ok (.aload_n 0, 1) := by decide +kernel
theorem dX4_machine_53 : decode cX4_machine 53 = .ok (.getfield 10, 3) := by decide +kernel
theorem dX4_machine_56 : decode cX4_machine 56 = .ok (.getfield 110, 3) := by decide +kernel
theorem dX4_machine_59 : decode cX4_machine 59 = .ok (.getfield 224, 3) := by decide +kernel
theorem dX4_machine_62 : decode cX4_machine 62 = .ok (.ireturn, 1) := by decide +kernel
theorem dX4_machine_63 : decode cX4_machine 63 = .ok (.aload_n 0, 1) := by decide +kernel
theorem dX4_machine_64 : decode cX4_machine 64 = .ok (.getfield 10, 3) := by decide +kernel
theorem dX4_machine_67 : decode cX4_machine 67 = .ok (.getfield 110, 3) := by decide +kernel
theorem dX4_machine_70 : decode cX4_machine 70 = .ok (.getfield 227, 3) := by decide +kernel
theorem dX4_machine_73 : decode cX4_machine 73 = .ok (.ireturn, 1) := by decide +kernel
theorem dX4_machine_74 : decode cX4_machine 74 = .ok (.aload_n 0, 1) := by decide +kernel
theorem dX4_machine_75 : decode cX4_machine 75 = .ok (.getfield 10, 3) := by decide +kernel
theorem dX4_machine_78 : decode cX4_machine 78 = .ok (.getfield 110, 3) := by decide +kernel
theorem dX4_machine_81 : decode cX4_machine 81 = .ok (.getfield 230, 3) := by decide +kernel
theorem dX4_machine_84 : decode cX4_machine 84 = .ok (.iload_n 1, 1) := by decide +kernel
theorem dX4_machine_85 : decode cX4_machine 85 = .ok (.iconst 2, 1) := by decide +kernel
theorem dX4_machine_86 : decode cX4_machine 86 = .ok (.isub, 1) := by decide +kernel
theorem dX4_machine_87 : decode cX4_machine 87 = .ok (.iaload, 1) := by decide +kernel
theorem dX4_machine_88 : decode cX4_machine 88 = .ok (.ireturn, 1) := by decide +kernel
theorem dX4_machine_89 : decode cX4_machine 89 = .ok (.aload_n 0, 1) := by decide +kernel
theorem dX4_machine_90 : decode cX4_machine 90 = .ok (.getfield 10, 3) := by decide +kernel
theorem dX4_machine_93 : decode cX4_machine 93 = .ok (.getfield 110, 3) := by decide +kernel
theorem dX4_machine_96 : decode cX4_machine 96 = .ok (.getfield 233, 3) := by decide +kernel
theorem dX4_machine_99 : decode cX4_machine 99 = .ok (.ifCond .eq 7, 3) := by decide +kernel
theorem dX4_machine_102 : decode cX4_machine 102 = .ok (.iconst 1, 1) := by decide +kernel
theorem dX4_machine_103 : decode cX4_machine 103 = .ok (.goto 4, 3) := by decide +kernel
theorem dX4_machine_106 : decode cX4_machine 106 = .ok (.iconst 0, 1) := by decide +kernel
theorem dX4_machine_107 : decode cX4_machine 107 = .ok (.ireturn, 1) := by decide +kernel
theorem dX4_machine_108 : decode cX4_machine 108 = .ok (.aload_n 0, 1) := by decide +kernel
theorem dX4_machine_109 : decode cX4_machine 109 = .ok (.getfield 10, 3) := by decide +kernel
theorem dX4_machine_112 : decode cX4_machine 112 = .ok (.getfield 110, 3) := by decide +kernel
theorem dX4_machine_115 : decode cX4_machine 115 = .ok (.getfield 114, 3) := by decide +kernel
theorem dX4_machine_118 : decode cX4_machine 118 = .ok (.ireturn, 1) := by decide +kernel
theorem dX4_machine_119 : decode cX4_machine 119 = .ok (.aload_n 0, 1) := by decide +kernel
theorem dX4_machine_120 : decode cX4_machine 120 = .ok (.getfield 10, 3) := by decide +kernel
theorem dX4_machine_123 : decode cX4_machine 123 = .ok (.getfield 110, 3) := by decide +kernel
theorem dX4_machine_126 : decode cX4_machine 126 = .ok (.getfield 237, 3) := by decide +kernel
theorem dX4_machine_129 : decode cX4_machine 129 = .ok (.ireturn, 1) := by decide +kernel
theorem dX4_machine_130 : decode cX4_machine 130 = .ok (.new 79, 3) := by decide +kernel
theorem dX4_machine_133 : decode cX4_machine 133 = .ok (.dup, 1) := by decide +kernel
theorem dX4_machine_134 : decode cX4_machine 134 = .ok (.ldc 240, 2) := by decide +kernel
theorem dX4_machine_136 : decode cX4_machine 136 = .ok (.invokespecial 83, 3) := by decide +kernel
theorem dX4_machine_139 : decode cX4_machine 139 = .ok (.athrow, 1) := by decide +kernel
set_option maxRecDepth 20000 in
theorem ggX4_told_X4_isWithin : GoodIn wsX4_told wsX4_isWithin := goodIn_r _ [9] (by decide +kernel) (by decide +kernel)
set_option maxRecDepth 20000 in
theorem gX4_told_X4_isWithin : GoodIn wsX4_told (va_wsS RX4 75 yX4_isWithin wsX4_isWithin) := goodIn_app (goodIn_of _ (by decide +kernel)) ggX4_told_X4_isWithin
theorem dX4_told_0 : decode cX4_told 0 = .ok (.iload_n 1, 1) := by decide +kernel
theorem dX4_told_1 : decode cX4_told 1 = .ok (.iconst 0, 1) := by decide +kernel
theorem dX4_told_2 : decode cX4_told 2 = .ok (.bipush 7, 2) := by decide +kernel
theorem dX4_told_4 : decode cX4_told 4 = .ok (.invokestatic 75, 3) := by decide +kernel
theorem dX4_told_7 : decode cX4_told 7 = .ok (.ifCond .ne 13, 3) := by decide +kernel
theorem dX4_told_10 : decode cX4_told 10 = .ok (.new 79, 3) := by decide +kernel
theorem dX4_told_13 : decode cX4_told 13 = .ok (.dup, 1) := by decide +kernel
theorem dX4_told_14 : decode cX4_told 14 = .ok (.ldc 242, 2) := by decide +kernel
theorem dX4_told_16 : decode cX4_told 16 = .ok (.invokespecial 83, 3) := by decide +kernel
theorem dX4_told_19 : decode cX4_told 19 = .ok (.athrow, 1) := by decide +kernel
theorem dX4_told_20 : decode cX4_told 20 = .ok (.aload_n 0, 1) := by decide +kernel
theorem dX4_told_21 : decode cX4_told 21 = .ok (.getfield 10, 3) := by decide +kernel
theorem dX4_told_24 : decode cX4_told 24 = .ok (.getfield 110, 3) := by decide +kernel
theorem dX4_told_27 : decode cX4_told 27 = .ok (.getfield 244, 3) := by decide +kernel
theorem dX4_told_30 : decode cX4_told 30 = .ok (.iload_n 1, 1) := by decide +kernel
theorem dX4_told_31 : decode cX4_told 31 = .ok (.iaload, 1) := by decide +kernel
theorem dX4_told_32 : decode cX4_told 32 = .ok (.ireturn, 1) := by decide +kernel
set_option maxRecDepth 20000 in
theorem ggX4_count_X2_crossingsByThreads : GoodIn wsX4_count wsX2_crossingsByThreads := goodIn_r _ [13, 14, 15, 16, 17, 18, 19, 20, 21, 88, 89, 90, 91, 92, 93, 94, 95] (by decide +kernel) (by decide +kernel)
set_option maxRecDepth 20000 in
theorem gX4_count_X2_crossingsByThreads : GoodIn wsX4_count (wsV RX4 173 RX2 yX2_crossingsByThreads wsX2_crossingsByThreads) := goodIn_app (goodIn_of _ (by decide +kernel)) ggX4_count_X2_crossingsByThreads
set_option maxRecDepth 20000 in
theorem ggX4_count_X2_crossingsByRings : GoodIn wsX4_count wsX2_crossingsByRings := goodIn_r _ [25, 26, 27, 28, 12, 29, 14, 30, 31, 32, 15, 16, 17, 18, 19, 20, 21, 88, 89, 90, 91, 92, 93, 94, 95] (by decide +kernel) (by decide +kernel)
set_option maxRecDepth 20000 in
theorem gX4_count_X2_crossingsByRings : GoodIn wsX4_count (wsV RX4 247 RX2 yX2_crossingsByRings wsX2_crossingsByRings) := goodIn_app (goodIn_of _ (by decide +kernel)) ggX4_count_X2_crossingsByRings
set_option maxRecDepth 20000 in
theorem ggX4_count_X2_threadsRight : GoodIn wsX4_count wsX2_threadsRight := goodIn_r _ [36, 14, 37, 38, 39, 12, 40, 41, 30, 31, 32, 42, 43, 44, 45, 46, 47, 48, 49, 50, 51, 52, 53, 54, 55, 88, 89, 90, 91, 92, 93, 94, 95] (by decide +kernel) (by decide +kernel)
set_option maxRecDepth 20000 in
theorem gX4_count_X2_threadsRight : GoodIn wsX4_count (wsV RX4 256 RX2 yX2_threadsRight wsX2_threadsRight) := goodIn_app (goodIn_of _ (by decide +kernel)) ggX4_count_X2_threadsRight
set_option maxRecDepth 20000 in
theorem ggX4_count_J6_bitCount_0f7a4 : GoodIn wsX4_count wsJ6_bitCount_0f7a4 := goodIn_r _ [18, 19, 20, 21] (by decide +kernel) (by decide +kernel)
set_option maxRecDepth 20000 in
theorem gX4_count_J6_bitCount_0f7a4 : GoodIn wsX4_count (va_wsS RX4 189 yJ6_bitCount_0f7a4 wsJ6_bitCount_0f7a4) := goodIn_app (goodIn_of _ (by decide +kernel)) ggX4_count_J6_bitCount_0f7a4
set_option maxRecDepth 20000 in
theorem ggX4_count_X2_greatestWear : GoodIn wsX4_count wsX2_greatestWear := goodIn_r _ [60, 50, 46, 47, 48, 49, 88, 89, 90, 91, 92, 93, 94, 95] (by decide +kernel) (by decide +kernel)
set_option maxRecDepth 20000 in
theorem gX4_count_X2_greatestWear : GoodIn wsX4_count (wsV RX4 259 RX2 yX2_greatestWear wsX2_greatestWear) := goodIn_app (goodIn_of _ (by decide +kernel)) ggX4_count_X2_greatestWear
set_option maxRecDepth 20000 in
theorem ggX4_count_X4_pairsTellingTheSame : GoodIn wsX4_count wsX4_pairsTellingTheSame := goodIn_r _ [64, 65, 3, 66, 67, 68, 12, 69, 37, 38, 39, 40, 14, 41, 30, 31, 32, 42, 43, 44, 45, 46, 47, 48, 49, 50, 51, 52, 53, 54, 55, 70, 71, 72, 73, 81, 82, 83, 84, 85, 86, 87, 88, 89, 90, 91, 92, 93, 94, 95] (by decide +kernel) (by decide +kernel)
set_option maxRecDepth 20000 in
theorem gX4_count_X4_pairsTellingTheSame : GoodIn wsX4_count (wsV RX4 262 RX4 yX4_pairsTellingTheSame wsX4_pairsTellingTheSame) := goodIn_app (goodIn_of _ (by decide +kernel)) ggX4_count_X4_pairsTellingTheSame
set_option maxRecDepth 20000 in
theorem ggX4_count_X2_fewestUnlikeBits : GoodIn wsX4_count wsX2_fewestUnlikeBits := goodIn_r _ [77, 14, 78, 79, 48, 80, 15, 16, 17, 18, 19, 20, 21, 88, 89, 90, 91, 92, 93, 94, 95] (by decide +kernel) (by decide +kernel)
set_option maxRecDepth 20000 in
theorem gX4_count_X2_fewestUnlikeBits : GoodIn wsX4_count (wsV RX4 265 RX2 yX2_fewestUnlikeBits wsX2_fewestUnlikeBits) := goodIn_app (goodIn_of _ (by decide +kernel)) ggX4_count_X2_fewestUnlikeBits
theorem dX4_count_0 : decode cX4_count 0 = .ok (.iload_n 1, 1) := by decide +kernel
theorem dX4_count_1 : decode cX4_count 1 = .ok (.tableswitch 135 0 9 #[55, 63, 71, 79, 87, 95, 106, 114, 119, 127], 55) := by decide +kernel
theorem dX4_count_56 : decode cX4_count 56 = .ok (.aload_n 0, 1) := by decide +kernel
theorem dX4_count_57 : decode cX4_count 57 = .ok (.getfield 10, 3) := by decide +kernel
theorem dX4_count_60 : decode cX4_count 60 = .ok (.invokevirtual 173, 3) := by decide +kernel
theorem dX4_count_63 : decode cX4_count 63 = .ok (.ireturn, 1) := by decide +kernel
theorem dX4_count_64 : decode cX4_count 64 = .ok (.aload_n 0, 1) := by decide +kernel
theorem dX4_count_65 : decode cX4_count 65 = .ok (.getfield 10, 3) := by decide +kernel
theorem dX4_count_68 : decode cX4_count 68 = .ok (.invokevirtual 247, 3) := by decide +kernel
theorem dX4_count_71 : decode cX4_count 71 = .ok (.ireturn, 1) := by decide +kernel
theorem dX4_count_72 : decode cX4_count 72 = .ok (.aload_n 0, 1) := by decide +kernel
theorem dX4_count_73 : decode cX4_count 73 = .ok (.getfield 10, 3) := by decide +kernel
theorem dX4_count_76 : decode cX4_count 76 = .ok (.getfield 250, 3) := by decide +kernel
theorem dX4_count_79 : decode cX4_count 79 = .ok (.ireturn, 1) := by decide +kernel
theorem dX4_count_80 : decode cX4_count 80 = .ok (.aload_n 0, 1) := by decide +kernel
theorem dX4_count_81 : decode cX4_count 81 = .ok (.getfield 10, 3) := by decide +kernel
theorem dX4_count_84 : decode cX4_count 84 = .ok (.getfield 253, 3) := by decide +kernel
theorem dX4_count_87 : decode cX4_count 87 = .ok (.ireturn, 1) := by decide +kernel
theorem dX4_count_88 : decode cX4_count 88 = .ok (.aload_n 0, 1) := by decide +kernel
theorem dX4_count_89 : decode cX4_count 89 = .ok (.getfield 10, 3) := by decide +kernel
theorem dX4_count_92 : decode cX4_count 92 = .ok (.invokevirtual 256, 3) := by decide +kernel
theorem dX4_count_95 : decode cX4_count 95 = .ok (.ireturn, 1) := by decide +kernel
theorem dX4_count_96 : decode cX4_count 96 = .ok (.aload_n 0, 1) := by decide +kernel
theorem dX4_count_97 : decode cX4_count 97 = .ok (.getfield 10, 3) := by decide +kernel
theorem dX4_count_100 : decode cX4_count 100 = .ok (.getfield 88, 3) := by decide +kernel
theorem dX4_count_103 : decode cX4_count 103 = .ok (.invokestatic 189, 3) := by decide +kernel
theorem dX4_count_106 : decode cX4_count 106 = .ok (.ireturn, 1) := by decide +kernel
theorem dX4_count_107 : decode cX4_count 107 = .ok (.aload_n 0, 1) := by decide +kernel
theorem dX4_count_108 : decode cX4_count 108 = .ok (.getfield 10, 3) := by decide +kernel
theorem dX4_count_111 : decode cX4_count 111 = .ok (.invokevirtual 259, 3) := by decide +kernel
theorem dX4_count_114 : decode cX4_count 114 = .ok (.ireturn, 1) := by decide +kernel
theorem dX4_count_115 : decode cX4_count 115 = .ok (.aload_n 0, 1) := by decide +kernel
theorem dX4_count_116 : decode cX4_count 116 = .ok (.invokevirtual 262, 3) := by decide +kernel
theorem dX4_count_119 : decode cX4_count 119 = .ok (.ireturn, 1) := by decide +kernel
theorem dX4_count_120 : decode cX4_count 120 = .ok (.aload_n 0, 1) := by decide +kernel
theorem dX4_count_121 : decode cX4_count 121 = .ok (.getfield 10, 3) := by decide +kernel
theorem dX4_count_124 : decode cX4_count 124 = .ok (.invokevirtual 265, 3) := by decide +kernel
theorem dX4_count_127 : decode cX4_count 127 = .ok (.ireturn, 1) := by decide +kernel
theorem dX4_count_128 : decode cX4_count 128 = .ok (.aload_n 0, 1) := by decide +kernel
theorem dX4_count_129 : decode cX4_count 129 = .ok (.getfield 22, 3) := by decide +kernel
theorem dX4_count_132 : decode cX4_count 132 = .ok (.getfield 178, 3) := by decide +kernel
theorem dX4_count_135 : decode cX4_count 135 = .ok (.ireturn, 1) := by decide +kernel
theorem dX4_count_136 : decode cX4_count 136 = .ok (.new 79, 3) := by decide +kernel
theorem dX4_count_139 : decode cX4_count 139 = .ok (.dup, 1) := by decide +kernel
theorem dX4_count_140 : decode cX4_count 140 = .ok (.ldc_w 268, 3) := by decide +kernel
theorem dX4_count_143 : decode cX4_count 143 = .ok (.invokespecial 83, 3) := by decide +kernel
theorem dX4_count_146 : decode cX4_count 146 = .ok (.athrow, 1) := by decide +kernel
set_option maxRecDepth 20000 in
theorem ggX4_setting_X4_isSetting : GoodIn wsX4_setting wsX4_isSetting := goodIn_r _ [8, 9, 10, 7, 11] (by decide +kernel) (by decide +kernel)
set_option maxRecDepth 20000 in
theorem gX4_setting_X4_isSetting : GoodIn wsX4_setting (va_wsS RX4 97 yX4_isSetting wsX4_isSetting) := goodIn_app (goodIn_of _ (by decide +kernel)) ggX4_setting_X4_isSetting
theorem dX4_setting_0 : decode cX4_setting 0 = .ok (.iload_n 1, 1) := by decide +kernel
theorem dX4_setting_1 : decode cX4_setting 1 = .ok (.invokestatic 97, 3) := by decide +kernel
theorem dX4_setting_4 : decode cX4_setting 4 = .ok (.ifCond .ne 13, 3) := by decide +kernel
theorem dX4_setting_7 : decode cX4_setting 7 = .ok (.new 52, 3) := by decide +kernel
theorem dX4_setting_10 : decode cX4_setting 10 = .ok (.dup, 1) := by decide +kernel
theorem dX4_setting_11 : decode cX4_setting 11 = .ok (.ldc 100, 2) := by decide +kernel
theorem dX4_setting_13 : decode cX4_setting 13 = .ok (.invokespecial 56, 3) := by decide +kernel
theorem dX4_setting_16 : decode cX4_setting 16 = .ok (.athrow, 1) := by decide +kernel
theorem dX4_setting_17 : decode cX4_setting 17 = .ok (.aload_n 0, 1) := by decide +kernel
theorem dX4_setting_18 : decode cX4_setting 18 = .ok (.getfield 10, 3) := by decide +kernel
theorem dX4_setting_21 : decode cX4_setting 21 = .ok (.getfield 104, 3) := by decide +kernel
theorem dX4_setting_24 : decode cX4_setting 24 = .ok (.iload_n 1, 1) := by decide +kernel
theorem dX4_setting_25 : decode cX4_setting 25 = .ok (.iaload, 1) := by decide +kernel
theorem dX4_setting_26 : decode cX4_setting 26 = .ok (.ireturn, 1) := by decide +kernel
set_option maxRecDepth 20000 in
theorem ggX4_ifLoaded_X4_isThread : GoodIn wsX4_ifLoaded wsX4_isThread := goodIn_r _ [7, 8, 9, 6, 10] (by decide +kernel) (by decide +kernel)
set_option maxRecDepth 20000 in
theorem gX4_ifLoaded_X4_isThread : GoodIn wsX4_ifLoaded (va_wsS RX4 45 yX4_isThread wsX4_isThread) := goodIn_app (goodIn_of _ (by decide +kernel)) ggX4_ifLoaded_X4_isThread
set_option maxRecDepth 20000 in
theorem ggX4_ifLoaded_X3_tellsProgram : GoodIn wsX4_ifLoaded wsX3_tellsProgram := goodIn_r _ [15, 16, 17, 18, 19, 20, 14, 21, 22, 23, 24, 25, 26, 27, 28, 29, 30, 31, 64, 65, 66, 67, 68] (by decide +kernel) (by decide +kernel)
set_option maxRecDepth 20000 in
theorem gX4_ifLoaded_X3_tellsProgram : GoodIn wsX4_ifLoaded (wsV RX4 145 RX3 yX3_tellsProgram wsX3_tellsProgram) := goodIn_app (goodIn_of _ (by decide +kernel)) ggX4_ifLoaded_X3_tellsProgram
set_option maxRecDepth 20000 in
theorem ggX4_ifLoaded_X4_changesOfProgramAt : GoodIn wsX4_ifLoaded wsX4_changesOfProgramAt := goodIn_r _ [35, 3, 36, 37, 38, 39, 40, 41, 42, 43, 44, 45, 46, 47, 48, 49, 50, 51, 52, 53, 54, 55, 56, 57, 58, 59, 60, 61, 62, 63, 64, 65, 66, 67, 68, 69, 70, 71, 72, 73, 74, 75, 76] (by decide +kernel) (by decide +kernel)
set_option maxRecDepth 20000 in
theorem gX4_ifLoaded_X4_changesOfProgramAt : GoodIn wsX4_ifLoaded (wsV RX4 270 RX4 yX4_changesOfProgramAt wsX4_changesOfProgramAt) := goodIn_app (goodIn_of _ (by decide +kernel)) ggX4_ifLoaded_X4_changesOfProgramAt
theorem dX4_ifLoaded_0 : decode cX4_ifLoaded 0 = .ok (.iload_n 1, 1) := by decide +kernel
theorem dX4_ifLoaded_1 : decode cX4_ifLoaded 1 = .ok (.invokestatic 45, 3) := by decide +kernel
theorem dX4_ifLoaded_4 : decode cX4_ifLoaded 4 = .ok (.ifCond .ne 13, 3) := by decide +kernel
theorem dX4_ifLoaded_7 : decode cX4_ifLoaded 7 = .ok (.new 52, 3) := by decide +kernel
theorem dX4_ifLoaded_10 : decode cX4_ifLoaded 10 = .ok (.dup, 1) := by decide +kernel
theorem dX4_ifLoaded_11 : decode cX4_ifLoaded 11 = .ok (.ldc 73, 2) := by decide +kernel
theorem dX4_ifLoaded_13 : decode cX4_ifLoaded 13 = .ok (.invokespecial 56, 3) := by decide +kernel
theorem dX4_ifLoaded_16 : decode cX4_ifLoaded 16 = .ok (.athrow, 1) := by decide +kernel
theorem dX4_ifLoaded_17 : decode cX4_ifLoaded 17 = .ok (.aload_n 0, 1) := by decide +kernel
theorem dX4_ifLoaded_18 : decode cX4_ifLoaded 18 = .ok (.getfield 37, 3) := by decide +kernel
theorem dX4_ifLoaded_21 : decode cX4_ifLoaded 21 = .ok (.invokevirtual 145, 3) := by decide +kernel
theorem dX4_ifLoaded_24 : decode cX4_ifLoaded 24 = .ok (.ifCond .eq 11, 3) := by decide +kernel
theorem dX4_ifLoaded_27 : decode cX4_ifLoaded 27 = .ok (.aload_n 0, 1) := by decide +kernel
theorem dX4_ifLoaded_28 : decode cX4_ifLoaded 28 = .ok (.iload_n 1, 1) := by decide +kernel
theorem dX4_ifLoaded_29 : decode cX4_ifLoaded 29 = .ok (.invokevirtual 270, 3) := by decide +kernel
theorem dX4_ifLoaded_32 : decode cX4_ifLoaded 32 = .ok (.goto 4, 3) := by decide +kernel
theorem dX4_ifLoaded_35 : decode cX4_ifLoaded 35 = .ok (.iconst (-1), 1) := by decide +kernel
theorem dX4_ifLoaded_36 : decode cX4_ifLoaded 36 = .ok (.ireturn, 1) := by decide +kernel
set_option maxRecDepth 20000 in
theorem ggX4_bestPlace_X3_tellsProgram : GoodIn wsX4_bestPlace wsX3_tellsProgram := goodIn_r _ [6, 7, 8, 9, 10, 11, 5, 12, 13, 14, 15, 16, 17, 18, 19, 20, 21, 22, 56, 57, 58, 59, 60] (by decide +kernel) (by decide +kernel)
set_option maxRecDepth 20000 in
theorem gX4_bestPlace_X3_tellsProgram : GoodIn wsX4_bestPlace (wsV RX4 145 RX3 yX3_tellsProgram wsX3_tellsProgram) := goodIn_app (goodIn_of _ (by decide +kernel)) ggX4_bestPlace_X3_tellsProgram
set_option maxRecDepth 20000 in
theorem ggX4_bestPlace_X4_changesOfProgramAt : GoodIn wsX4_bestPlace wsX4_changesOfProgramAt := goodIn_r _ [27, 1, 28, 29, 30, 31, 32, 33, 34, 35, 36, 37, 38, 39, 40, 41, 42, 43, 44, 45, 46, 47, 48, 49, 50, 51, 52, 53, 54, 55, 56, 57, 58, 59, 60, 61, 62, 63, 64, 65, 66, 67, 68] (by decide +kernel) (by decide +kernel)
set_option maxRecDepth 20000 in
theorem gX4_bestPlace_X4_changesOfProgramAt : GoodIn wsX4_bestPlace (wsV RX4 270 RX4 yX4_changesOfProgramAt wsX4_changesOfProgramAt) := goodIn_app (goodIn_of _ (by decide +kernel)) ggX4_bestPlace_X4_changesOfProgramAt
theorem dX4_bestPlace_0 : decode cX4_bestPlace 0 = .ok (.aload_n 0, 1) := by decide +kernel
theorem dX4_bestPlace_1 : decode cX4_bestPlace 1 = .ok (.getfield 37, 3) := by decide +kernel
theorem dX4_bestPlace_4 : decode cX4_bestPlace 4 = .ok (.invokevirtual 145, 3) := by decide +kernel
theorem dX4_bestPlace_7 : decode cX4_bestPlace 7 = .ok (.ifCond .ne 5, 3) := by decide +kernel
theorem dX4_bestPlace_10 : decode cX4_bestPlace 10 = .ok (.iconst (-1), 1) := by decide +kernel
theorem dX4_bestPlace_11 : decode cX4_bestPlace 11 = .ok (.ireturn, 1) := by decide +kernel
theorem dX4_bestPlace_12 : decode cX4_bestPlace 12 = .ok (.iconst 0, 1) := by decide +kernel
theorem dX4_bestPlace_13 : decode cX4_bestPlace 13 = .ok (.istore_n 1, 1) := by decide +kernel
theorem dX4_bestPlace_14 : decode cX4_bestPlace 14 = .ok (.aload_n 0, 1) := by decide +kernel
theorem dX4_bestPlace_15 : decode cX4_bestPlace 15 = .ok (.iconst 0, 1) := by decide +kernel
theorem dX4_bestPlace_16 : decode cX4_bestPlace 16 = .ok (.invokevirtual 270, 3) := by decide +kernel
theorem dX4_bestPlace_19 : decode cX4_bestPlace 19 = .ok (.istore_n 2, 1) := by decide +kernel
theorem dX4_bestPlace_20 : decode cX4_bestPlace 20 = .ok (.iconst 1, 1) := by decide +kernel
theorem dX4_bestPlace_21 : decode cX4_bestPlace 21 = .ok (.istore_n 3, 1) := by decide +kernel
theorem dX4_bestPlace_22 : decode cX4_bestPlace 22 = .ok (.iload_n 3, 1) := by decide +kernel
theorem dX4_bestPlace_23 : decode cX4_bestPlace 23 = .ok (.bipush 16, 2) := by decide +kernel
theorem dX4_bestPlace_25 : decode cX4_bestPlace 25 = .ok (.if_icmp .ge 27, 3) := by decide +kernel
end
section
theorem dX4_bestPlace_28 : decode cX4_bestPlace 28 = .ok (.aload_n 0, 1) := by decide +kernel
theorem dX4_bestPlace_29 : decode cX4_bestPlace 29 = .ok (.iload_n 3, 1) := by decide +kernel
theorem dX4_bestPlace_30 : decode cX4_bestPlace 30 = .ok (.invokevirtual 270, 3) := by decide +kernel
theorem dX4_bestPlace_33 : decode cX4_bestPlace 33 = .ok (.istore 4, 2) := by decide +kernel
theorem dX4_bestPlace_35 : decode cX4_bestPlace 35 = .ok (.iload 4, 2) := by decide +kernel
theorem dX4_bestPlace_37 : decode cX4_bestPlace 37 = .ok (.iload_n 2, 1) := by decide +kernel
theorem dX4_bestPlace_38 : decode cX4_bestPlace 38 = .ok (.if_icmp .ge 8, 3) := by decide +kernel
theorem dX4_bestPlace_41 : decode cX4_bestPlace 41 = .ok (.iload_n 3, 1) := by decide +kernel
theorem dX4_bestPlace_42 : decode cX4_bestPlace 42 = .ok (.istore_n 1, 1) := by decide +kernel
theorem dX4_bestPlace_43 : decode cX4_bestPlace 43 = .ok (.iload 4, 2) := by decide +kernel
theorem dX4_bestPlace_45 : decode cX4_bestPlace 45 = .ok (.istore_n 2, 1) := by decide +kernel
theorem dX4_bestPlace_46 : decode cX4_bestPlace 46 = .ok (.iinc 3 1, 3) := by decide +kernel
theorem dX4_bestPlace_49 : decode cX4_bestPlace 49 = .ok (.goto (-27), 3) := by decide +kernel
theorem dX4_bestPlace_52 : decode cX4_bestPlace 52 = .ok (.iload_n 1, 1) := by decide +kernel
theorem dX4_bestPlace_53 : decode cX4_bestPlace 53 = .ok (.ireturn, 1) := by decide +kernel
set_option maxRecDepth 20000 in
theorem ggX4_bestGuard_X2_become : GoodIn wsX4_bestGuard wsX2_become := goodIn_r _ [8, 9, 10, 11, 12, 13, 14, 15, 16, 17, 18, 19, 20, 21, 22, 23, 24, 25, 26, 27, 28, 29, 30, 31, 32, 33, 65, 66, 67, 68, 69, 70, 71, 72, 73, 74, 75, 76, 77, 78, 79] (by decide +kernel) (by decide +kernel)
set_option maxRecDepth 20000 in
theorem gX4_bestGuard_X2_become : GoodIn wsX4_bestGuard (wsV RX4 170 RX2 yX2_become wsX2_become) := goodIn_app (goodIn_of _ (by decide +kernel)) ggX4_bestGuard_X2_become
set_option maxRecDepth 20000 in
theorem ggX4_bestGuard_X4_bit : GoodIn wsX4_bestGuard wsX4_bit := goodIn_r _ [37] (by decide +kernel) (by decide +kernel)
set_option maxRecDepth 20000 in
theorem gX4_bestGuard_X4_bit : GoodIn wsX4_bestGuard (va_wsS RX4 70 yX4_bit wsX4_bit) := goodIn_app (goodIn_of _ (by decide +kernel)) ggX4_bestGuard_X4_bit
set_option maxRecDepth 20000 in
theorem ggX4_bestGuard_X2_threadsRight : GoodIn wsX4_bestGuard wsX2_threadsRight := goodIn_r _ [41, 9, 42, 43, 44, 7, 45, 16, 35, 36, 37, 46, 47, 48, 49, 50, 51, 52, 53, 15, 54, 55, 56, 57, 18, 65, 66, 67, 68, 69, 70, 71, 72] (by decide +kernel) (by decide +kernel)
set_option maxRecDepth 20000 in
theorem gX4_bestGuard_X2_threadsRight : GoodIn wsX4_bestGuard (wsV RX4 256 RX2 yX2_threadsRight wsX2_threadsRight) := goodIn_app (goodIn_of _ (by decide +kernel)) ggX4_bestGuard_X2_threadsRight
theorem dX4_bestGuard_0 : decode cX4_bestGuard 0 = .ok (.iconst (-1), 1) := by decide +kernel
theorem dX4_bestGuard_1 : decode cX4_bestGuard 1 = .ok (.istore_n 1, 1) := by decide +kernel
theorem dX4_bestGuard_2 : decode cX4_bestGuard 2 = .ok (.iconst (-1), 1) := by decide +kernel
theorem dX4_bestGuard_3 : decode cX4_bestGuard 3 = .ok (.istore_n 2, 1) := by decide +kernel
theorem dX4_bestGuard_4 : decode cX4_bestGuard 4 = .ok (.aload_n 0, 1) := by decide +kernel
theorem dX4_bestGuard_5 : decode cX4_bestGuard 5 = .ok (.getfield 16, 3) := by decide +kernel
theorem dX4_bestGuard_8 : decode cX4_bestGuard 8 = .ok (.aload_n 0, 1) := by decide +kernel
theorem dX4_bestGuard_9 : decode cX4_bestGuard 9 = .ok (.getfield 10, 3) := by decide +kernel
theorem dX4_bestGuard_12 : decode cX4_bestGuard 12 = .ok (.invokevirtual 170, 3) := by decide +kernel
theorem dX4_bestGuard_15 : decode cX4_bestGuard 15 = .ok (.iconst 0, 1) := by decide +kernel
theorem dX4_bestGuard_16 : decode cX4_bestGuard 16 = .ok (.istore_n 3, 1) := by decide +kernel
theorem dX4_bestGuard_17 : decode cX4_bestGuard 17 = .ok (.iload_n 3, 1) := by decide +kernel
theorem dX4_bestGuard_18 : decode cX4_bestGuard 18 = .ok (.bipush 16, 2) := by decide +kernel
theorem dX4_bestGuard_20 : decode cX4_bestGuard 20 = .ok (.if_icmp .ge 61, 3) := by decide +kernel
theorem dX4_bestGuard_23 : decode cX4_bestGuard 23 = .ok (.aload_n 0, 1) := by decide +kernel
theorem dX4_bestGuard_24 : decode cX4_bestGuard 24 = .ok (.getfield 10, 3) := by decide +kernel
theorem dX4_bestGuard_27 : decode cX4_bestGuard 27 = .ok (.getfield 88, 3) := by decide +kernel
theorem dX4_bestGuard_30 : decode cX4_bestGuard 30 = .ok (.iload_n 3, 1) := by decide +kernel
theorem dX4_bestGuard_31 : decode cX4_bestGuard 31 = .ok (.invokestatic 70, 3) := by decide +kernel
theorem dX4_bestGuard_34 : decode cX4_bestGuard 34 = .ok (.ifCond .ne 41, 3) := by decide +kernel
theorem dX4_bestGuard_37 : decode cX4_bestGuard 37 = .ok (.aload_n 0, 1) := by decide +kernel
theorem dX4_bestGuard_38 : decode cX4_bestGuard 38 = .ok (.getfield 16, 3) := by decide +kernel
theorem dX4_bestGuard_41 : decode cX4_bestGuard 41 = .ok (.aload_n 0, 1) := by decide +kernel
theorem dX4_bestGuard_42 : decode cX4_bestGuard 42 = .ok (.getfield 10, 3) := by decide +kernel
theorem dX4_bestGuard_45 : decode cX4_bestGuard 45 = .ok (.getfield 88, 3) := by decide +kernel
theorem dX4_bestGuard_48 : decode cX4_bestGuard 48 = .ok (.iconst 1, 1) := by decide +kernel
theorem dX4_bestGuard_49 : decode cX4_bestGuard 49 = .ok (.iload_n 3, 1) := by decide +kernel
theorem dX4_bestGuard_50 : decode cX4_bestGuard 50 = .ok (.ishl, 1) := by decide +kernel
theorem dX4_bestGuard_51 : decode cX4_bestGuard 51 = .ok (.ior, 1) := by decide +kernel
theorem dX4_bestGuard_52 : decode cX4_bestGuard 52 = .ok (.putfield 88, 3) := by decide +kernel
theorem dX4_bestGuard_55 : decode cX4_bestGuard 55 = .ok (.aload_n 0, 1) := by decide +kernel
theorem dX4_bestGuard_56 : decode cX4_bestGuard 56 = .ok (.getfield 16, 3) := by decide +kernel
theorem dX4_bestGuard_59 : decode cX4_bestGuard 59 = .ok (.invokevirtual 256, 3) := by decide +kernel
theorem dX4_bestGuard_62 : decode cX4_bestGuard 62 = .ok (.istore 4, 2) := by decide +kernel
theorem dX4_bestGuard_64 : decode cX4_bestGuard 64 = .ok (.iload 4, 2) := by decide +kernel
theorem dX4_bestGuard_66 : decode cX4_bestGuard 66 = .ok (.iload_n 2, 1) := by decide +kernel
theorem dX4_bestGuard_67 : decode cX4_bestGuard 67 = .ok (.if_icmp .le 8, 3) := by decide +kernel
theorem dX4_bestGuard_70 : decode cX4_bestGuard 70 = .ok (.iload_n 3, 1) := by decide +kernel
theorem dX4_bestGuard_71 : decode cX4_bestGuard 71 = .ok (.istore_n 1, 1) := by decide +kernel
theorem dX4_bestGuard_72 : decode cX4_bestGuard 72 = .ok (.iload 4, 2) := by decide +kernel
theorem dX4_bestGuard_74 : decode cX4_bestGuard 74 = .ok (.istore_n 2, 1) := by decide +kernel
theorem dX4_bestGuard_75 : decode cX4_bestGuard 75 = .ok (.iinc 3 1, 3) := by decide +kernel
theorem dX4_bestGuard_78 : decode cX4_bestGuard 78 = .ok (.goto (-61), 3) := by decide +kernel
theorem dX4_bestGuard_81 : decode cX4_bestGuard 81 = .ok (.iload_n 1, 1) := by decide +kernel
theorem dX4_bestGuard_82 : decode cX4_bestGuard 82 = .ok (.ireturn, 1) := by decide +kernel
set_option maxRecDepth 20000 in
theorem ggX4_lastsFor_X4_isThread : GoodIn wsX4_lastsFor wsX4_isThread := goodIn_r _ [7, 8, 9, 6, 10] (by decide +kernel) (by decide +kernel)
set_option maxRecDepth 20000 in
theorem gX4_lastsFor_X4_isThread : GoodIn wsX4_lastsFor (va_wsS RX4 45 yX4_isThread wsX4_isThread) := goodIn_app (goodIn_of _ (by decide +kernel)) ggX4_lastsFor_X4_isThread
set_option maxRecDepth 20000 in
theorem ggX4_lastsFor_X2_readingsUntilChange : GoodIn wsX4_lastsFor wsX2_readingsUntilChange := goodIn_r _ [15, 16, 17, 18, 19, 6, 20, 28, 29, 30, 31, 32, 33, 34, 35] (by decide +kernel) (by decide +kernel)
set_option maxRecDepth 20000 in
theorem gX4_lastsFor_X2_readingsUntilChange : GoodIn wsX4_lastsFor (wsV RX4 273 RX2 yX2_readingsUntilChange wsX2_readingsUntilChange) := goodIn_app (goodIn_of _ (by decide +kernel)) ggX4_lastsFor_X2_readingsUntilChange
theorem dX4_lastsFor_0 : decode cX4_lastsFor 0 = .ok (.iload_n 1, 1) := by decide +kernel
theorem dX4_lastsFor_1 : decode cX4_lastsFor 1 = .ok (.invokestatic 45, 3) := by decide +kernel
theorem dX4_lastsFor_4 : decode cX4_lastsFor 4 = .ok (.ifCond .ne 13, 3) := by decide +kernel
theorem dX4_lastsFor_7 : decode cX4_lastsFor 7 = .ok (.new 52, 3) := by decide +kernel
theorem dX4_lastsFor_10 : decode cX4_lastsFor 10 = .ok (.dup, 1) := by decide +kernel
theorem dX4_lastsFor_11 : decode cX4_lastsFor 11 = .ok (.ldc 73, 2) := by decide +kernel
theorem dX4_lastsFor_13 : decode cX4_lastsFor 13 = .ok (.invokespecial 56, 3) := by decide +kernel
theorem dX4_lastsFor_16 : decode cX4_lastsFor 16 = .ok (.athrow, 1) := by decide +kernel
theorem dX4_lastsFor_17 : decode cX4_lastsFor 17 = .ok (.aload_n 0, 1) := by decide +kernel
theorem dX4_lastsFor_18 : decode cX4_lastsFor 18 = .ok (.getfield 10, 3) := by decide +kernel
theorem dX4_lastsFor_21 : decode cX4_lastsFor 21 = .ok (.iload_n 1, 1) := by decide +kernel
theorem dX4_lastsFor_22 : decode cX4_lastsFor 22 = .ok (.invokevirtual 273, 3) := by decide +kernel
theorem dX4_lastsFor_25 : decode cX4_lastsFor 25 = .ok (.ireturn, 1) := by decide +kernel
set_option maxRecDepth 20000 in
theorem ggX4_ifGone_X4_isWithin : GoodIn wsX4_ifGone wsX4_isWithin := goodIn_r _ [12] (by decide +kernel) (by decide +kernel)
set_option maxRecDepth 20000 in
theorem gX4_ifGone_X4_isWithin : GoodIn wsX4_ifGone (va_wsS RX4 75 yX4_isWithin wsX4_isWithin) := goodIn_app (goodIn_of _ (by decide +kernel)) ggX4_ifGone_X4_isWithin
set_option maxRecDepth 20000 in
theorem ggX4_ifGone_X2_become : GoodIn wsX4_ifGone wsX2_become := goodIn_r _ [17, 18, 19, 20, 21, 22, 23, 24, 25, 26, 27, 28, 29, 30, 31, 32, 33, 34, 35, 36, 37, 38, 39, 40, 41, 42, 101, 102, 103, 104, 105, 106, 107, 108, 109, 110, 111, 112, 113, 114, 115] (by decide +kernel) (by decide +kernel)
set_option maxRecDepth 20000 in
theorem gX4_ifGone_X2_become : GoodIn wsX4_ifGone (wsV RX4 170 RX2 yX2_become wsX2_become) := goodIn_app (goodIn_of _ (by decide +kernel)) ggX4_ifGone_X2_become
set_option maxRecDepth 20000 in
theorem ggX4_ifGone_X2_run : GoodIn wsX4_ifGone wsX2_run := goodIn_r _ [46, 26, 47, 48, 49, 50, 51, 16, 52, 18, 23, 29, 53, 54, 55, 56, 57, 58, 59, 60, 25, 61, 11, 62, 63, 64, 65, 66, 67, 68, 69, 70, 24, 71, 72, 73, 74, 27, 75, 76, 77, 78, 79, 80, 81, 82, 83, 84, 85, 86, 87, 88, 33, 89, 41, 38, 40, 39, 35, 90, 91, 92, 93, 37, 42, 101, 102, 103, 104, 105, 106, 107, 108, 109, 110, 111, 112, 113, 114, 115] (by decide +kernel) (by decide +kernel)
set_option maxRecDepth 20000 in
theorem gX4_ifGone_X2_run : GoodIn wsX4_ifGone (wsV RX4 124 RX2 yX2_run wsX2_run) := goodIn_app (goodIn_of _ (by decide +kernel)) ggX4_ifGone_X2_run
theorem dX4_ifGone_0 : decode cX4_ifGone 0 = .ok (.iload_n 1, 1) := by decide +kernel
theorem dX4_ifGone_1 : decode cX4_ifGone 1 = .ok (.iconst 1, 1) := by decide +kernel
theorem dX4_ifGone_2 : decode cX4_ifGone 2 = .ok (.bipush 99, 2) := by decide +kernel
theorem dX4_ifGone_4 : decode cX4_ifGone 4 = .ok (.invokestatic 75, 3) := by decide +kernel
theorem dX4_ifGone_7 : decode cX4_ifGone 7 = .ok (.ifCond .eq 12, 3) := by decide +kernel
theorem dX4_ifGone_10 : decode cX4_ifGone 10 = .ok (.iload_n 2, 1) := by decide +kernel
theorem dX4_ifGone_11 : decode cX4_ifGone 11 = .ok (.iconst 0, 1) := by decide +kernel
theorem dX4_ifGone_12 : decode cX4_ifGone 12 = .ok (.iconst 3, 1) := by decide +kernel
theorem dX4_ifGone_13 : decode cX4_ifGone 13 = .ok (.invokestatic 75, 3) := by decide +kernel
theorem dX4_ifGone_16 : decode cX4_ifGone 16 = .ok (.ifCond .ne 14, 3) := by decide +kernel
theorem dX4_ifGone_19 : decode cX4_ifGone 19 = .ok (.new 79, 3) := by decide +kernel
theorem dX4_ifGone_22 : decode cX4_ifGone 22 = .ok (.dup, 1) := by decide +kernel
theorem dX4_ifGone_23 : decode cX4_ifGone 23 = .ok (.ldc_w 276, 3) := by decide +kernel
theorem dX4_ifGone_26 : decode cX4_ifGone 26 = .ok (.invokespecial 83, 3) := by decide +kernel
theorem dX4_ifGone_29 : decode cX4_ifGone 29 = .ok (.athrow, 1) := by decide +kernel
theorem dX4_ifGone_30 : decode cX4_ifGone 30 = .ok (.aload_n 0, 1) := by decide +kernel
theorem dX4_ifGone_31 : decode cX4_ifGone 31 = .ok (.getfield 16, 3) := by decide +kernel
theorem dX4_ifGone_34 : decode cX4_ifGone 34 = .ok (.aload_n 0, 1) := by decide +kernel
theorem dX4_ifGone_35 : decode cX4_ifGone 35 = .ok (.getfield 10, 3) := by decide +kernel
theorem dX4_ifGone_38 : decode cX4_ifGone 38 = .ok (.invokevirtual 170, 3) := by decide +kernel
theorem dX4_ifGone_41 : decode cX4_ifGone 41 = .ok (.aload_n 0, 1) := by decide +kernel
theorem dX4_ifGone_42 : decode cX4_ifGone 42 = .ok (.getfield 16, 3) := by decide +kernel
theorem dX4_ifGone_45 : decode cX4_ifGone 45 = .ok (.iload_n 1, 1) := by decide +kernel
theorem dX4_ifGone_46 : decode cX4_ifGone 46 = .ok (.invokevirtual 124, 3) := by decide +kernel
theorem dX4_ifGone_49 : decode cX4_ifGone 49 = .ok (.istore_n 3, 1) := by decide +kernel
theorem dX4_ifGone_50 : decode cX4_ifGone 50 = .ok (.iload_n 2, 1) := by decide +kernel
theorem dX4_ifGone_51 : decode cX4_ifGone 51 = .ok (.tableswitch 49 0 2 #[25, 27, 38], 25) := by decide +kernel
theorem dX4_ifGone_76 : decode cX4_ifGone 76 = .ok (.iload_n 3, 1) := by decide +kernel
theorem dX4_ifGone_77 : decode cX4_ifGone 77 = .ok (.ireturn, 1) := by decide +kernel
theorem dX4_ifGone_78 : decode cX4_ifGone 78 = .ok (.aload_n 0, 1) := by decide +kernel
theorem dX4_ifGone_79 : decode cX4_ifGone 79 = .ok (.getfield 16, 3) := by decide +kernel
theorem dX4_ifGone_82 : decode cX4_ifGone 82 = .ok (.getfield 110, 3) := by decide +kernel
theorem dX4_ifGone_85 : decode cX4_ifGone 85 = .ok (.getfield 227, 3) := by decide +kernel
theorem dX4_ifGone_88 : decode cX4_ifGone 88 = .ok (.ireturn, 1) := by decide +kernel
theorem dX4_ifGone_89 : decode cX4_ifGone 89 = .ok (.aload_n 0, 1) := by decide +kernel
theorem dX4_ifGone_90 : decode cX4_ifGone 90 = .ok (.getfield 16, 3) := by decide +kernel
theorem dX4_ifGone_93 : decode cX4_ifGone 93 = .ok (.getfield 110, 3) := by decide +kernel
theorem dX4_ifGone_96 : decode cX4_ifGone 96 = .ok (.getfield 224, 3) := by decide +kernel
theorem dX4_ifGone_99 : decode cX4_ifGone 99 = .ok (.ireturn, 1) := by decide +kernel
theorem dX4_ifGone_100 : decode cX4_ifGone 100 = .ok (.aload_n 0, 1) := by decide +kernel
theorem dX4_ifGone_101 : decode cX4_ifGone 101 = .ok (.getfield 16, 3) := by decide +kernel
theorem dX4_ifGone_104 : decode cX4_ifGone 104 = .ok (.getfield 110, 3) := by decide +kernel
theorem dX4_ifGone_107 : decode cX4_ifGone 107 = .ok (.getfield 237, 3) := by decide +kernel
theorem dX4_ifGone_110 : decode cX4_ifGone 110 = .ok (.aload_n 0, 1) := by decide +kernel
theorem dX4_ifGone_111 : decode cX4_ifGone 111 = .ok (.getfield 10, 3) := by decide +kernel
theorem dX4_ifGone_114 : decode cX4_ifGone 114 = .ok (.getfield 110, 3) := by decide +kernel
theorem dX4_ifGone_117 : decode cX4_ifGone 117 = .ok (.getfield 237, 3) := by decide +kernel
theorem dX4_ifGone_120 : decode cX4_ifGone 120 = .ok (.isub, 1) := by decide +kernel
theorem dX4_ifGone_121 : decode cX4_ifGone 121 = .ok (.ireturn, 1) := by decide +kernel
set_option maxRecDepth 20000 in
theorem ggX4_rightShare_X2_threadsRight : GoodIn wsX4_rightShare wsX2_threadsRight := goodIn_r _ [7, 8, 9, 10, 11, 6, 12, 13, 14, 15, 16, 17, 18, 19, 20, 21, 22, 23, 24, 25, 26, 27, 28, 29, 30, 38, 39, 40, 41, 42, 43, 44, 45] (by decide +kernel) (by decide +kernel)
set_option maxRecDepth 20000 in
theorem gX4_rightShare_X2_threadsRight : GoodIn wsX4_rightShare (wsV RX4 256 RX2 yX2_threadsRight wsX2_threadsRight) := goodIn_app (goodIn_of _ (by decide +kernel)) ggX4_rightShare_X2_threadsRight
theorem dX4_rightShare_0 : decode cX4_rightShare 0 = .ok (.aload_n 0, 1) := by decide +kernel
theorem dX4_rightShare_1 : decode cX4_rightShare 1 = .ok (.getfield 10, 3) := by decide +kernel
theorem dX4_rightShare_4 : decode cX4_rightShare 4 = .ok (.invokevirtual 256, 3) := by decide +kernel
theorem dX4_rightShare_7 : decode cX4_rightShare 7 = .ok (.i2d, 1) := by decide +kernel
theorem dX4_rightShare_8 : decode cX4_rightShare 8 = .ok (.ldc2_w 278, 3) := by decide +kernel
theorem dX4_rightShare_11 : decode cX4_rightShare 11 = .ok (.ddiv, 1) := by decide +kernel
theorem dX4_rightShare_12 : decode cX4_rightShare 12 = .ok (.dreturn, 1) := by decide +kernel
set_option maxRecDepth 20000 in
theorem ggX4_meanWear_X2_wearOfAll : GoodIn wsX4_meanWear wsX2_wearOfAll := goodIn_r _ [7, 8, 16, 17, 18, 19, 20, 21, 22, 23] (by decide +kernel) (by decide +kernel)
set_option maxRecDepth 20000 in
theorem gX4_meanWear_X2_wearOfAll : GoodIn wsX4_meanWear (wsV RX4 280 RX2 yX2_wearOfAll wsX2_wearOfAll) := goodIn_app (goodIn_of _ (by decide +kernel)) ggX4_meanWear_X2_wearOfAll
theorem dX4_meanWear_0 : decode cX4_meanWear 0 = .ok (.aload_n 0, 1) := by decide +kernel
theorem dX4_meanWear_1 : decode cX4_meanWear 1 = .ok (.getfield 10, 3) := by decide +kernel
theorem dX4_meanWear_4 : decode cX4_meanWear 4 = .ok (.invokevirtual 280, 3) := by decide +kernel
theorem dX4_meanWear_7 : decode cX4_meanWear 7 = .ok (.i2f, 1) := by decide +kernel
theorem dX4_meanWear_8 : decode cX4_meanWear 8 = .ok (.ldc_w 283, 3) := by decide +kernel
theorem dX4_meanWear_11 : decode cX4_meanWear 11 = .ok (.fdiv, 1) := by decide +kernel
theorem dX4_meanWear_12 : decode cX4_meanWear 12 = .ok (.freturn, 1) := by decide +kernel
set_option maxRecDepth 20000 in
theorem ggX4_digest_X4_count : GoodIn wsX4_digest wsX4_count := goodIn_ca (goodIn_r _ [10, 11, 12, 3, 13, 14, 15, 16, 17, 18, 19, 20, 21, 22, 23, 24, 25, 26, 27, 28, 29, 30, 31, 32, 33, 34, 35, 36, 37, 38, 39, 9, 40, 41, 42, 43, 44, 45, 46, 47, 48, 49, 50, 51, 52, 53, 54, 55, 56, 57, 58, 59, 60, 61, 62, 63, 64, 65, 66, 67, 68, 69, 70, 71, 72, 73, 74, 75, 76, 77, 78, 79, 80, 81, 82, 83, 84, 85, 86, 87, 88, 269, 270, 271, 272, 273, 274, 275, 276, 277, 278, 279, 280, 281, 282, 283, 284, 285, 286] (by decide +kernel) (by decide +kernel)) (goodIn_sub (fun _ h => List.mem_cons_of_mem _ (List.mem_append_left _ (List.mem_append_right _ h))) (by decide +kernel))
set_option maxRecDepth 20000 in
theorem gX4_digest_X4_count : GoodIn wsX4_digest (wsV RX4 288 RX4 yX4_count wsX4_count) := goodIn_app (goodIn_of _ (by decide +kernel)) ggX4_digest_X4_count
set_option maxRecDepth 20000 in
theorem ggX4_digest_X4_digestThreads : GoodIn wsX4_digest wsX4_digestThreads := goodIn_ca (goodIn_ca (goodIn_r _ [92, 2, 3, 93, 94, 95, 9, 96, 97, 98, 11, 12, 99, 15, 100, 101, 102, 103, 104, 105, 106, 107, 39, 40, 108, 109, 110, 21, 111, 23, 78, 79, 80, 81, 49, 74, 75, 76, 77, 45, 46, 47, 48, 50, 51, 52, 53, 54, 55, 56, 57, 58, 59, 60, 61, 62, 63, 64, 25, 26, 27, 28, 29, 30, 112, 113, 114, 115, 116, 269, 270, 271, 272, 273, 274, 275, 276, 277, 278, 279, 280, 281, 282, 283] (by decide +kernel) (by decide +kernel)) (goodIn_sub (fun _ h => List.mem_cons_of_mem _ (List.mem_append_right _ h)) (by decide +kernel))) (goodIn_sub (fun _ h => List.mem_cons_of_mem _ (List.mem_append_left _ (List.mem_append_right _ h))) (by decide +kernel))
set_option maxRecDepth 20000 in
theorem gX4_digest_X4_digestThreads : GoodIn wsX4_digest (wsV RX4 290 RX4 yX4_digestThreads wsX4_digestThreads) := goodIn_app (goodIn_of _ (by decide +kernel)) ggX4_digest_X4_digestThreads
set_option maxRecDepth 20000 in
theorem ggX4_digest_X4_digestRings : GoodIn wsX4_digest wsX4_digestRings := goodIn_ca (goodIn_ca (goodIn_r _ [120, 2, 121, 122, 123, 9, 124, 97, 98, 11, 12, 3, 125, 126, 127, 128, 104, 105, 106, 129, 36, 37, 21, 38, 23, 39, 40, 64, 25, 26, 27, 28, 29, 30, 130, 131, 132, 133, 45, 46, 47, 48, 49, 50, 51, 52, 53, 54, 55, 56, 57, 58, 59, 60, 61, 62, 63, 134, 135, 136, 137, 35, 138, 139, 140, 141, 101, 102, 103, 142, 143, 144, 145, 146, 269, 270, 271, 272, 273, 274, 275, 276, 277, 278, 279, 280, 281, 282, 283] (by decide +kernel) (by decide +kernel)) (goodIn_sub (fun _ h => List.mem_cons_of_mem _ (List.mem_append_right _ h)) (by decide +kernel))) (goodIn_sub (fun _ h => List.mem_cons_of_mem _ (List.mem_append_left _ (List.mem_append_right _ h))) (by decide +kernel))
set_option maxRecDepth 20000 in
theorem gX4_digest_X4_digestRings : GoodIn wsX4_digest (wsV RX4 294 RX4 yX4_digestRings wsX4_digestRings) := goodIn_app (goodIn_of _ (by decide +kernel)) ggX4_digest_X4_digestRings
set_option maxRecDepth 20000 in
theorem ggX4_digest_X4_digestMachine : GoodIn wsX4_digest wsX4_digestMachine := goodIn_ca (goodIn_r _ [150, 2, 3, 151, 152, 153, 154, 155, 9, 156, 11, 12, 157, 158, 159, 160, 161, 162, 269, 270, 271, 272, 273, 274, 275, 276, 277, 278, 279, 280, 281, 282, 283, 287, 288, 289, 290, 291, 292, 293] (by decide +kernel) (by decide +kernel)) (goodIn_sub (fun _ h => List.mem_cons_of_mem _ (List.mem_append_left _ (List.mem_append_right _ h))) (by decide +kernel))
set_option maxRecDepth 20000 in
theorem gX4_digest_X4_digestMachine : GoodIn wsX4_digest (wsV RX4 297 RX4 yX4_digestMachine wsX4_digestMachine) := goodIn_app (goodIn_of _ (by decide +kernel)) ggX4_digest_X4_digestMachine
set_option maxRecDepth 20000 in
theorem ggX4_digest_X4_ifGone : GoodIn wsX4_digest wsX4_ifGone := goodIn_ca (goodIn_r _ [166, 11, 12, 167, 3, 151, 158, 157, 162, 104, 105, 9, 106, 168, 169, 170, 21, 171, 23, 172, 173, 174, 175, 176, 58, 49, 177, 63, 178, 179, 180, 181, 182, 183, 184, 185, 186, 187, 188, 189, 190, 191, 192, 193, 194, 195, 196, 197, 198, 199, 200, 201, 202, 203, 75, 76, 77, 45, 46, 47, 48, 39, 40, 50, 51, 52, 53, 54, 55, 56, 57, 59, 60, 61, 62, 78, 79, 80, 81, 204, 205, 206, 207, 86, 87, 88, 208, 209, 210, 211, 212, 213, 214, 215, 269, 270, 271, 272, 273, 274, 275, 276, 277, 278, 279, 280, 281, 282, 283, 287, 288, 289, 290, 291, 292, 293] (by decide +kernel) (by decide +kernel)) (goodIn_sub (fun _ h => List.mem_cons_of_mem _ (List.mem_append_left _ (List.mem_append_right _ h))) (by decide +kernel))
set_option maxRecDepth 20000 in
theorem gX4_digest_X4_ifGone : GoodIn wsX4_digest (wsV RX4 300 RX4 yX4_ifGone wsX4_ifGone) := goodIn_app (goodIn_of _ (by decide +kernel)) ggX4_digest_X4_ifGone
set_option maxRecDepth 20000 in
theorem ggX4_digest_X4_ifLoaded : GoodIn wsX4_digest wsX4_ifLoaded := goodIn_ca (goodIn_r _ [219, 97, 98, 220, 101, 102, 9, 103, 104, 105, 106, 221, 222, 223, 224, 225, 226, 227, 228, 229, 230, 231, 232, 233, 234, 235, 236, 237, 238, 239, 240, 241, 242, 243, 244, 245, 246, 3, 247, 108, 109, 110, 21, 111, 23, 78, 79, 80, 81, 49, 64, 25, 26, 27, 28, 29, 30, 269, 270, 271, 272, 273, 274, 275, 294, 295, 296, 297, 298, 276, 277, 278, 279, 280, 281, 282, 283] (by decide +kernel) (by decide +kernel)) (goodIn_sub (fun _ h => List.mem_cons_of_mem _ (List.mem_append_right _ h)) (by decide +kernel))
set_option maxRecDepth 20000 in
theorem gX4_digest_X4_ifLoaded : GoodIn wsX4_digest (wsV RX4 303 RX4 yX4_ifLoaded wsX4_ifLoaded) := goodIn_app (goodIn_of _ (by decide +kernel)) ggX4_digest_X4_ifLoaded
set_option maxRecDepth 20000 in
theorem ggX4_digest_X4_bestPlace : GoodIn wsX4_digest wsX4_bestPlace := goodIn_r _ [251, 220, 221, 222, 223, 224, 225, 226, 227, 228, 229, 230, 231, 232, 233, 234, 235, 236, 237, 238, 239, 240, 241, 242, 243, 244, 9, 245, 246, 3, 247, 108, 109, 110, 21, 111, 23, 78, 79, 80, 81, 49, 64, 25, 26, 27, 28, 29, 30, 269, 270, 271, 272, 273, 274, 275, 294, 295, 296, 297, 298, 276, 277, 278, 279, 280, 281, 282, 283] (by decide +kernel) (by decide +kernel)
set_option maxRecDepth 20000 in
theorem gX4_digest_X4_bestPlace : GoodIn wsX4_digest (wsV RX4 306 RX4 yX4_bestPlace wsX4_bestPlace) := goodIn_app (goodIn_of _ (by decide +kernel)) ggX4_digest_X4_bestPlace
set_option maxRecDepth 20000 in
theorem ggX4_digest_X4_bestGuard : GoodIn wsX4_digest wsX4_bestGuard := goodIn_r _ [255, 167, 3, 15, 168, 169, 170, 21, 171, 23, 172, 173, 174, 175, 176, 58, 49, 177, 63, 178, 179, 180, 181, 182, 183, 184, 185, 186, 187, 188, 189, 190, 191, 192, 107, 39, 9, 40, 41, 42, 43, 44, 45, 46, 47, 48, 50, 51, 52, 53, 54, 55, 56, 57, 59, 60, 61, 62, 269, 270, 271, 272, 273, 274, 275, 276, 277, 278, 279, 280, 281, 282, 283, 287, 288, 289, 290, 291, 292, 293] (by decide +kernel) (by decide +kernel)
set_option maxRecDepth 20000 in
theorem gX4_digest_X4_bestGuard : GoodIn wsX4_digest (wsV RX4 309 RX4 yX4_bestGuard wsX4_bestGuard) := goodIn_app (goodIn_of _ (by decide +kernel)) ggX4_digest_X4_bestGuard
set_option maxRecDepth 20000 in
theorem ggX4_digest_X2_threadsRight : GoodIn wsX4_digest wsX2_threadsRight := goodIn_r _ [44, 23, 45, 46, 47, 21, 48, 49, 39, 9, 40, 50, 51, 52, 53, 54, 55, 56, 57, 58, 59, 60, 61, 62, 63, 276, 277, 278, 279, 280, 281, 282, 283] (by decide +kernel) (by decide +kernel)
set_option maxRecDepth 20000 in
theorem gX4_digest_X2_threadsRight : GoodIn wsX4_digest (wsV RX4 256 RX2 yX2_threadsRight wsX2_threadsRight) := goodIn_app (goodIn_of _ (by decide +kernel)) ggX4_digest_X2_threadsRight
set_option maxRecDepth 20000 in
theorem ggX4_digest_X4_bitsOfShare : GoodIn wsX4_digest wsX4_bitsOfShare := goodIn_r _ [258, 107, 39, 9, 40] (by decide +kernel) (by decide +kernel)
set_option maxRecDepth 20000 in
theorem gX4_digest_X4_bitsOfShare : GoodIn wsX4_digest (va_wsS RX4 312 yX4_bitsOfShare wsX4_bitsOfShare) := goodIn_app (goodIn_of _ (by decide +kernel)) ggX4_digest_X4_bitsOfShare
set_option maxRecDepth 20000 in
theorem ggX4_digest_X2_wearOfAll : GoodIn wsX4_digest wsX2_wearOfAll := goodIn_r _ [262, 58, 276, 277, 278, 279, 280, 281, 282, 283] (by decide +kernel) (by decide +kernel)
set_option maxRecDepth 20000 in
theorem gX4_digest_X2_wearOfAll : GoodIn wsX4_digest (wsV RX4 280 RX2 yX2_wearOfAll wsX2_wearOfAll) := goodIn_app (goodIn_of _ (by decide +kernel)) ggX4_digest_X2_wearOfAll
set_option maxRecDepth 20000 in
theorem ggX4_digest_X4_digestBuffer : GoodIn wsX4_digest wsX4_digestBuffer := goodIn_r _ [266, 2, 220, 267, 268, 269, 270, 271, 272, 273, 274, 275, 294, 295, 296, 297, 298] (by decide +kernel) (by decide +kernel)
set_option maxRecDepth 20000 in
theorem gX4_digest_X4_digestBuffer : GoodIn wsX4_digest (wsV RX4 316 RX4 yX4_digestBuffer wsX4_digestBuffer) := goodIn_app (goodIn_of _ (by decide +kernel)) ggX4_digest_X4_digestBuffer
theorem dX4_digest_0 : decode cX4_digest 0 = .ok (.ldc2_w 284, 3) := by decide +kernel
theorem dX4_digest_3 : decode cX4_digest 3 = .ok (.lstore_n 1, 1) := by decide +kernel
theorem dX4_digest_4 : decode cX4_digest 4 = .ok (.iconst 0, 1) := by decide +kernel
theorem dX4_digest_5 : decode cX4_digest 5 = .ok (.istore_n 3, 1) := by decide +kernel
theorem dX4_digest_6 : decode cX4_digest 6 = .ok (.iload_n 3, 1) := by decide +kernel
theorem dX4_digest_7 : decode cX4_digest 7 = .ok (.bipush 9, 2) := by decide +kernel
theorem dX4_digest_9 : decode cX4_digest 9 = .ok (.if_icmp .gt 22, 3) := by decide +kernel
theorem dX4_digest_12 : decode cX4_digest 12 = .ok (.ldc2_w 286, 3) := by decide +kernel
theorem dX4_digest_15 : decode cX4_digest 15 = .ok (.lload_n 1, 1) := by decide +kernel
theorem dX4_digest_16 : decode cX4_digest 16 = .ok (.lmul, 1) := by decide +kernel
theorem dX4_digest_17 : decode cX4_digest 17 = .ok (.aload_n 0, 1) := by decide +kernel
theorem dX4_digest_18 : decode cX4_digest 18 = .ok (.iload_n 3, 1) := by decide +kernel
theorem dX4_digest_19 : decode cX4_digest 19 = .ok (.invokevirtual 288, 3) := by decide +kernel
theorem dX4_digest_22 : decode cX4_digest 22 = .ok (.i2l, 1) := by decide +kernel
theorem dX4_digest_23 : decode cX4_digest 23 = .ok (.ladd, 1) := by decide +kernel
theorem dX4_digest_24 : decode cX4_digest 24 = .ok (.lstore_n 1, 1) := by decide +kernel
theorem dX4_digest_25 : decode cX4_digest 25 = .ok (.iinc 3 1, 3) := by decide +kernel
theorem dX4_digest_28 : decode cX4_digest 28 = .ok (.goto (-22), 3) := by decide +kernel
theorem dX4_digest_31 : decode cX4_digest 31 = .ok (.iconst 0, 1) := by decide +kernel
theorem dX4_digest_32 : decode cX4_digest 32 = .ok (.istore_n 3, 1) := by decide +kernel
theorem dX4_digest_33 : decode cX4_digest 33 = .ok (.iload_n 3, 1) := by decide +kernel
theorem dX4_digest_34 : decode cX4_digest 34 = .ok (.iconst 2, 1) := by decide +kernel
theorem dX4_digest_35 : decode cX4_digest 35 = .ok (.if_icmp .ge 26, 3) := by decide +kernel
theorem dX4_digest_38 : decode cX4_digest 38 = .ok (.ldc2_w 286, 3) := by decide +kernel
theorem dX4_digest_41 : decode cX4_digest 41 = .ok (.lload_n 1, 1) := by decide +kernel
theorem dX4_digest_42 : decode cX4_digest 42 = .ok (.lmul, 1) := by decide +kernel
theorem dX4_digest_43 : decode cX4_digest 43 = .ok (.aload_n 0, 1) := by decide +kernel
theorem dX4_digest_44 : decode cX4_digest 44 = .ok (.getfield 10, 3) := by decide +kernel
theorem dX4_digest_47 : decode cX4_digest 47 = .ok (.getfield 104, 3) := by decide +kernel
theorem dX4_digest_50 : decode cX4_digest 50 = .ok (.iload_n 3, 1) := by decide +kernel
theorem dX4_digest_51 : decode cX4_digest 51 = .ok (.iaload, 1) := by decide +kernel
theorem dX4_digest_52 : decode cX4_digest 52 = .ok (.i2l, 1) := by decide +kernel
theorem dX4_digest_53 : decode cX4_digest 53 = .ok (.ladd, 1) := by decide +kernel
theorem dX4_digest_54 : decode cX4_digest 54 = .ok (.lstore_n 1, 1) := by decide +kernel
theorem dX4_digest_55 : decode cX4_digest 55 = .ok (.iinc 3 1, 3) := by decide +kernel
theorem dX4_digest_58 : decode cX4_digest 58 = .ok (.goto (-25), 3) := by decide +kernel
theorem dX4_digest_61 : decode cX4_digest 61 = .ok (.aload_n 0, 1) := by decide +kernel
theorem dX4_digest_62 : decode cX4_digest 62 = .ok (.aload_n 0, 1) := by decide +kernel
theorem dX4_digest_63 : decode cX4_digest 63 = .ok (.aload_n 0, 1) := by decide +kernel
theorem dX4_digest_64 : decode cX4_digest 64 = .ok (.lload_n 1, 1) := by decide +kernel
theorem dX4_digest_65 : decode cX4_digest 65 = .ok (.invokevirtual 290, 3) := by decide +kernel
theorem dX4_digest_68 : decode cX4_digest 68 = .ok (.invokevirtual 294, 3) := by decide +kernel
theorem dX4_digest_71 : decode cX4_digest 71 = .ok (.invokevirtual 297, 3) := by decide +kernel
theorem dX4_digest_74 : decode cX4_digest 74 = .ok (.lstore_n 1, 1) := by decide +kernel
theorem dX4_digest_75 : decode cX4_digest 75 = .ok (.iconst 0, 1) := by decide +kernel
theorem dX4_digest_76 : decode cX4_digest 76 = .ok (.istore_n 3, 1) := by decide +kernel
theorem dX4_digest_77 : decode cX4_digest 77 = .ok (.iload_n 3, 1) := by decide +kernel
theorem dX4_digest_78 : decode cX4_digest 78 = .ok (.iconst 3, 1) := by decide +kernel
theorem dX4_digest_79 : decode cX4_digest 79 = .ok (.if_icmp .gt 24, 3) := by decide +kernel
theorem dX4_digest_82 : decode cX4_digest 82 = .ok (.ldc2_w 286, 3) := by decide +kernel
theorem dX4_digest_85 : decode cX4_digest 85 = .ok (.lload_n 1, 1) := by decide +kernel
theorem dX4_digest_86 : decode cX4_digest 86 = .ok (.lmul, 1) := by decide +kernel
theorem dX4_digest_87 : decode cX4_digest 87 = .ok (.aload_n 0, 1) := by decide +kernel
theorem dX4_digest_88 : decode cX4_digest 88 = .ok (.bipush 20, 2) := by decide +kernel
theorem dX4_digest_90 : decode cX4_digest 90 = .ok (.iload_n 3, 1) := by decide +kernel
theorem dX4_digest_91 : decode cX4_digest 91 = .ok (.invokevirtual 300, 3) := by decide +kernel
theorem dX4_digest_94 : decode cX4_digest 94 = .ok (.i2l, 1) := by decide +kernel
theorem dX4_digest_95 : decode cX4_digest 95 = .ok (.ladd, 1) := by decide +kernel
theorem dX4_digest_96 : decode cX4_digest 96 = .ok (.lstore_n 1, 1) := by decide +kernel
theorem dX4_digest_97 : decode cX4_digest 97 = .ok (.iinc 3 1, 3) := by decide +kernel
theorem dX4_digest_100 : decode cX4_digest 100 = .ok (.goto (-23), 3) := by decide +kernel
theorem dX4_digest_103 : decode cX4_digest 103 = .ok (.ldc2_w 286, 3) := by decide +kernel
theorem dX4_digest_106 : decode cX4_digest 106 = .ok (.lload_n 1, 1) := by decide +kernel
theorem dX4_digest_107 : decode cX4_digest 107 = .ok (.lmul, 1) := by decide +kernel
theorem dX4_digest_108 : decode cX4_digest 108 = .ok (.aload_n 0, 1) := by decide +kernel
theorem dX4_digest_109 : decode cX4_digest 109 = .ok (.iconst 0, 1) := by decide +kernel
theorem dX4_digest_110 : decode cX4_digest 110 = .ok (.invokevirtual 303, 3) := by decide +kernel
theorem dX4_digest_113 : decode cX4_digest 113 = .ok (.i2l, 1) := by decide +kernel
theorem dX4_digest_114 : decode cX4_digest 114 = .ok (.ladd, 1) := by decide +kernel
theorem dX4_digest_115 : decode cX4_digest 115 = .ok (.lstore_n 1, 1) := by decide +kernel
theorem dX4_digest_116 : decode cX4_digest 116 = .ok (.ldc2_w 286, 3) := by decide +kernel
theorem dX4_digest_119 : decode cX4_digest 119 = .ok (.lload_n 1, 1) := by decide +kernel
theorem dX4_digest_120 : decode cX4_digest 120 = .ok (.lmul, 1) := by decide +kernel
theorem dX4_digest_121 : decode cX4_digest 121 = .ok (.aload_n 0, 1) := by decide +kernel
theorem dX4_digest_122 : decode cX4_digest 122 = .ok (.invokevirtual 306, 3) := by decide +kernel
theorem dX4_digest_125 : decode cX4_digest 125 = .ok (.i2l, 1) := by decide +kernel
theorem dX4_digest_126 : decode cX4_digest 126 = .ok (.ladd, 1) := by decide +kernel
theorem dX4_digest_127 : decode cX4_digest 127 = .ok (.lstore_n 1, 1) := by decide +kernel
theorem dX4_digest_128 : decode cX4_digest 128 = .ok (.ldc2_w 286, 3) := by decide +kernel
theorem dX4_digest_131 : decode cX4_digest 131 = .ok (.lload_n 1, 1) := by decide +kernel
theorem dX4_digest_132 : decode cX4_digest 132 = .ok (.lmul, 1) := by decide +kernel
theorem dX4_digest_133 : decode cX4_digest 133 = .ok (.aload_n 0, 1) := by decide +kernel
theorem dX4_digest_134 : decode cX4_digest 134 = .ok (.invokevirtual 309, 3) := by decide +kernel
theorem dX4_digest_137 : decode cX4_digest 137 = .ok (.i2l, 1) := by decide +kernel
theorem dX4_digest_138 : decode cX4_digest 138 = .ok (.ladd, 1) := by decide +kernel
theorem dX4_digest_139 : decode cX4_digest 139 = .ok (.lstore_n 1, 1) := by decide +kernel
theorem dX4_digest_140 : decode cX4_digest 140 = .ok (.ldc2_w 286, 3) := by decide +kernel
theorem dX4_digest_143 : decode cX4_digest 143 = .ok (.lload_n 1, 1) := by decide +kernel
theorem dX4_digest_144 : decode cX4_digest 144 = .ok (.lmul, 1) := by decide +kernel
theorem dX4_digest_145 : decode cX4_digest 145 = .ok (.aload_n 0, 1) := by decide +kernel
theorem dX4_digest_146 : decode cX4_digest 146 = .ok (.getfield 10, 3) := by decide +kernel
theorem dX4_digest_149 : decode cX4_digest 149 = .ok (.invokevirtual 256, 3) := by decide +kernel
theorem dX4_digest_152 : decode cX4_digest 152 = .ok (.iconst 4, 1) := by decide +kernel
theorem dX4_digest_153 : decode cX4_digest 153 = .ok (.bipush 52, 2) := by decide +kernel
theorem dX4_digest_155 : decode cX4_digest 155 = .ok (.sipush 1023, 3) := by decide +kernel
theorem dX4_digest_158 : decode cX4_digest 158 = .ok (.invokestatic 312, 3) := by decide +kernel
theorem dX4_digest_161 : decode cX4_digest 161 = .ok (.ladd, 1) := by decide +kernel
theorem dX4_digest_162 : decode cX4_digest 162 = .ok (.lstore_n 1, 1) := by decide +kernel
theorem dX4_digest_163 : decode cX4_digest 163 = .ok (.ldc2_w 286, 3) := by decide +kernel
theorem dX4_digest_166 : decode cX4_digest 166 = .ok (.lload_n 1, 1) := by decide +kernel
theorem dX4_digest_167 : decode cX4_digest 167 = .ok (.lmul, 1) := by decide +kernel
theorem dX4_digest_168 : decode cX4_digest 168 = .ok (.aload_n 0, 1) := by decide +kernel
theorem dX4_digest_169 : decode cX4_digest 169 = .ok (.getfield 10, 3) := by decide +kernel
theorem dX4_digest_172 : decode cX4_digest 172 = .ok (.invokevirtual 280, 3) := by decide +kernel
theorem dX4_digest_175 : decode cX4_digest 175 = .ok (.iconst 3, 1) := by decide +kernel
theorem dX4_digest_176 : decode cX4_digest 176 = .ok (.bipush 23, 2) := by decide +kernel
theorem dX4_digest_178 : decode cX4_digest 178 = .ok (.bipush 127, 2) := by decide +kernel
theorem dX4_digest_180 : decode cX4_digest 180 = .ok (.invokestatic 312, 3) := by decide +kernel
theorem dX4_digest_183 : decode cX4_digest 183 = .ok (.ladd, 1) := by decide +kernel
theorem dX4_digest_184 : decode cX4_digest 184 = .ok (.lstore_n 1, 1) := by decide +kernel
theorem dX4_digest_185 : decode cX4_digest 185 = .ok (.iconst 0, 1) := by decide +kernel
theorem dX4_digest_186 : decode cX4_digest 186 = .ok (.istore_n 3, 1) := by decide +kernel
theorem dX4_digest_187 : decode cX4_digest 187 = .ok (.iload_n 3, 1) := by decide +kernel
theorem dX4_digest_188 : decode cX4_digest 188 = .ok (.iconst 2, 1) := by decide +kernel
theorem dX4_digest_189 : decode cX4_digest 189 = .ok (.if_icmp .ge 31, 3) := by decide +kernel
theorem dX4_digest_192 : decode cX4_digest 192 = .ok (.ldc2_w 286, 3) := by decide +kernel
theorem dX4_digest_195 : decode cX4_digest 195 = .ok (.lload_n 1, 1) := by decide +kernel
theorem dX4_digest_196 : decode cX4_digest 196 = .ok (.lmul, 1) := by decide +kernel
theorem dX4_digest_197 : decode cX4_digest 197 = .ok (.aload_n 0, 1) := by decide +kernel
theorem dX4_digest_198 : decode cX4_digest 198 = .ok (.getfield 30, 3) := by decide +kernel
theorem dX4_digest_201 : decode cX4_digest 201 = .ok (.iload_n 3, 1) := by decide +kernel
theorem dX4_digest_202 : decode cX4_digest 202 = .ok (.baload, 1) := by decide +kernel
theorem dX4_digest_203 : decode cX4_digest 203 = .ok (.ifCond .eq 7, 3) := by decide +kernel
theorem dX4_digest_206 : decode cX4_digest 206 = .ok (.iconst 1, 1) := by decide +kernel
theorem dX4_digest_207 : decode cX4_digest 207 = .ok (.goto 4, 3) := by decide +kernel
theorem dX4_digest_210 : decode cX4_digest 210 = .ok (.iconst 0, 1) := by decide +kernel
theorem dX4_digest_211 : decode cX4_digest 211 = .ok (.i2l, 1) := by decide +kernel
theorem dX4_digest_212 : decode cX4_digest 212 = .ok (.ladd, 1) := by decide +kernel
theorem dX4_digest_213 : decode cX4_digest 213 = .ok (.lstore_n 1, 1) := by decide +kernel
theorem dX4_digest_214 : decode cX4_digest 214 = .ok (.iinc 3 1, 3) := by decide +kernel
theorem dX4_digest_217 : decode cX4_digest 217 = .ok (.goto (-30), 3) := by decide +kernel
theorem dX4_digest_220 : decode cX4_digest 220 = .ok (.aload_n 0, 1) := by decide +kernel
theorem dX4_digest_221 : decode cX4_digest 221 = .ok (.lload_n 1, 1) := by decide +kernel
theorem dX4_digest_222 : decode cX4_digest 222 = .ok (.invokevirtual 316, 3) := by decide +kernel
theorem dX4_digest_225 : decode cX4_digest 225 = .ok (.lreturn, 1) := by decide +kernel
set_option maxRecDepth 20000 in
theorem ggX4_digestThreads_X4_threadOf : GoodIn wsX4_digestThreads wsX4_threadOf := goodIn_ca (goodIn_ca (goodIn_r _ [7, 8, 9, 10, 11, 2, 12, 13, 14, 15, 16, 6, 17, 18, 19, 20, 21, 22, 23, 24, 25, 26, 27, 28, 29, 30, 31, 32, 33, 34, 35, 36, 37, 38, 39, 40, 41, 42, 43, 44, 45, 46, 47, 48, 49, 50, 51, 52, 53, 54, 55, 56, 57, 58, 59, 60, 61, 62, 63, 64, 69, 70, 71, 72, 73, 74, 75, 76, 77, 78, 79, 80, 81, 82, 83] (by decide +kernel) (by decide +kernel)) (goodIn_sub (fun _ h => List.mem_cons_of_mem _ (List.mem_append_left _ (List.mem_append_right _ h))) (by decide +kernel))) (goodIn_sub (fun _ h => List.mem_cons_of_mem _ (List.mem_append_right _ h)) (by decide +kernel))
set_option maxRecDepth 20000 in
theorem gX4_digestThreads_X4_threadOf : GoodIn wsX4_digestThreads (wsV RX4 319 RX4 yX4_threadOf wsX4_threadOf) := goodIn_app (goodIn_of _ (by decide +kernel)) ggX4_digestThreads_X4_threadOf
set_option maxRecDepth 20000 in
theorem ggX4_digestThreads_X2_readingsUntilChange : GoodIn wsX4_digestThreads wsX2_readingsUntilChange := goodIn_r _ [68, 34, 51, 29, 22, 6, 23, 76, 77, 78, 79, 80, 81, 82, 83] (by decide +kernel) (by decide +kernel)
set_option maxRecDepth 20000 in
theorem gX4_digestThreads_X2_readingsUntilChange : GoodIn wsX4_digestThreads (wsV RX4 273 RX2 yX2_readingsUntilChange wsX2_readingsUntilChange) := goodIn_app (goodIn_of _ (by decide +kernel)) ggX4_digestThreads_X2_readingsUntilChange
theorem dX4_digestThreads_0 : decode cX4_digestThreads 0 = .ok (.lload_n 1, 1) := by decide +kernel
theorem dX4_digestThreads_1 : decode cX4_digestThreads 1 = .ok (.lstore_n 3, 1) := by decide +kernel
theorem dX4_digestThreads_2 : decode cX4_digestThreads 2 = .ok (.iconst 0, 1) := by decide +kernel
theorem dX4_digestThreads_3 : decode cX4_digestThreads 3 = .ok (.istore 5, 2) := by decide +kernel
theorem dX4_digestThreads_5 : decode cX4_digestThreads 5 = .ok (.iload 5, 2) := by decide +kernel
theorem dX4_digestThreads_7 : decode cX4_digestThreads 7 = .ok (.bipush 16, 2) := by decide +kernel
theorem dX4_digestThreads_9 : decode cX4_digestThreads 9 = .ok (.if_icmp .ge 58, 3) := by decide +kernel
theorem dX4_digestThreads_12 : decode cX4_digestThreads 12 = .ok (.iconst 0, 1) := by decide +kernel
theorem dX4_digestThreads_13 : decode cX4_digestThreads 13 = .ok (.istore 6, 2) := by decide +kernel
theorem dX4_digestThreads_15 : decode cX4_digestThreads 15 = .ok (.iload 6, 2) := by decide +kernel
theorem dX4_digestThreads_17 : decode cX4_digestThreads 17 = .ok (.bipush 7, 2) := by decide +kernel
theorem dX4_digestThreads_19 : decode cX4_digestThreads 19 = .ok (.if_icmp .gt 25, 3) := by decide +kernel
theorem dX4_digestThreads_22 : decode cX4_digestThreads 22 = .ok (.ldc2_w 286, 3) := by decide +kernel
theorem dX4_digestThreads_25 : decode cX4_digestThreads 25 = .ok (.lload_n 3, 1) := by decide +kernel
theorem dX4_digestThreads_26 : decode cX4_digestThreads 26 = .ok (.lmul, 1) := by decide +kernel
theorem dX4_digestThreads_27 : decode cX4_digestThreads 27 = .ok (.aload_n 0, 1) := by decide +kernel
theorem dX4_digestThreads_28 : decode cX4_digestThreads 28 = .ok (.iload 5, 2) := by decide +kernel
theorem dX4_digestThreads_30 : decode cX4_digestThreads 30 = .ok (.iload 6, 2) := by decide +kernel
theorem dX4_digestThreads_32 : decode cX4_digestThreads 32 = .ok (.invokevirtual 319, 3) := by decide +kernel
theorem dX4_digestThreads_35 : decode cX4_digestThreads 35 = .ok (.i2l, 1) := by decide +kernel
theorem dX4_digestThreads_36 : decode cX4_digestThreads 36 = .ok (.ladd, 1) := by decide +kernel
theorem dX4_digestThreads_37 : decode cX4_digestThreads 37 = .ok (.lstore_n 3, 1) := by decide +kernel
theorem dX4_digestThreads_38 : decode cX4_digestThreads 38 = .ok (.iinc 6 1, 3) := by decide +kernel
theorem dX4_digestThreads_41 : decode cX4_digestThreads 41 = .ok (.goto (-26), 3) := by decide +kernel
theorem dX4_digestThreads_44 : decode cX4_digestThreads 44 = .ok (.ldc2_w 286, 3) := by decide +kernel
theorem dX4_digestThreads_47 : decode cX4_digestThreads 47 = .ok (.lload_n 3, 1) := by decide +kernel
theorem dX4_digestThreads_48 : decode cX4_digestThreads 48 = .ok (.lmul, 1) := by decide +kernel
theorem dX4_digestThreads_49 : decode cX4_digestThreads 49 = .ok (.aload_n 0, 1) := by decide +kernel
theorem dX4_digestThreads_50 : decode cX4_digestThreads 50 = .ok (.getfield 10, 3) := by decide +kernel
theorem dX4_digestThreads_53 : decode cX4_digestThreads 53 = .ok (.iload 5, 2) := by decide +kernel
theorem dX4_digestThreads_55 : decode cX4_digestThreads 55 = .ok (.invokevirtual 273, 3) := by decide +kernel
theorem dX4_digestThreads_58 : decode cX4_digestThreads 58 = .ok (.i2l, 1) := by decide +kernel
theorem dX4_digestThreads_59 : decode cX4_digestThreads 59 = .ok (.ladd, 1) := by decide +kernel
theorem dX4_digestThreads_60 : decode cX4_digestThreads 60 = .ok (.lstore_n 3, 1) := by decide +kernel
theorem dX4_digestThreads_61 : decode cX4_digestThreads 61 = .ok (.iinc 5 1, 3) := by decide +kernel
theorem dX4_digestThreads_64 : decode cX4_digestThreads 64 = .ok (.goto (-59), 3) := by decide +kernel
theorem dX4_digestThreads_67 : decode cX4_digestThreads 67 = .ok (.lload_n 3, 1) := by decide +kernel
theorem dX4_digestThreads_68 : decode cX4_digestThreads 68 = .ok (.lreturn, 1) := by decide +kernel
set_option maxRecDepth 20000 in
theorem ggX4_digestRings_X4_ringOf : GoodIn wsX4_digestRings wsX4_ringOf := goodIn_ca (goodIn_ca (goodIn_r _ [6, 7, 8, 9, 10, 11, 12, 13, 14, 5, 15, 16, 17, 18, 19, 20, 21, 22, 23, 24, 25, 26, 27, 28, 29, 30, 31, 32, 33, 34, 35, 36, 37, 38, 39, 40, 41, 42, 43, 44, 45, 46, 47, 48, 49, 50, 51, 52, 53, 54, 55, 56, 57, 58, 59, 60, 61, 74, 75, 76, 77, 78, 79, 80, 81, 82, 83, 84, 85, 86, 87, 88] (by decide +kernel) (by decide +kernel)) (goodIn_sub (fun _ h => List.mem_cons_of_mem _ (List.mem_append_left _ (List.mem_append_right _ h))) (by decide +kernel))) (goodIn_sub (fun _ h => List.mem_cons_of_mem _ (List.mem_append_right _ h)) (by decide +kernel))
set_option maxRecDepth 20000 in
theorem gX4_digestRings_X4_ringOf : GoodIn wsX4_digestRings (wsV RX4 322 RX4 yX4_ringOf wsX4_ringOf) := goodIn_app (goodIn_of _ (by decide +kernel)) ggX4_digestRings_X4_ringOf
set_option maxRecDepth 20000 in
theorem ggX4_digestRings_X4_strength : GoodIn wsX4_digestRings wsX4_strength := goodIn_ca (goodIn_ca (goodIn_r _ [65, 7, 8, 9, 10, 11, 66, 67, 5, 68, 16, 17, 18, 13, 14, 15, 69, 70, 71, 22, 72, 24, 25, 26, 52, 53, 54, 55, 56, 73, 44, 45, 46, 47, 48, 49, 50, 51, 74, 75, 76, 77, 78, 79, 80, 81, 82, 83, 84, 85, 86, 87, 88] (by decide +kernel) (by decide +kernel)) (goodIn_sub (fun _ h => List.mem_cons_of_mem _ (List.mem_append_left _ (List.mem_append_right _ h))) (by decide +kernel))) (goodIn_sub (fun _ h => List.mem_cons_of_mem _ (List.mem_append_right _ h)) (by decide +kernel))
set_option maxRecDepth 20000 in
theorem gX4_digestRings_X4_strength : GoodIn wsX4_digestRings (wsV RX4 325 RX4 yX4_strength wsX4_strength) := goodIn_app (goodIn_of _ (by decide +kernel)) ggX4_digestRings_X4_strength
theorem dX4_digestRings_0 : decode cX4_digestRings 0 = .ok (.lload_n 1, 1) := by decide +kernel
theorem dX4_digestRings_1 : decode cX4_digestRings 1 = .ok (.lstore_n 3, 1) := by decide +kernel
theorem dX4_digestRings_2 : decode cX4_digestRings 2 = .ok (.iconst 0, 1) := by decide +kernel
theorem dX4_digestRings_3 : decode cX4_digestRings 3 = .ok (.istore 5, 2) := by decide +kernel
theorem dX4_digestRings_5 : decode cX4_digestRings 5 = .ok (.iload 5, 2) := by decide +kernel
theorem dX4_digestRings_7 : decode cX4_digestRings 7 = .ok (.bipush 8, 2) := by decide +kernel
theorem dX4_digestRings_9 : decode cX4_digestRings 9 = .ok (.if_icmp .ge 40, 3) := by decide +kernel
theorem dX4_digestRings_12 : decode cX4_digestRings 12 = .ok (.iconst 0, 1) := by decide +kernel
theorem dX4_digestRings_13 : decode cX4_digestRings 13 = .ok (.istore 6, 2) := by decide +kernel
theorem dX4_digestRings_15 : decode cX4_digestRings 15 = .ok (.iload 6, 2) := by decide +kernel
theorem dX4_digestRings_17 : decode cX4_digestRings 17 = .ok (.iconst 4, 1) := by decide +kernel
theorem dX4_digestRings_18 : decode cX4_digestRings 18 = .ok (.if_icmp .gt 25, 3) := by decide +kernel
theorem dX4_digestRings_21 : decode cX4_digestRings 21 = .ok (.ldc2_w 286, 3) := by decide +kernel
theorem dX4_digestRings_24 : decode cX4_digestRings 24 = .ok (.lload_n 3, 1) := by decide +kernel
theorem dX4_digestRings_25 : decode cX4_digestRings 25 = .ok (.lmul, 1) := by decide +kernel
theorem dX4_digestRings_26 : decode cX4_digestRings 26 = .ok (.aload_n 0, 1) := by decide +kernel
theorem dX4_digestRings_27 : decode cX4_digestRings 27 = .ok (.iload 5, 2) := by decide +kernel
theorem dX4_digestRings_29 : decode cX4_digestRings 29 = .ok (.iload 6, 2) := by decide +kernel
theorem dX4_digestRings_31 : decode cX4_digestRings 31 = .ok (.invokevirtual 322, 3) := by decide +kernel
theorem dX4_digestRings_34 : decode cX4_digestRings 34 = .ok (.i2l, 1) := by decide +kernel
theorem dX4_digestRings_35 : decode cX4_digestRings 35 = .ok (.ladd, 1) := by decide +kernel
theorem dX4_digestRings_36 : decode cX4_digestRings 36 = .ok (.lstore_n 3, 1) := by decide +kernel
theorem dX4_digestRings_37 : decode cX4_digestRings 37 = .ok (.iinc 6 1, 3) := by decide +kernel
theorem dX4_digestRings_40 : decode cX4_digestRings 40 = .ok (.goto (-25), 3) := by decide +kernel
theorem dX4_digestRings_43 : decode cX4_digestRings 43 = .ok (.iinc 5 1, 3) := by decide +kernel
theorem dX4_digestRings_46 : decode cX4_digestRings 46 = .ok (.goto (-41), 3) := by decide +kernel
theorem dX4_digestRings_49 : decode cX4_digestRings 49 = .ok (.iconst 0, 1) := by decide +kernel
theorem dX4_digestRings_50 : decode cX4_digestRings 50 = .ok (.istore 5, 2) := by decide +kernel
theorem dX4_digestRings_52 : decode cX4_digestRings 52 = .ok (.iload 5, 2) := by decide +kernel
theorem dX4_digestRings_54 : decode cX4_digestRings 54 = .ok (.iconst 1, 1) := by decide +kernel
theorem dX4_digestRings_55 : decode cX4_digestRings 55 = .ok (.if_icmp .gt 42, 3) := by decide +kernel
theorem dX4_digestRings_58 : decode cX4_digestRings 58 = .ok (.iconst 0, 1) := by decide +kernel
theorem dX4_digestRings_59 : decode cX4_digestRings 59 = .ok (.istore 6, 2) := by decide +kernel
theorem dX4_digestRings_61 : decode cX4_digestRings 61 = .ok (.iload 6, 2) := by decide +kernel
theorem dX4_digestRings_63 : decode cX4_digestRings 63 = .ok (.bipush 8, 2) := by decide +kernel
theorem dX4_digestRings_65 : decode cX4_digestRings 65 = .ok (.if_icmp .ge 26, 3) := by decide +kernel
theorem dX4_digestRings_68 : decode cX4_digestRings 68 = .ok (.ldc2_w 286, 3) := by decide +kernel
theorem dX4_digestRings_71 : decode cX4_digestRings 71 = .ok (.lload_n 3, 1) := by decide +kernel
theorem dX4_digestRings_72 : decode cX4_digestRings 72 = .ok (.lmul, 1) := by decide +kernel
theorem dX4_digestRings_73 : decode cX4_digestRings 73 = .ok (.aload_n 0, 1) := by decide +kernel
theorem dX4_digestRings_74 : decode cX4_digestRings 74 = .ok (.iload 5, 2) := by decide +kernel
theorem dX4_digestRings_76 : decode cX4_digestRings 76 = .ok (.iload 6, 2) := by decide +kernel
theorem dX4_digestRings_78 : decode cX4_digestRings 78 = .ok (.iconst 0, 1) := by decide +kernel
theorem dX4_digestRings_79 : decode cX4_digestRings 79 = .ok (.invokevirtual 325, 3) := by decide +kernel
theorem dX4_digestRings_82 : decode cX4_digestRings 82 = .ok (.i2l, 1) := by decide +kernel
theorem dX4_digestRings_83 : decode cX4_digestRings 83 = .ok (.ladd, 1) := by decide +kernel
theorem dX4_digestRings_84 : decode cX4_digestRings 84 = .ok (.lstore_n 3, 1) := by decide +kernel
theorem dX4_digestRings_85 : decode cX4_digestRings 85 = .ok (.iinc 6 1, 3) := by decide +kernel
theorem dX4_digestRings_88 : decode cX4_digestRings 88 = .ok (.goto (-27), 3) := by decide +kernel
theorem dX4_digestRings_91 : decode cX4_digestRings 91 = .ok (.iinc 5 1, 3) := by decide +kernel
theorem dX4_digestRings_94 : decode cX4_digestRings 94 = .ok (.goto (-42), 3) := by decide +kernel
theorem dX4_digestRings_97 : decode cX4_digestRings 97 = .ok (.lload_n 3, 1) := by decide +kernel
theorem dX4_digestRings_98 : decode cX4_digestRings 98 = .ok (.lreturn, 1) := by decide +kernel
set_option maxRecDepth 20000 in
theorem ggX4_digestMachine_X4_machine : GoodIn wsX4_digestMachine wsX4_machine := goodIn_ca (goodIn_r _ [9, 10, 11, 2, 3, 12, 13, 14, 15, 16, 17, 18, 19, 20, 21, 22, 23, 24, 25, 26, 27, 28, 29, 30, 31, 32, 33, 34, 35, 36, 37, 38, 39] (by decide +kernel) (by decide +kernel)) (goodIn_sub (fun _ h => List.mem_cons_of_mem _ (List.mem_append_right _ h)) (by decide +kernel))
set_option maxRecDepth 20000 in
theorem gX4_digestMachine_X4_machine : GoodIn wsX4_digestMachine (wsV RX4 329 RX4 yX4_machine wsX4_machine) := goodIn_app (goodIn_of _ (by decide +kernel)) ggX4_digestMachine_X4_machine
theorem dX4_digestMachine_0 : decode cX4_digestMachine 0 = .ok (.lload_n 1, 1) := by decide +kernel
theorem dX4_digestMachine_1 : decode cX4_digestMachine 1 = .ok (.lstore_n 3, 1) := by decide +kernel
theorem dX4_digestMachine_2 : decode cX4_digestMachine 2 = .ok (.iconst 0, 1) := by decide +kernel
theorem dX4_digestMachine_3 : decode cX4_digestMachine 3 = .ok (.istore 5, 2) := by decide +kernel
theorem dX4_digestMachine_5 : decode cX4_digestMachine 5 = .ok (.iload 5, 2) := by decide +kernel
theorem dX4_digestMachine_7 : decode cX4_digestMachine 7 = .ok (.bipush 8, 2) := by decide +kernel
theorem dX4_digestMachine_9 : decode cX4_digestMachine 9 = .ok (.if_icmp .gt 23, 3) := by decide +kernel
theorem dX4_digestMachine_12 : decode cX4_digestMachine 12 = .ok (.ldc2_w 286, 3) := by decide +kernel
theorem dX4_digestMachine_15 : decode cX4_digestMachine 15 = .ok (.lload_n 3, 1) := by decide +kernel
theorem dX4_digestMachine_16 : decode cX4_digestMachine 16 = .ok (.lmul, 1) := by decide +kernel
theorem dX4_digestMachine_17 : decode cX4_digestMachine 17 = .ok (.aload_n 0, 1) := by decide +kernel
theorem dX4_digestMachine_18 : decode cX4_digestMachine 18 = .ok (.iload 5, 2) := by decide +kernel
theorem dX4_digestMachine_20 : decode cX4_digestMachine 20 = .ok (.invokevirtual 329, 3) := by decide +kernel
theorem dX4_digestMachine_23 : decode cX4_digestMachine 23 = .ok (.i2l, 1) := by decide +kernel
theorem dX4_digestMachine_24 : decode cX4_digestMachine 24 = .ok (.ladd, 1) := by decide +kernel
theorem dX4_digestMachine_25 : decode cX4_digestMachine 25 = .ok (.lstore_n 3, 1) := by decide +kernel
theorem dX4_digestMachine_26 : decode cX4_digestMachine 26 = .ok (.iinc 5 1, 3) := by decide +kernel
theorem dX4_digestMachine_29 : decode cX4_digestMachine 29 = .ok (.goto (-24), 3) := by decide +kernel
theorem dX4_digestMachine_32 : decode cX4_digestMachine 32 = .ok (.iconst 0, 1) := by decide +kernel
theorem dX4_digestMachine_33 : decode cX4_digestMachine 33 = .ok (.istore 5, 2) := by decide +kernel
theorem dX4_digestMachine_35 : decode cX4_digestMachine 35 = .ok (.iload 5, 2) := by decide +kernel
theorem dX4_digestMachine_37 : decode cX4_digestMachine 37 = .ok (.bipush 8, 2) := by decide +kernel
theorem dX4_digestMachine_39 : decode cX4_digestMachine 39 = .ok (.if_icmp .ge 30, 3) := by decide +kernel
theorem dX4_digestMachine_42 : decode cX4_digestMachine 42 = .ok (.ldc2_w 286, 3) := by decide +kernel
theorem dX4_digestMachine_45 : decode cX4_digestMachine 45 = .ok (.lload_n 3, 1) := by decide +kernel
theorem dX4_digestMachine_46 : decode cX4_digestMachine 46 = .ok (.lmul, 1) := by decide +kernel
theorem dX4_digestMachine_47 : decode cX4_digestMachine 47 = .ok (.aload_n 0, 1) := by decide +kernel
theorem dX4_digestMachine_48 : decode cX4_digestMachine 48 = .ok (.getfield 10, 3) := by decide +kernel
theorem dX4_digestMachine_51 : decode cX4_digestMachine 51 = .ok (.getfield 110, 3) := by decide +kernel
theorem dX4_digestMachine_54 : decode cX4_digestMachine 54 = .ok (.getfield 244, 3) := by decide +kernel
theorem dX4_digestMachine_57 : decode cX4_digestMachine 57 = .ok (.iload 5, 2) := by decide +kernel
theorem dX4_digestMachine_59 : decode cX4_digestMachine 59 = .ok (.iaload, 1) := by decide +kernel
theorem dX4_digestMachine_60 : decode cX4_digestMachine 60 = .ok (.i2l, 1) := by decide +kernel
theorem dX4_digestMachine_61 : decode cX4_digestMachine 61 = .ok (.ladd, 1) := by decide +kernel
theorem dX4_digestMachine_62 : decode cX4_digestMachine 62 = .ok (.lstore_n 3, 1) := by decide +kernel
theorem dX4_digestMachine_63 : decode cX4_digestMachine 63 = .ok (.iinc 5 1, 3) := by decide +kernel
theorem dX4_digestMachine_66 : decode cX4_digestMachine 66 = .ok (.goto (-31), 3) := by decide +kernel
theorem dX4_digestMachine_69 : decode cX4_digestMachine 69 = .ok (.lload_n 3, 1) := by decide +kernel
theorem dX4_digestMachine_70 : decode cX4_digestMachine 70 = .ok (.lreturn, 1) := by decide +kernel
theorem dX4_digestBuffer_0 : decode cX4_digestBuffer 0 = .ok (.ldc2_w 286, 3) := by decide +kernel
theorem dX4_digestBuffer_3 : decode cX4_digestBuffer 3 = .ok (.lload_n 1, 1) := by decide +kernel
theorem dX4_digestBuffer_4 : decode cX4_digestBuffer 4 = .ok (.lmul, 1) := by decide +kernel
theorem dX4_digestBuffer_5 : decode cX4_digestBuffer 5 = .ok (.aload_n 0, 1) := by decide +kernel
theorem dX4_digestBuffer_6 : decode cX4_digestBuffer 6 = .ok (.getfield 37, 3) := by decide +kernel
theorem dX4_digestBuffer_9 : decode cX4_digestBuffer 9 = .ok (.getfield 129, 3) := by decide +kernel
theorem dX4_digestBuffer_12 : decode cX4_digestBuffer 12 = .ok (.i2l, 1) := by decide +kernel
theorem dX4_digestBuffer_13 : decode cX4_digestBuffer 13 = .ok (.ladd, 1) := by decide +kernel
theorem dX4_digestBuffer_14 : decode cX4_digestBuffer 14 = .ok (.lstore_n 3, 1) := by decide +kernel
theorem dX4_digestBuffer_15 : decode cX4_digestBuffer 15 = .ok (.iconst 0, 1) := by decide +kernel
theorem dX4_digestBuffer_16 : decode cX4_digestBuffer 16 = .ok (.istore 5, 2) := by decide +kernel
theorem dX4_digestBuffer_18 : decode cX4_digestBuffer 18 = .ok (.iload 5, 2) := by decide +kernel
theorem dX4_digestBuffer_20 : decode cX4_digestBuffer 20 = .ok (.aload_n 0, 1) := by decide +kernel
theorem dX4_digestBuffer_21 : decode cX4_digestBuffer 21 = .ok (.getfield 37, 3) := by decide +kernel
theorem dX4_digestBuffer_24 : decode cX4_digestBuffer 24 = .ok (.getfield 129, 3) := by decide +kernel
theorem dX4_digestBuffer_27 : decode cX4_digestBuffer 27 = .ok (.if_icmp .ge 27, 3) := by decide +kernel
theorem dX4_digestBuffer_30 : decode cX4_digestBuffer 30 = .ok (.ldc2_w 286, 3) := by decide +kernel
theorem dX4_digestBuffer_33 : decode cX4_digestBuffer 33 = .ok (.lload_n 3, 1) := by decide +kernel
theorem dX4_digestBuffer_34 : decode cX4_digestBuffer 34 = .ok (.lmul, 1) := by decide +kernel
theorem dX4_digestBuffer_35 : decode cX4_digestBuffer 35 = .ok (.aload_n 0, 1) := by decide +kernel
theorem dX4_digestBuffer_36 : decode cX4_digestBuffer 36 = .ok (.getfield 37, 3) := by decide +kernel
theorem dX4_digestBuffer_39 : decode cX4_digestBuffer 39 = .ok (.getfield 331, 3) := by decide +kernel
theorem dX4_digestBuffer_42 : decode cX4_digestBuffer 42 = .ok (.iload 5, 2) := by decide +kernel
theorem dX4_digestBuffer_44 : decode cX4_digestBuffer 44 = .ok (.iaload, 1) := by decide +kernel
theorem dX4_digestBuffer_45 : decode cX4_digestBuffer 45 = .ok (.i2l, 1) := by decide +kernel
theorem dX4_digestBuffer_46 : decode cX4_digestBuffer 46 = .ok (.ladd, 1) := by decide +kernel
theorem dX4_digestBuffer_47 : decode cX4_digestBuffer 47 = .ok (.lstore_n 3, 1) := by decide +kernel
theorem dX4_digestBuffer_48 : decode cX4_digestBuffer 48 = .ok (.iinc 5 1, 3) := by decide +kernel
theorem dX4_digestBuffer_51 : decode cX4_digestBuffer 51 = .ok (.goto (-33), 3) := by decide +kernel
theorem dX4_digestBuffer_54 : decode cX4_digestBuffer 54 = .ok (.lload_n 3, 1) := by decide +kernel
theorem dX4_digestBuffer_55 : decode cX4_digestBuffer 55 = .ok (.lreturn, 1) := by decide +kernel
set_option maxRecDepth 20000 in
theorem ggX4_bitsOfShare_X4_bit : GoodIn wsX4_bitsOfShare wsX4_bit := goodIn_r _ [4] (by decide +kernel) (by decide +kernel)
set_option maxRecDepth 20000 in
theorem gX4_bitsOfShare_X4_bit : GoodIn wsX4_bitsOfShare (va_wsS RX4 70 yX4_bit wsX4_bit) := goodIn_app (goodIn_of _ (by decide +kernel)) ggX4_bitsOfShare_X4_bit
theorem dX4_bitsOfShare_0 : decode cX4_bitsOfShare 0 = .ok (.iload_n 0, 1) := by decide +kernel
theorem dX4_bitsOfShare_1 : decode cX4_bitsOfShare 1 = .ok (.ifCond .gt 5, 3) := by decide +kernel
theorem dX4_bitsOfShare_4 : decode cX4_bitsOfShare 4 = .ok (.lconst 0, 1) := by decide +kernel
theorem dX4_bitsOfShare_5 : decode cX4_bitsOfShare 5 = .ok (.lreturn, 1) := by decide +kernel
theorem dX4_bitsOfShare_6 : decode cX4_bitsOfShare 6 = .ok (.iconst 0, 1) := by decide +kernel
theorem dX4_bitsOfShare_7 : decode cX4_bitsOfShare 7 = .ok (.istore 4, 2) := by decide +kernel
theorem dX4_bitsOfShare_9 : decode cX4_bitsOfShare 9 = .ok (.iconst 1, 1) := by decide +kernel
theorem dX4_bitsOfShare_10 : decode cX4_bitsOfShare 10 = .ok (.istore 5, 2) := by decide +kernel
theorem dX4_bitsOfShare_12 : decode cX4_bitsOfShare 12 = .ok (.iload 5, 2) := by decide +kernel
theorem dX4_bitsOfShare_14 : decode cX4_bitsOfShare 14 = .ok (.bipush 31, 2) := by decide +kernel
theorem dX4_bitsOfShare_16 : decode cX4_bitsOfShare 16 = .ok (.if_icmp .ge 23, 3) := by decide +kernel
theorem dX4_bitsOfShare_19 : decode cX4_bitsOfShare 19 = .ok (.iload_n 0, 1) := by decide +kernel
theorem dX4_bitsOfShare_20 : decode cX4_bitsOfShare 20 = .ok (.iload 5, 2) := by decide +kernel
theorem dX4_bitsOfShare_22 : decode cX4_bitsOfShare 22 = .ok (.invokestatic 70, 3) := by decide +kernel
theorem dX4_bitsOfShare_25 : decode cX4_bitsOfShare 25 = .ok (.iconst 1, 1) := by decide +kernel
theorem dX4_bitsOfShare_26 : decode cX4_bitsOfShare 26 = .ok (.if_icmp .ne 7, 3) := by decide +kernel
theorem dX4_bitsOfShare_29 : decode cX4_bitsOfShare 29 = .ok (.iload 5, 2) := by decide +kernel
theorem dX4_bitsOfShare_31 : decode cX4_bitsOfShare 31 = .ok (.istore 4, 2) := by decide +kernel
theorem dX4_bitsOfShare_33 : decode cX4_bitsOfShare 33 = .ok (.iinc 5 1, 3) := by decide +kernel
theorem dX4_bitsOfShare_36 : decode cX4_bitsOfShare 36 = .ok (.goto (-24), 3) := by decide +kernel
theorem dX4_bitsOfShare_39 : decode cX4_bitsOfShare 39 = .ok (.iload_n 3, 1) := by decide +kernel
theorem dX4_bitsOfShare_40 : decode cX4_bitsOfShare 40 = .ok (.iload 4, 2) := by decide +kernel
theorem dX4_bitsOfShare_42 : decode cX4_bitsOfShare 42 = .ok (.iadd, 1) := by decide +kernel
theorem dX4_bitsOfShare_43 : decode cX4_bitsOfShare 43 = .ok (.iload_n 1, 1) := by decide +kernel
theorem dX4_bitsOfShare_44 : decode cX4_bitsOfShare 44 = .ok (.isub, 1) := by decide +kernel
theorem dX4_bitsOfShare_45 : decode cX4_bitsOfShare 45 = .ok (.i2l, 1) := by decide +kernel
theorem dX4_bitsOfShare_46 : decode cX4_bitsOfShare 46 = .ok (.lstore 5, 2) := by decide +kernel
theorem dX4_bitsOfShare_48 : decode cX4_bitsOfShare 48 = .ok (.iload_n 0, 1) := by decide +kernel
theorem dX4_bitsOfShare_49 : decode cX4_bitsOfShare 49 = .ok (.iconst 1, 1) := by decide +kernel
theorem dX4_bitsOfShare_50 : decode cX4_bitsOfShare 50 = .ok (.iload 4, 2) := by decide +kernel
theorem dX4_bitsOfShare_52 : decode cX4_bitsOfShare 52 = .ok (.ishl, 1) := by decide +kernel
theorem dX4_bitsOfShare_53 : decode cX4_bitsOfShare 53 = .ok (.isub, 1) := by decide +kernel
theorem dX4_bitsOfShare_54 : decode cX4_bitsOfShare 54 = .ok (.i2l, 1) := by decide +kernel
theorem dX4_bitsOfShare_55 : decode cX4_bitsOfShare 55 = .ok (.lstore 7, 2) := by decide +kernel
theorem dX4_bitsOfShare_57 : decode cX4_bitsOfShare 57 = .ok (.lload 5, 2) := by decide +kernel
theorem dX4_bitsOfShare_59 : decode cX4_bitsOfShare 59 = .ok (.iload_n 2, 1) := by decide +kernel
theorem dX4_bitsOfShare_60 : decode cX4_bitsOfShare 60 = .ok (.lshl, 1) := by decide +kernel
theorem dX4_bitsOfShare_61 : decode cX4_bitsOfShare 61 = .ok (.lload 7, 2) := by decide +kernel
theorem dX4_bitsOfShare_63 : decode cX4_bitsOfShare 63 = .ok (.iload_n 2, 1) := by decide +kernel
theorem dX4_bitsOfShare_64 : decode cX4_bitsOfShare 64 = .ok (.iload 4, 2) := by decide +kernel
theorem dX4_bitsOfShare_66 : decode cX4_bitsOfShare 66 = .ok (.isub, 1) := by decide +kernel
theorem dX4_bitsOfShare_67 : decode cX4_bitsOfShare 67 = .ok (.lshl, 1) := by decide +kernel
theorem dX4_bitsOfShare_68 : decode cX4_bitsOfShare 68 = .ok (.ladd, 1) := by decide +kernel
theorem dX4_bitsOfShare_69 : decode cX4_bitsOfShare 69 = .ok (.lreturn, 1) := by decide +kernel
set_option maxRecDepth 20000 in
theorem ggX4_changesOfProgramAt_X2_means : GoodIn wsX4_changesOfProgramAt wsX2_means := goodIn_r _ [9, 10, 11, 12, 13, 8, 14, 15, 35, 36, 37, 38, 39, 40, 41, 42] (by decide +kernel) (by decide +kernel)
set_option maxRecDepth 20000 in
theorem gX4_changesOfProgramAt_X2_means : GoodIn wsX4_changesOfProgramAt (wsV RX4 186 RX2 yX2_means wsX2_means) := goodIn_app (goodIn_of _ (by decide +kernel)) ggX4_changesOfProgramAt_X2_means
set_option maxRecDepth 20000 in
theorem ggX4_changesOfProgramAt_J6_bitCount_0f7a4 : GoodIn wsX4_changesOfProgramAt wsJ6_bitCount_0f7a4 := goodIn_r _ [19, 20, 21, 22] (by decide +kernel) (by decide +kernel)
set_option maxRecDepth 20000 in
theorem gX4_changesOfProgramAt_J6_bitCount_0f7a4 : GoodIn wsX4_changesOfProgramAt (va_wsS RX4 189 yJ6_bitCount_0f7a4 wsJ6_bitCount_0f7a4) := goodIn_app (goodIn_of _ (by decide +kernel)) ggX4_changesOfProgramAt_J6_bitCount_0f7a4
theorem dX4_changesOfProgramAt_0 : decode cX4_changesOfProgramAt 0 = .ok (.iconst 0, 1) := by decide +kernel
theorem dX4_changesOfProgramAt_1 : decode cX4_changesOfProgramAt 1 = .ok (.istore_n 2, 1) := by decide +kernel
theorem dX4_changesOfProgramAt_2 : decode cX4_changesOfProgramAt 2 = .ok (.iconst 0, 1) := by decide +kernel
theorem dX4_changesOfProgramAt_3 : decode cX4_changesOfProgramAt 3 = .ok (.istore_n 3, 1) := by decide +kernel
theorem dX4_changesOfProgramAt_4 : decode cX4_changesOfProgramAt 4 = .ok (.iload_n 3, 1) := by decide +kernel
theorem dX4_changesOfProgramAt_5 : decode cX4_changesOfProgramAt 5 = .ok (.aload_n 0, 1) := by decide +kernel
theorem dX4_changesOfProgramAt_6 : decode cX4_changesOfProgramAt 6 = .ok (.getfield 37, 3) := by decide +kernel
theorem dX4_changesOfProgramAt_9 : decode cX4_changesOfProgramAt 9 = .ok (.getfield 151, 3) := by decide +kernel
theorem dX4_changesOfProgramAt_12 : decode cX4_changesOfProgramAt 12 = .ok (.if_icmp .ge 42, 3) := by decide +kernel
theorem dX4_changesOfProgramAt_15 : decode cX4_changesOfProgramAt 15 = .ok (.aload_n 0, 1) := by decide +kernel
theorem dX4_changesOfProgramAt_16 : decode cX4_changesOfProgramAt 16 = .ok (.getfield 10, 3) := by decide +kernel
theorem dX4_changesOfProgramAt_19 : decode cX4_changesOfProgramAt 19 = .ok (.iload_n 1, 1) := by decide +kernel
theorem dX4_changesOfProgramAt_20 : decode cX4_changesOfProgramAt 20 = .ok (.iload_n 3, 1) := by decide +kernel
theorem dX4_changesOfProgramAt_21 : decode cX4_changesOfProgramAt 21 = .ok (.iadd, 1) := by decide +kernel
theorem dX4_changesOfProgramAt_22 : decode cX4_changesOfProgramAt 22 = .ok (.bipush 16, 2) := by decide +kernel
theorem dX4_changesOfProgramAt_24 : decode cX4_changesOfProgramAt 24 = .ok (.irem, 1) := by decide +kernel
theorem dX4_changesOfProgramAt_25 : decode cX4_changesOfProgramAt 25 = .ok (.invokevirtual 186, 3) := by decide +kernel
theorem dX4_changesOfProgramAt_28 : decode cX4_changesOfProgramAt 28 = .ok (.aload_n 0, 1) := by decide +kernel
theorem dX4_changesOfProgramAt_29 : decode cX4_changesOfProgramAt 29 = .ok (.getfield 37, 3) := by decide +kernel
theorem dX4_changesOfProgramAt_32 : decode cX4_changesOfProgramAt 32 = .ok (.getfield 154, 3) := by decide +kernel
theorem dX4_changesOfProgramAt_35 : decode cX4_changesOfProgramAt 35 = .ok (.iload_n 3, 1) := by decide +kernel
theorem dX4_changesOfProgramAt_36 : decode cX4_changesOfProgramAt 36 = .ok (.iaload, 1) := by decide +kernel
theorem dX4_changesOfProgramAt_37 : decode cX4_changesOfProgramAt 37 = .ok (.ixor, 1) := by decide +kernel
theorem dX4_changesOfProgramAt_38 : decode cX4_changesOfProgramAt 38 = .ok (.istore 4, 2) := by decide +kernel
theorem dX4_changesOfProgramAt_40 : decode cX4_changesOfProgramAt 40 = .ok (.iload_n 2, 1) := by decide +kernel
theorem dX4_changesOfProgramAt_41 : decode cX4_changesOfProgramAt 41 = .ok (.iload 4, 2) := by decide +kernel
theorem dX4_changesOfProgramAt_43 : decode cX4_changesOfProgramAt 43 = .ok (.invokestatic 189, 3) := by decide +kernel
theorem dX4_changesOfProgramAt_46 : decode cX4_changesOfProgramAt 46 = .ok (.iadd, 1) := by decide +kernel
theorem dX4_changesOfProgramAt_47 : decode cX4_changesOfProgramAt 47 = .ok (.istore_n 2, 1) := by decide +kernel
theorem dX4_changesOfProgramAt_48 : decode cX4_changesOfProgramAt 48 = .ok (.iinc 3 1, 3) := by decide +kernel
theorem dX4_changesOfProgramAt_51 : decode cX4_changesOfProgramAt 51 = .ok (.goto (-47), 3) := by decide +kernel
theorem dX4_changesOfProgramAt_54 : decode cX4_changesOfProgramAt 54 = .ok (.iload_n 2, 1) := by decide +kernel
theorem dX4_changesOfProgramAt_55 : decode cX4_changesOfProgramAt 55 = .ok (.ireturn, 1) := by decide +kernel
set_option maxRecDepth 20000 in
theorem ggX4_pairsTellingTheSame_X2_tells : GoodIn wsX4_pairsTellingTheSame wsX2_tells := goodIn_r _ [7, 8, 9, 10, 6, 11, 12, 13, 14, 15, 16, 17, 18, 19, 20, 21, 22, 23, 24, 25, 26, 27, 28, 29, 30, 31, 32, 33, 34, 42, 43, 44, 45, 46, 47, 48, 49] (by decide +kernel) (by decide +kernel)
set_option maxRecDepth 20000 in
theorem gX4_pairsTellingTheSame_X2_tells : GoodIn wsX4_pairsTellingTheSame (wsV RX4 159 RX2 yX2_tells wsX2_tells) := goodIn_app (goodIn_of _ (by decide +kernel)) ggX4_pairsTellingTheSame_X2_tells
theorem dX4_pairsTellingTheSame_0 : decode cX4_pairsTellingTheSame 0 = .ok (.iconst 0, 1) := by decide +kernel
theorem dX4_pairsTellingTheSame_1 : decode cX4_pairsTellingTheSame 1 = .ok (.istore_n 1, 1) := by decide +kernel
theorem dX4_pairsTellingTheSame_2 : decode cX4_pairsTellingTheSame 2 = .ok (.iconst 0, 1) := by decide +kernel
theorem dX4_pairsTellingTheSame_3 : decode cX4_pairsTellingTheSame 3 = .ok (.istore_n 2, 1) := by decide +kernel
theorem dX4_pairsTellingTheSame_4 : decode cX4_pairsTellingTheSame 4 = .ok (.iload_n 2, 1) := by decide +kernel
theorem dX4_pairsTellingTheSame_5 : decode cX4_pairsTellingTheSame 5 = .ok (.bipush 16, 2) := by decide +kernel
theorem dX4_pairsTellingTheSame_7 : decode cX4_pairsTellingTheSame 7 = .ok (.if_icmp .ge 54, 3) := by decide +kernel
theorem dX4_pairsTellingTheSame_10 : decode cX4_pairsTellingTheSame 10 = .ok (.aload_n 0, 1) := by decide +kernel
theorem dX4_pairsTellingTheSame_11 : decode cX4_pairsTellingTheSame 11 = .ok (.getfield 41, 3) := by decide +kernel
theorem dX4_pairsTellingTheSame_14 : decode cX4_pairsTellingTheSame 14 = .ok (.iload_n 2, 1) := by decide +kernel
theorem dX4_pairsTellingTheSame_15 : decode cX4_pairsTellingTheSame 15 = .ok (.aload_n 0, 1) := by decide +kernel
theorem dX4_pairsTellingTheSame_16 : decode cX4_pairsTellingTheSame 16 = .ok (.getfield 10, 3) := by decide +kernel
theorem dX4_pairsTellingTheSame_19 : decode cX4_pairsTellingTheSame 19 = .ok (.iload_n 2, 1) := by decide +kernel
theorem dX4_pairsTellingTheSame_20 : decode cX4_pairsTellingTheSame 20 = .ok (.invokevirtual 159, 3) := by decide +kernel
theorem dX4_pairsTellingTheSame_23 : decode cX4_pairsTellingTheSame 23 = .ok (.iastore, 1) := by decide +kernel
theorem dX4_pairsTellingTheSame_24 : decode cX4_pairsTellingTheSame 24 = .ok (.iconst 0, 1) := by decide +kernel
theorem dX4_pairsTellingTheSame_25 : decode cX4_pairsTellingTheSame 25 = .ok (.istore_n 3, 1) := by decide +kernel
theorem dX4_pairsTellingTheSame_26 : decode cX4_pairsTellingTheSame 26 = .ok (.iload_n 3, 1) := by decide +kernel
theorem dX4_pairsTellingTheSame_27 : decode cX4_pairsTellingTheSame 27 = .ok (.iload_n 2, 1) := by decide +kernel
theorem dX4_pairsTellingTheSame_28 : decode cX4_pairsTellingTheSame 28 = .ok (.if_icmp .ge 27, 3) := by decide +kernel
theorem dX4_pairsTellingTheSame_31 : decode cX4_pairsTellingTheSame 31 = .ok (.aload_n 0, 1) := by decide +kernel
theorem dX4_pairsTellingTheSame_32 : decode cX4_pairsTellingTheSame 32 = .ok (.getfield 41, 3) := by decide +kernel
theorem dX4_pairsTellingTheSame_35 : decode cX4_pairsTellingTheSame 35 = .ok (.iload_n 3, 1) := by decide +kernel
theorem dX4_pairsTellingTheSame_36 : decode cX4_pairsTellingTheSame 36 = .ok (.iaload, 1) := by decide +kernel
theorem dX4_pairsTellingTheSame_37 : decode cX4_pairsTellingTheSame 37 = .ok (.aload_n 0, 1) := by decide +kernel
theorem dX4_pairsTellingTheSame_38 : decode cX4_pairsTellingTheSame 38 = .ok (.getfield 41, 3) := by decide +kernel
theorem dX4_pairsTellingTheSame_41 : decode cX4_pairsTellingTheSame 41 = .ok (.iload_n 2, 1) := by decide +kernel
theorem dX4_pairsTellingTheSame_42 : decode cX4_pairsTellingTheSame 42 = .ok (.iaload, 1) := by decide +kernel
theorem dX4_pairsTellingTheSame_43 : decode cX4_pairsTellingTheSame 43 = .ok (.if_icmp .ne 6, 3) := by decide +kernel
theorem dX4_pairsTellingTheSame_46 : decode cX4_pairsTellingTheSame 46 = .ok (.iinc 1 1, 3) := by decide +kernel
theorem dX4_pairsTellingTheSame_49 : decode cX4_pairsTellingTheSame 49 = .ok (.iinc 3 1, 3) := by decide +kernel
theorem dX4_pairsTellingTheSame_52 : decode cX4_pairsTellingTheSame 52 = .ok (.goto (-26), 3) := by decide +kernel
theorem dX4_pairsTellingTheSame_55 : decode cX4_pairsTellingTheSame 55 = .ok (.iinc 2 1, 3) := by decide +kernel
theorem dX4_pairsTellingTheSame_58 : decode cX4_pairsTellingTheSame 58 = .ok (.goto (-54), 3) := by decide +kernel
theorem dX4_pairsTellingTheSame_61 : decode cX4_pairsTellingTheSame 61 = .ok (.iload_n 1, 1) := by decide +kernel
theorem dX4_pairsTellingTheSame_62 : decode cX4_pairsTellingTheSame 62 = .ok (.ireturn, 1) := by decide +kernel
theorem dX4_isWithin_0 : decode cX4_isWithin 0 = .ok (.iload_n 0, 1) := by decide +kernel
theorem dX4_isWithin_1 : decode cX4_isWithin 1 = .ok (.iload_n 1, 1) := by decide +kernel
theorem dX4_isWithin_2 : decode cX4_isWithin 2 = .ok (.if_icmp .lt 12, 3) := by decide +kernel
theorem dX4_isWithin_5 : decode cX4_isWithin 5 = .ok (.iload_n 0, 1) := by decide +kernel
theorem dX4_isWithin_6 : decode cX4_isWithin 6 = .ok (.iload_n 2, 1) := by decide +kernel
theorem dX4_isWithin_7 : decode cX4_isWithin 7 = .ok (.if_icmp .gt 7, 3) := by decide +kernel
theorem dX4_isWithin_10 : decode cX4_isWithin 10 = .ok (.iconst 1, 1) := by decide +kernel
theorem dX4_isWithin_11 : decode cX4_isWithin 11 = .ok (.goto 4, 3) := by decide +kernel
theorem dX4_isWithin_14 : decode cX4_isWithin 14 = .ok (.iconst 0, 1) := by decide +kernel
theorem dX4_isWithin_15 : decode cX4_isWithin 15 = .ok (.ireturn, 1) := by decide +kernel
set_option maxRecDepth 20000 in
theorem ggX4_isThread_X4_isWithin : GoodIn wsX4_isThread wsX4_isWithin := goodIn_r _ [4] (by decide +kernel) (by decide +kernel)
set_option maxRecDepth 20000 in
theorem gX4_isThread_X4_isWithin : GoodIn wsX4_isThread (va_wsS RX4 75 yX4_isWithin wsX4_isWithin) := goodIn_app (goodIn_of _ (by decide +kernel)) ggX4_isThread_X4_isWithin
theorem dX4_isThread_0 : decode cX4_isThread 0 = .ok (.iload_n 0, 1) := by decide +kernel
theorem dX4_isThread_1 : decode cX4_isThread 1 = .ok (.iconst 0, 1) := by decide +kernel
theorem dX4_isThread_2 : decode cX4_isThread 2 = .ok (.bipush 15, 2) := by decide +kernel
theorem dX4_isThread_4 : decode cX4_isThread 4 = .ok (.invokestatic 75, 3) := by decide +kernel
theorem dX4_isThread_7 : decode cX4_isThread 7 = .ok (.ireturn, 1) := by decide +kernel
set_option maxRecDepth 20000 in
theorem ggX4_isRing_X4_isWithin : GoodIn wsX4_isRing wsX4_isWithin := goodIn_r _ [4] (by decide +kernel) (by decide +kernel)
set_option maxRecDepth 20000 in
theorem gX4_isRing_X4_isWithin : GoodIn wsX4_isRing (va_wsS RX4 75 yX4_isWithin wsX4_isWithin) := goodIn_app (goodIn_of _ (by decide +kernel)) ggX4_isRing_X4_isWithin
theorem dX4_isRing_0 : decode cX4_isRing 0 = .ok (.iload_n 0, 1) := by decide +kernel
theorem dX4_isRing_1 : decode cX4_isRing 1 = .ok (.iconst 0, 1) := by decide +kernel
theorem dX4_isRing_2 : decode cX4_isRing 2 = .ok (.bipush 7, 2) := by decide +kernel
theorem dX4_isRing_4 : decode cX4_isRing 4 = .ok (.invokestatic 75, 3) := by decide +kernel
theorem dX4_isRing_7 : decode cX4_isRing 7 = .ok (.ireturn, 1) := by decide +kernel
set_option maxRecDepth 20000 in
theorem ggX4_isSetting_X4_isWithin : GoodIn wsX4_isSetting wsX4_isWithin := goodIn_r _ [4] (by decide +kernel) (by decide +kernel)
set_option maxRecDepth 20000 in
theorem gX4_isSetting_X4_isWithin : GoodIn wsX4_isSetting (va_wsS RX4 75 yX4_isWithin wsX4_isWithin) := goodIn_app (goodIn_of _ (by decide +kernel)) ggX4_isSetting_X4_isWithin
theorem dX4_isSetting_0 : decode cX4_isSetting 0 = .ok (.iload_n 0, 1) := by decide +kernel
theorem dX4_isSetting_1 : decode cX4_isSetting 1 = .ok (.iconst 0, 1) := by decide +kernel
theorem dX4_isSetting_2 : decode cX4_isSetting 2 = .ok (.iconst 1, 1) := by decide +kernel
theorem dX4_isSetting_3 : decode cX4_isSetting 3 = .ok (.invokestatic 75, 3) := by decide +kernel
theorem dX4_isSetting_6 : decode cX4_isSetting 6 = .ok (.ireturn, 1) := by decide +kernel
set_option maxRecDepth 20000 in
theorem ggX4_isSlot_X4_isWithin : GoodIn wsX4_isSlot wsX4_isWithin := goodIn_r _ [4] (by decide +kernel) (by decide +kernel)
set_option maxRecDepth 20000 in
theorem gX4_isSlot_X4_isWithin : GoodIn wsX4_isSlot (va_wsS RX4 75 yX4_isWithin wsX4_isWithin) := goodIn_app (goodIn_of _ (by decide +kernel)) ggX4_isSlot_X4_isWithin
theorem dX4_isSlot_0 : decode cX4_isSlot 0 = .ok (.iload_n 0, 1) := by decide +kernel
theorem dX4_isSlot_1 : decode cX4_isSlot 1 = .ok (.iconst 0, 1) := by decide +kernel
theorem dX4_isSlot_2 : decode cX4_isSlot 2 = .ok (.iconst 1, 1) := by decide +kernel
theorem dX4_isSlot_3 : decode cX4_isSlot 3 = .ok (.invokestatic 75, 3) := by decide +kernel
theorem dX4_isSlot_6 : decode cX4_isSlot 6 = .ok (.ireturn, 1) := by decide +kernel
theorem dX4_bit_0 : decode cX4_bit 0 = .ok (.iload_n 0, 1) := by decide +kernel
theorem dX4_bit_1 : decode cX4_bit 1 = .ok (.iload_n 1, 1) := by decide +kernel
theorem dX4_bit_2 : decode cX4_bit 2 = .ok (.ishr, 1) := by decide +kernel
theorem dX4_bit_3 : decode cX4_bit 3 = .ok (.iconst 1, 1) := by decide +kernel
theorem dX4_bit_4 : decode cX4_bit 4 = .ok (.iand, 1) := by decide +kernel
theorem dX4_bit_5 : decode cX4_bit 5 = .ok (.ireturn, 1) := by decide +kernel
theorem dJ6_bitCount_0f7a4_0 : decode cJ6_bitCount_0f7a4 0 = .ok (.iload_n 0, 1) := by decide +kernel
theorem dJ6_bitCount_0f7a4_1 : decode cJ6_bitCount_0f7a4 1 = .ok (.iload_n 0, 1) := by decide +kernel
theorem dJ6_bitCount_0f7a4_2 : decode cJ6_bitCount_0f7a4 2 = .ok (.iconst 1, 1) := by decide +kernel
theorem dJ6_bitCount_0f7a4_3 : decode cJ6_bitCount_0f7a4 3 = .ok (.iushr, 1) := by decide +kernel
theorem dJ6_bitCount_0f7a4_4 : decode cJ6_bitCount_0f7a4 4 = .ok (.ldc_w 265, 3) := by decide +kernel
theorem dJ6_bitCount_0f7a4_7 : decode cJ6_bitCount_0f7a4 7 = .ok (.iand, 1) := by decide +kernel
theorem dJ6_bitCount_0f7a4_8 : decode cJ6_bitCount_0f7a4 8 = .ok (.isub, 1) := by decide +kernel
theorem dJ6_bitCount_0f7a4_9 : decode cJ6_bitCount_0f7a4 9 = .ok (.istore_n 0, 1) := by decide +kernel
theorem dJ6_bitCount_0f7a4_10 : decode cJ6_bitCount_0f7a4 10 = .ok (.iload_n 0, 1) := by decide +kernel
theorem dJ6_bitCount_0f7a4_11 : decode cJ6_bitCount_0f7a4 11 = .ok (.ldc_w 266, 3) := by decide +kernel
theorem dJ6_bitCount_0f7a4_14 : decode cJ6_bitCount_0f7a4 14 = .ok (.iand, 1) := by decide +kernel
theorem dJ6_bitCount_0f7a4_15 : decode cJ6_bitCount_0f7a4 15 = .ok (.iload_n 0, 1) := by decide +kernel
theorem dJ6_bitCount_0f7a4_16 : decode cJ6_bitCount_0f7a4 16 = .ok (.iconst 2, 1) := by decide +kernel
theorem dJ6_bitCount_0f7a4_17 : decode cJ6_bitCount_0f7a4 17 = .ok (.iushr, 1) := by decide +kernel
theorem dJ6_bitCount_0f7a4_18 : decode cJ6_bitCount_0f7a4 18 = .ok (.ldc_w 266, 3) := by decide +kernel
theorem dJ6_bitCount_0f7a4_21 : decode cJ6_bitCount_0f7a4 21 = .ok (.iand, 1) := by decide +kernel
theorem dJ6_bitCount_0f7a4_22 : decode cJ6_bitCount_0f7a4 22 = .ok (.iadd, 1) := by decide +kernel
theorem dJ6_bitCount_0f7a4_23 : decode cJ6_bitCount_0f7a4 23 = .ok (.istore_n 0, 1) := by decide +kernel
theorem dJ6_bitCount_0f7a4_24 : decode cJ6_bitCount_0f7a4 24 = .ok (.iload_n 0, 1) := by decide +kernel
theorem dJ6_bitCount_0f7a4_25 : decode cJ6_bitCount_0f7a4 25 = .ok (.iload_n 0, 1) := by decide +kernel
theorem dJ6_bitCount_0f7a4_26 : decode cJ6_bitCount_0f7a4 26 = .ok (.iconst 4, 1) := by decide +kernel
theorem dJ6_bitCount_0f7a4_27 : decode cJ6_bitCount_0f7a4 27 = .ok (.iushr, 1) := by decide +kernel
theorem dJ6_bitCount_0f7a4_28 : decode cJ6_bitCount_0f7a4 28 = .ok (.iadd, 1) := by decide +kernel
theorem dJ6_bitCount_0f7a4_29 : decode cJ6_bitCount_0f7a4 29 = .ok (.ldc_w 267, 3) := by decide +kernel
theorem dJ6_bitCount_0f7a4_32 : decode cJ6_bitCount_0f7a4 32 = .ok (.iand, 1) := by decide +kernel
theorem dJ6_bitCount_0f7a4_33 : decode cJ6_bitCount_0f7a4 33 = .ok (.istore_n 0, 1) := by decide +kernel
theorem dJ6_bitCount_0f7a4_34 : decode cJ6_bitCount_0f7a4 34 = .ok (.iload_n 0, 1) := by decide +kernel
theorem dJ6_bitCount_0f7a4_35 : decode cJ6_bitCount_0f7a4 35 = .ok (.iload_n 0, 1) := by decide +kernel
theorem dJ6_bitCount_0f7a4_36 : decode cJ6_bitCount_0f7a4 36 = .ok (.bipush 8, 2) := by decide +kernel
theorem dJ6_bitCount_0f7a4_38 : decode cJ6_bitCount_0f7a4 38 = .ok (.iushr, 1) := by decide +kernel
theorem dJ6_bitCount_0f7a4_39 : decode cJ6_bitCount_0f7a4 39 = .ok (.iadd, 1) := by decide +kernel
theorem dJ6_bitCount_0f7a4_40 : decode cJ6_bitCount_0f7a4 40 = .ok (.istore_n 0, 1) := by decide +kernel
theorem dJ6_bitCount_0f7a4_41 : decode cJ6_bitCount_0f7a4 41 = .ok (.iload_n 0, 1) := by decide +kernel
theorem dJ6_bitCount_0f7a4_42 : decode cJ6_bitCount_0f7a4 42 = .ok (.iload_n 0, 1) := by decide +kernel
theorem dJ6_bitCount_0f7a4_43 : decode cJ6_bitCount_0f7a4 43 = .ok (.bipush 16, 2) := by decide +kernel
theorem dJ6_bitCount_0f7a4_45 : decode cJ6_bitCount_0f7a4 45 = .ok (.iushr, 1) := by decide +kernel
theorem dJ6_bitCount_0f7a4_46 : decode cJ6_bitCount_0f7a4 46 = .ok (.iadd, 1) := by decide +kernel
theorem dJ6_bitCount_0f7a4_47 : decode cJ6_bitCount_0f7a4 47 = .ok (.istore_n 0, 1) := by decide +kernel
theorem dJ6_bitCount_0f7a4_48 : decode cJ6_bitCount_0f7a4 48 = .ok (.iload_n 0, 1) := by decide +kernel
theorem dJ6_bitCount_0f7a4_49 : decode cJ6_bitCount_0f7a4 49 = .ok (.bipush 63, 2) := by decide +kernel
theorem dJ6_bitCount_0f7a4_51 : decode cJ6_bitCount_0f7a4 51 = .ok (.iand, 1) := by decide +kernel
theorem dJ6_bitCount_0f7a4_52 : decode cJ6_bitCount_0f7a4 52 = .ok (.ireturn, 1) := by decide +kernel
theorem dJ9_max_7cf53_0 : decode cJ9_max_7cf53 0 = .ok (.iload_n 0, 1) := by decide +kernel
theorem dJ9_max_7cf53_1 : decode cJ9_max_7cf53 1 = .ok (.iload_n 1, 1) := by decide +kernel
theorem dJ9_max_7cf53_2 : decode cJ9_max_7cf53 2 = .ok (.if_icmp .lt 7, 3) := by decide +kernel
theorem dJ9_max_7cf53_5 : decode cJ9_max_7cf53 5 = .ok (.iload_n 0, 1) := by decide +kernel
theorem dJ9_max_7cf53_6 : decode cJ9_max_7cf53 6 = .ok (.goto 4, 3) := by decide +kernel
theorem dJ9_max_7cf53_9 : decode cJ9_max_7cf53 9 = .ok (.iload_n 1, 1) := by decide +kernel
theorem dJ9_max_7cf53_10 : decode cJ9_max_7cf53 10 = .ok (.ireturn, 1) := by decide +kernel
theorem dJ9_min_7cf53_0 : decode cJ9_min_7cf53 0 = .ok (.iload_n 0, 1) := by decide +kernel
theorem dJ9_min_7cf53_1 : decode cJ9_min_7cf53 1 = .ok (.iload_n 1, 1) := by decide +kernel
theorem dJ9_min_7cf53_2 : decode cJ9_min_7cf53 2 = .ok (.if_icmp .gt 7, 3) := by decide +kernel
theorem dJ9_min_7cf53_5 : decode cJ9_min_7cf53 5 = .ok (.iload_n 0, 1) := by decide +kernel
theorem dJ9_min_7cf53_6 : decode cJ9_min_7cf53 6 = .ok (.goto 4, 3) := by decide +kernel
theorem dJ9_min_7cf53_9 : decode cJ9_min_7cf53 9 = .ok (.iload_n 1, 1) := by decide +kernel
theorem dJ9_min_7cf53_10 : decode cJ9_min_7cf53 10 = .ok (.ireturn, 1) := by decide +kernel
end
section
-- the worlds' array classes; a callee that only looks (RO), a callee that writes its own cells (MU): contracts and call rows
abbrev KT (cA : Nat → ClassId) : List (ClassId × FieldType) := [(cA 0, .int), (cA 1, .boolean), (cA 2, .object "WireLoom$State"), (cA 3, .long)]
def noA : Nat → Prop := fun _ => False
abbrev nl_bit : Cond := .methodLinkNest RX2 70 yX4_bit "WireLoom"
def KN (D : va_G) (cA : Nat → ClassId) (U : State) : Prop := va_K D vwCl (KT cA) U ∧ va_Nw nl_bit U
theorem KN.moved {D : va_G} {cA : Nat → ClassId} {s U : State} (hW : s.WarmedH U.vm) (h : KN D cA s) : KN D cA U := ⟨va_K.moved hW.alike h.1, va_Nw.warmM hW h.2⟩
def preC (D : va_G) (cA : Nat → ClassId) (av : List Value) (H : Heap) : Array Value → State → Prop := va_Pc av (fun U => U.heap = H ∧ KN D cA U)
theorem preC_blind {D : va_G} {cA : Nat → ClassId} {av : List Value} {H : Heap} : FrameBlind (preC D cA av H) := by
  intro a U g mk q
  obtain ⟨q0, q1, q2⟩ := q
  exact ⟨q0, q1, va_K.moved (u := U) (U := U.calling g mk a) (Vm.Alike.refl U.vm) q2.1, va_Nw.same rfl rfl q2.2⟩
def roQ (H : Heap) (v : Option Value) : Array Value → State → Outcome → State → Prop := fun _ _ o t => o = .returned v ∧ t.heap = H
def RO (l : Launch) (y : MethodName) (ws : List Cond) (rm : Room) (D : va_G) (cA : Nat → ClassId) (av : List Value) (H : Heap) (v : Option Value) : Prop := Met l y ws rm (preC D cA av H) (roQ H v) 0 0 noA
def muQ (D : va_G) (H : Heap) (w0 w1 : va_W) (v : Option Value) : Array Value → State → Outcome → State → Prop := fun _ _ o t => o = .returned v ∧ va_P D vwCl w1 t.heap ∧ H.size ≤ t.heap.size ∧ ∀ q : Nat, q < H.size → ¬ va_A w0 H.size q → t.heap[q]? = H[q]?
def MU (l : Launch) (y : MethodName) (ws : List Cond) (rm : Room) (D : va_G) (cA : Nat → ClassId) (av : List Value) (H : Heap) (w0 w1 : va_W) (v : Option Value) : Prop := Met l y ws rm (preC D cA av H) (muQ D H w0 w1 v) 0 0 (va_A w0 H.size)
/-- a world with some of its cells written anew, by their places -/
def setMany (ws : va_W) (is : List Nat) (w1 : va_W) : va_W := (is.zip w1).foldl (fun w q => w.set q.1 q.2) ws
section LIB
variable {p : Program} {l : Launch} {e : Env} {R : Room} {s : State} {m : MethodId} {args : Array Value} {below : List Frame} {meth : Method} {c : Code} {H : Heap} {locs : List Loc} {cells slots : Nat} {Q : State → Prop}
variable {y : MethodName} {bytes cc : ByteArray} {maxL nL n index : Nat} {ret : Option FieldType} {ws : List Cond} {rm : Room} {Ts : List Cond} {own C : String} {b : Addr} {As rest st0 : List Value} {pc : Nat} {ls : Array Slot} {D : va_G} {cA : Nat → ClassId} {v : Option Value}
theorem preS_of (hKN : KN D cA s) (av : List Value) : PreS s H (preC D cA av H) av :=
  ⟨preC_blind, fun U hU hW => ⟨rfl, hU, hKN.moved hW⟩⟩
theorem ro_run {Qa : Array Value} (hr : va_Run p l e R s m args below meth c H locs cells slots 0 0 (F0 m pc ls st0) rest (roQ H v Qa) noA)
    (kk : W p l e R s m args below meth c H locs cells slots Q (F0 m (pc + 3) ls (v.toList ++ rest))) : W p l e R s m args below meth c H locs cells slots Q (F0 m pc ls st0) := by
  intro T hT X
  obtain ⟨v', st₀, t, T', L, h0, X', hL, e1, e2, ⟨hv, hh⟩, st⟩ := hr T hT X
  cases hv
  have hLn : L = [] := by
    cases L with
    | nil => rfl
    | cons a L => exact (hL a List.mem_cons_self).elim
  subst hLn
  rw [List.append_nil] at X'
  obtain ⟨t2, a1, b1⟩ := kk T' (e1.trans hh) X'
  exact ⟨t2, st t2 a1, b1⟩
/-- a static method of the same class, or of another, that only looks -/
theorem ro_S (S : CallFix p m c cc nL s args Ts own) (hM : RO l y ws rm D cA As H v) (cw : CallB R s args own index y bytes maxL ret ws rm 0 0 n ∧ (Cond.static y).before args s = true) (hKN : KN D cA s)
    (hn : As.length = n) (hsize : ls.size = nL) (hst : st0 = As.reverse ++ rest) (hW : 2 * (F0 m pc ls st0).monitorRoom + (rest.map fun v => v.category).sum ≤ 8) (hdg : decode cc pc = .ok (.invokestatic index, 3)) (hf : cells ≤ R.cells ∧ slots ≤ R.slots)
    (kk : W p l e R s m args below meth c H locs cells slots Q (F0 m (pc + 3) ls (v.toList ++ rest))) : W p l e R s m args below meth c H locs cells slots Q (F0 m pc ls st0) :=
  ro_run (va_runS S hM cw (preS_of hKN As) rfl hn hsize hst hW hdg hf) kk
theorem ro_SN {host : String} (S : CallFix p m c cc nL s args Ts own) (hM : RO l y ws rm D cA As H v) (cw : va_CN R s args own index y host bytes maxL ret ws rm 0 0 n ∧ (Cond.static y).before args s = true ∧ True) (hKN : KN D cA s)
    (hn : As.length = n) (hsize : ls.size = nL) (hst : st0 = As.reverse ++ rest) (hW : 2 * (F0 m pc ls st0).monitorRoom + (rest.map fun v => v.category).sum ≤ 8) (hdg : decode cc pc = .ok (.invokestatic index, 3)) (hf : cells ≤ R.cells ∧ slots ≤ R.slots)
    (kk : W p l e R s m args below meth c H locs cells slots Q (F0 m (pc + 3) ls (v.toList ++ rest))) : W p l e R s m args below meth c H locs cells slots Q (F0 m pc ls st0) :=
  ro_run (va_runSN S hM cw (preS_of hKN As) rfl hn hsize hst hW hdg hf) kk
theorem ro_V {wsW : va_W} {q0 ci : Nat} {q : vw_C} {fs : List Value} (S : CallFix p m c cc nL s args Ts own) (hM : RO l y ws rm D cA (.ref b :: As) H v) (cw : CallW R s args own q.1 index y bytes maxL ret ws rm 0 0 n) (hKN : KN D cA s)
    (hP : va_P D vwCl wsW H) (hc : vwCl[ci]? = some q) (he : wsW[q0]? = some (b, .inr (ci, fs)))
    (hn : As.length = n) (hsize : ls.size = nL) (hst : st0 = As.reverse ++ .ref b :: rest) (hW : 2 * (F0 m pc ls st0).monitorRoom + (rest.map fun v => v.category).sum ≤ 8) (hdg : decode cc pc = .ok (.invokevirtual index, 3)) (hf : cells ≤ R.cells ∧ slots ≤ R.slots)
    (kk : W p l e R s m args below meth c H locs cells slots Q (F0 m (pc + 3) ls (v.toList ++ rest))) : W p l e R s m args below meth c H locs cells slots Q (F0 m pc ls st0) :=
  ro_run (va_runV S hM cw ⟨preC_blind, va_recv hKN.1 hP hc he, fun U hU hW => ⟨rfl, hU, hKN.moved hW⟩⟩ rfl hn hsize hst hW hdg hf) kk
/-- places in a list: what the i-th of them is -/
theorem sm_get {α β : Type} {f : Nat → α} {w : List β} {g : β → α} {is : List Nat} (h : is.map f = w.map g) {k : Nat} {i : Nat} (hi : is[k]? = some i) : ∃ b, w[k]? = some b ∧ f i = g b := by
  have h1 : (is.map f)[k]? = some (f i) := by rw [List.getElem?_map, hi]; rfl
  rw [h, List.getElem?_map] at h1
  cases hb : w[k]? with
  | none => rw [hb] at h1; cases h1
  | some b => rw [hb] at h1; exact ⟨b, rfl, (Option.some.inj h1).symm⟩
theorem setMany_spec : ∀ (is : List Nat) (w1 ws : va_W) (k : Nat) (q : Nat × va_E), (setMany ws is w1)[k]? = some q → (∃ j : Nat, is[j]? = some k ∧ w1[j]? = some q) ∨ ((∀ j : Nat, j < w1.length → is[j]? ≠ some k) ∧ ws[k]? = some q) := by
  intro is
  induction is with
  | nil =>
    intro w1 ws k q h
    exact Or.inr ⟨fun j _ hj => by simp at hj, h⟩
  | cons i is ih =>
    intro w1 ws k q h
    cases w1 with
    | nil => exact Or.inr ⟨fun j hj => by simp at hj, h⟩
    | cons x w1 =>
      have h' : (setMany (ws.set i x) is w1)[k]? = some q := h
      rcases ih w1 (ws.set i x) k q h' with ⟨j, h1, h2⟩ | ⟨h1, h2⟩
      · exact Or.inl ⟨j + 1, by simpa using h1, by simpa using h2⟩
      · by_cases hk : i = k
        · subst hk
          refine Or.inl ⟨0, by simp, ?_⟩
          have hl : i < ws.length := by
            rcases Nat.lt_or_ge i ws.length with q1 | q1
            · exact q1
            · have h3 := (List.getElem?_eq_some_iff.mp h2).1
              rw [List.length_set] at h3
              omega
          rw [List.getElem?_set_self hl] at h2
          simpa using h2
        · rw [List.getElem?_set_ne hk] at h2
          refine Or.inr ⟨fun j hj => ?_, h2⟩
          cases j with
          | zero => simpa using hk
          | succ j => simpa using h1 j (by simpa using hj)
theorem setMany_fst : ∀ (is : List Nat) (w1 ws : va_W), (∀ (j i : Nat) (x : Nat × va_E), is[j]? = some i → w1[j]? = some x → (ws.map Prod.fst)[i]? = some x.1) → (setMany ws is w1).map Prod.fst = ws.map Prod.fst := by
  intro is
  induction is with
  | nil => intro w1 ws _; rfl
  | cons i is ih =>
    intro w1 ws h
    cases w1 with
    | nil => rfl
    | cons x w1 =>
      have h0 := h 0 i x (by simp) (by simp)
      have e1 : (ws.set i x).map Prod.fst = ws.map Prod.fst := by
        rw [List.map_set]
        apply List.ext_getElem?
        intro k
        by_cases hk : i = k
        · subst hk
          have hl : i < (ws.map Prod.fst).length := (List.getElem?_eq_some_iff.mp h0).1
          rw [List.getElem?_set_self hl, h0]
        · rw [List.getElem?_set_ne hk]
      have e2 : (setMany (ws.set i x) is w1).map Prod.fst = (ws.set i x).map Prod.fst := ih w1 (ws.set i x) (fun j i2 x2 h1 h2 => by rw [e1]; exact h (j + 1) i2 x2 (by simpa using h1) (by simpa using h2))
      exact e2.trans e1
theorem va_D_fst {A : Nat → Prop} {w w' : va_W} (h : va_D A w) (hf : w'.map Prod.fst = w.map Prod.fst) : va_D A w' := by
  have key : ∀ (k : Nat) (q : Nat × va_E), w'[k]? = some q → ∃ q', w[k]? = some q' ∧ q'.1 = q.1 := by
    intro k q hk
    have h1 : (w'.map Prod.fst)[k]? = some q.1 := by rw [List.getElem?_map, hk]; rfl
    rw [hf, List.getElem?_map] at h1
    cases hq : w[k]? with
    | none => rw [hq] at h1; cases h1
    | some q' => rw [hq] at h1; exact ⟨q', rfl, Option.some.inj h1⟩
  refine ⟨fun i j x z hi hj hxz => ?_, fun k q hk => ?_⟩
  · obtain ⟨x', a1, a2⟩ := key i x hi
    obtain ⟨z', b1, b2⟩ := key j z hj
    exact h.1 i j x' z' a1 b1 (by rw [a2, b2, hxz])
  · obtain ⟨q', a1, a2⟩ := key k q hk
    rw [← a2]
    exact h.2 k q' a1
/-- behind a call that wrote its own cells: the caller's world with these cells anew, in their places -/
theorem mu_join {A0 : Nat → Prop} {wsW wc w1 : va_W} {H1 : Heap} (hP : va_P D vwCl wsW H) (hD : va_D A0 wsW) (is : List Nat) (hC : is.map (fun i => wsW[i]?) = wc.map some) (hf : w1.map Prod.fst = wc.map Prod.fst)
    (hk : ∀ q : Nat, q < H.size → ¬ va_A wc H.size q → H1[q]? = H[q]?) (hP1 : va_P D vwCl w1 H1) : va_P D vwCl (setMany wsW is w1) H1 ∧ va_D A0 (setMany wsW is w1) := by
  have hlen : w1.length = wc.length := by simpa using congrArg List.length hf
  have hlis : is.length = wc.length := by simpa using congrArg List.length hC
  have hfst : ∀ (j i : Nat) (x : Nat × va_E), is[j]? = some i → w1[j]? = some x → (wsW.map Prod.fst)[i]? = some x.1 := by
    intro j i x hi hx
    obtain ⟨z, h1, h2⟩ := sm_get hC hi
    have h3 : (w1.map Prod.fst)[j]? = some x.1 := by rw [List.getElem?_map, hx]; rfl
    rw [hf, List.getElem?_map, h1] at h3
    rw [List.getElem?_map, h2]
    exact h3
  refine ⟨fun k q hq => ?_, va_D_fst hD (setMany_fst is w1 wsW hfst)⟩
  rcases setMany_spec is w1 wsW k q hq with ⟨j, h1, h2⟩ | ⟨h1, h2⟩
  · exact hP1 j q h2
  · have hl := (hP k q h2).lt
    refine (hP k q h2).kept (hk q.1 hl ?_)
    intro h
    rcases h with ⟨j, e9, h⟩ | h
    · have hj : j < is.length := by rw [hlis]; exact (List.getElem?_eq_some_iff.mp h).1
      obtain ⟨z, h3, h4⟩ := sm_get hC (List.getElem?_eq_getElem hj)
      rw [h] at h3
      cases h3
      have := hD.1 k _ q (q.1, e9) h2 h4 rfl
      exact h1 j (by rw [hlen, ← hlis]; exact hj) (by rw [List.getElem?_eq_getElem hj, this])
    · omega
theorem mu_run {A0 : Nat → Prop} {H0 : Heap} {wsW ws' wc w1 : va_W} {Qa : Array Value} (hr : va_Run p l e R s m args below meth c H locs cells slots 0 0 (F0 m pc ls st0) rest (muQ D H wc w1 v Qa) (va_A wc H.size))
    (hP : va_P D vwCl wsW H) (hD : va_D A0 wsW) (hS : va_S A0 H0 H locs) (hA : ∀ q, H0.size ≤ q → A0 q) (is : List Nat) (hC : is.map (fun i => wsW[i]?) = wc.map some) (hf : w1.map Prod.fst = wc.map Prod.fst) (hw : setMany wsW is w1 = ws')
    (kk : ∀ (H1 : Heap) (locs1 : List Loc), va_P D vwCl ws' H1 → va_D A0 ws' → va_S A0 H0 H1 locs1 → W p l e R s m args below meth c H1 locs1 cells slots Q (F0 m (pc + 3) ls (v.toList ++ rest))) : W p l e R s m args below meth c H locs cells slots Q (F0 m pc ls st0) := by
  intro T hT X
  obtain ⟨v', st₀, t, T', L, h0, X', hL, e1, e2, ⟨hv, hp1, hz, hk⟩, st⟩ := hr T hT X
  cases hv
  have hF := va_free (wc := wc) hD hS hA is hC
  obtain ⟨hP2, hD2⟩ := mu_join (H1 := t.heap) hP hD is hC hf hk hp1
  rw [hw] at hP2 hD2
  have hS2 : va_S A0 H0 t.heap (locs ++ L) := ⟨Nat.le_trans hS.1 hz, fun q h1 h2 => by rw [hk q (Nat.lt_of_lt_of_le h1 hS.1) (fun z => h2 (hF q z))]; exact hS.2.1 q h1 h2, fun q hq => by
    rcases List.mem_append.mp hq with h | h
    · exact hS.2.2 q h
    · exact hF _ (hL q h)⟩
  obtain ⟨t2, a1, b1⟩ := kk t.heap (locs ++ L) hP2 hD2 hS2 T' e1 X'
  exact ⟨t2, st t2 a1, b1⟩
theorem mu_V {A0 : Nat → Prop} {H0 : Heap} {wsW ws' wc w1 : va_W} {q0 ci : Nat} {q : vw_C} {fs : List Value} (S : CallFix p m c cc nL s args Ts own) (hM : MU l y ws rm D cA (.ref b :: As) H wc w1 v) (cw : CallW R s args own q.1 index y bytes maxL ret ws rm 0 0 n) (hKN : KN D cA s)
    (hP : va_P D vwCl wsW H) (hD : va_D A0 wsW) (hS : va_S A0 H0 H locs) (hA : ∀ q, H0.size ≤ q → A0 q) (hc : vwCl[ci]? = some q) (he : wsW[q0]? = some (b, .inr (ci, fs)))
    (is : List Nat) (hC : is.map (fun i => wsW[i]?) = wc.map some) (hfx : w1.map Prod.fst = wc.map Prod.fst) (hw : setMany wsW is w1 = ws')
    (hn : As.length = n) (hsize : ls.size = nL) (hst : st0 = As.reverse ++ .ref b :: rest) (hW : 2 * (F0 m pc ls st0).monitorRoom + (rest.map fun v => v.category).sum ≤ 8) (hdg : decode cc pc = .ok (.invokevirtual index, 3)) (hf : cells ≤ R.cells ∧ slots ≤ R.slots)
    (kk : ∀ (H1 : Heap) (locs1 : List Loc), va_P D vwCl ws' H1 → va_D A0 ws' → va_S A0 H0 H1 locs1 → W p l e R s m args below meth c H1 locs1 cells slots Q (F0 m (pc + 3) ls (v.toList ++ rest))) : W p l e R s m args below meth c H locs cells slots Q (F0 m pc ls st0) :=
  mu_run (va_runV S hM cw ⟨preC_blind, va_recv hKN.1 hP hc he, fun U hU hW => ⟨rfl, hU, hKN.moved hW⟩⟩ rfl hn hsize hst hW hdg hf) hP hD hS hA is hC hfx hw kk
/-- the end of a method that only looks -/
theorem ro_iret {x z : Int32} (hexec : p.tables.exec = Jvm.exec) (hb : c.code = cc) (hr : meth.sig.returnType = some .int) (hlocks : meth.locks = false) (hH : H = s.heap) (hdg : decode cc pc = .ok (.ireturn, 1)) (hv : x = z) :
    W p l e R s m args below meth c H [] 0 0 (MQ below (roQ s.heap (some (.int z))) args s 0 0 noA) (F0 m pc ls [.int x]) := by
  subst hv
  subst hH
  exact W.iret hexec hb hr (fun t ht _ => ⟨rfl, ht⟩) (fun q h => by cases h) hdg hlocks
theorem ro_zret {x z : Int32} (hexec : p.tables.exec = Jvm.exec) (hb : c.code = cc) (hr : meth.sig.returnType = some .boolean) (hlocks : meth.locks = false) (hH : H = s.heap) (hdg : decode cc pc = .ok (.ireturn, 1)) (hn : narrow .boolean (.int x) = .int x) (hv : x = z) :
    W p l e R s m args below meth c H [] 0 0 (MQ below (roQ s.heap (some (.int z))) args s 0 0 noA) (F0 m pc ls [.int x]) := by
  subst hv
  subst hH
  exact W.zret hexec hb hr hn (fun t ht _ => ⟨rfl, ht⟩) (fun q h => by cases h) hdg hlocks
theorem ro_lret {x z : Int64} (hexec : p.tables.exec = Jvm.exec) (hb : c.code = cc) (hr : meth.sig.returnType = some .long) (hlocks : meth.locks = false) (hH : H = s.heap) (hdg : decode cc pc = .ok (.lreturn, 1)) (hv : x = z) :
    W p l e R s m args below meth c H [] 0 0 (MQ below (roQ s.heap (some (.long z))) args s 0 0 noA) (F0 m pc ls [.long x]) := by
  subst hv
  subst hH
  exact W.lret hexec hb hr (fun t ht _ => ⟨rfl, ht⟩) (fun q h => by cases h) hdg hlocks
theorem mu_iret {A : Nat → Prop} {w0 w1 : va_W} {x z : Int32} (hexec : p.tables.exec = Jvm.exec) (hb : c.code = cc) (hr : meth.sig.returnType = some .int) (hlocks : meth.locks = false) (hdg : decode cc pc = .ok (.ireturn, 1)) (hAe : va_A w0 s.heap.size = A) (hS : va_S A s.heap H locs) (hP : va_P D vwCl w1 H) (hv : x = z) :
    W p l e R s m args below meth c H locs 0 0 (MQ below (muQ D s.heap w0 w1 (some (.int z))) args s 0 0 A) (F0 m pc ls [.int x]) := by
  subst hv
  subst hAe
  exact W.iret hexec hb hr (fun t ht _ => ⟨rfl, by rw [ht]; exact hP, by rw [ht]; exact hS.1, fun q h1 h2 => by rw [ht]; exact hS.2.1 q h1 h2⟩) hS.2.2 hdg hlocks
theorem mu_vret {A : Nat → Prop} {w0 w1 : va_W} (hexec : p.tables.exec = Jvm.exec) (hb : c.code = cc) (hr : meth.sig.returnType = none) (hlocks : meth.locks = false) (hdg : decode cc pc = .ok (.return_, 1)) (hAe : va_A w0 s.heap.size = A) (hS : va_S A s.heap H locs) (hP : va_P D vwCl w1 H) :
    W p l e R s m args below meth c H locs 0 0 (MQ below (muQ D s.heap w0 w1 none) args s 0 0 A) (F0 m pc ls []) := by
  subst hAe
  exact W.vret hexec hb hr (fun t ht _ => ⟨rfl, by rw [ht]; exact hP, by rw [ht]; exact hS.1, fun q h1 h2 => by rw [ht]; exact hS.2.1 q h1 h2⟩) hS.2.2 hdg hlocks
/-! rows with a numeral for an index, or a value by another name -/
theorem lz_top {x v : Int32} (h : x = v) (k : W p l e R s m args below meth c H locs cells slots Q (F0 m pc ls (.int v :: rest))) : W p l e R s m args below meth c H locs cells slots Q (F0 m pc ls (.int x :: rest)) := by
  subst h
  exact k
theorem lz_iadd {x y v : Int32} (hexec : p.tables.exec = Jvm.exec) (hb : c.code = cc) (hdg : decode cc pc = .ok (.iadd, 1)) (hv : x + y = v) (k : W p l e R s m args below meth c H locs cells slots Q (F0 m (pc + 1) ls (.int v :: rest))) : W p l e R s m args below meth c H locs cells slots Q (F0 m pc ls (.int y :: .int x :: rest)) := by
  subst hv
  exact lv_iadd hexec hb hdg k
theorem lz_isub {x y v : Int32} (hexec : p.tables.exec = Jvm.exec) (hb : c.code = cc) (hdg : decode cc pc = .ok (.isub, 1)) (hv : x - y = v) (k : W p l e R s m args below meth c H locs cells slots Q (F0 m (pc + 1) ls (.int v :: rest))) : W p l e R s m args below meth c H locs cells slots Q (F0 m pc ls (.int y :: .int x :: rest)) := by
  subst hv
  exact lv_isub hexec hb hdg k
theorem lz_imul {x y v : Int32} (hexec : p.tables.exec = Jvm.exec) (hb : c.code = cc) (hdg : decode cc pc = .ok (.imul, 1)) (hv : x * y = v) (k : W p l e R s m args below meth c H locs cells slots Q (F0 m (pc + 1) ls (.int v :: rest))) : W p l e R s m args below meth c H locs cells slots Q (F0 m pc ls (.int y :: .int x :: rest)) := by
  subst hv
  exact lv_imul hexec hb hdg k
theorem lz_idiv {x y v : Int32} (hexec : p.tables.exec = Jvm.exec) (hb : c.code = cc) (hdg : decode cc pc = .ok (.idiv, 1)) (hne : ¬ y = 0) (hv : x / y = v) (k : W p l e R s m args below meth c H locs cells slots Q (F0 m (pc + 1) ls (.int v :: rest))) : W p l e R s m args below meth c H locs cells slots Q (F0 m pc ls (.int y :: .int x :: rest)) := by
  subst hv
  exact lv_idiv hexec hb hdg hne k
theorem lz_irem {x y v : Int32} (hexec : p.tables.exec = Jvm.exec) (hb : c.code = cc) (hdg : decode cc pc = .ok (.irem, 1)) (hne : ¬ y = 0) (hv : x - x / y * y = v) (k : W p l e R s m args below meth c H locs cells slots Q (F0 m (pc + 1) ls (.int v :: rest))) : W p l e R s m args below meth c H locs cells slots Q (F0 m pc ls (.int y :: .int x :: rest)) := by
  subst hv
  exact lv_irem hexec hb hdg hne k
theorem lz_in {k n : Nat} (hk : k < n) (hn : n < 2 ^ 31) : vp_in (nI k) n := vp_in_nI hk hn
theorem lz_iald {wsW : va_W} {a : Nat} (k : Nat) {f : Nat → Int32} (hexec : p.tables.exec = Jvm.exec) (hb : c.code = cc) (hK : va_K D vwCl (KT cA) s) (hP : va_P D vwCl wsW H) (q0 t0 : Nat) {cX : ClassId} {n : Nat} (ha : wsW[q0]? = some (a, .inl (cX, n, .inl f))) (ht : (KT cA)[t0]? = some (cX, .int)) (hk : k < n ∧ n < 2 ^ 31) (hdg : decode cc pc = .ok (.iaload, 1))
    (kk : W p l e R s m args below meth c H locs cells slots Q (F0 m (pc + 1) ls (.int (f k) :: rest))) : W p l e R s m args below meth c H locs cells slots Q (F0 m pc ls (.int (nI k) :: .ref a :: rest)) := by
  refine va_iald hexec hb hK hP q0 t0 ha ht (vp_in_nI hk.1 hk.2) hdg ?_
  rw [nI_clamp (Nat.lt_trans hk.1 hk.2)]
  exact kk
theorem lz_zald {wsW : va_W} {a : Nat} (k : Nat) {f : Nat → Int32} (hexec : p.tables.exec = Jvm.exec) (hb : c.code = cc) (hK : va_K D vwCl (KT cA) s) (hP : va_P D vwCl wsW H) (q0 t0 : Nat) {cX : ClassId} {n : Nat} (ha : wsW[q0]? = some (a, .inl (cX, n, .inl f))) (ht : (KT cA)[t0]? = some (cX, .boolean)) (hk : k < n ∧ n < 2 ^ 31) (hdg : decode cc pc = .ok (.baload, 1))
    (kk : W p l e R s m args below meth c H locs cells slots Q (F0 m (pc + 1) ls (.int (f k) :: rest))) : W p l e R s m args below meth c H locs cells slots Q (F0 m pc ls (.int (nI k) :: .ref a :: rest)) := by
  refine va_zald hexec hb hK hP q0 t0 ha ht (vp_in_nI hk.1 hk.2) hdg ?_
  rw [nI_clamp (Nat.lt_trans hk.1 hk.2)]
  exact kk
theorem lz_aldq {wsW : va_W} {a : Nat} (k : Nat) {f : Nat → Option Nat} (hexec : p.tables.exec = Jvm.exec) (hb : c.code = cc) (hK : va_K D vwCl (KT cA) s) (hP : va_P D vwCl wsW H) (q0 : Nat) {cX : ClassId} {n : Nat} (ha : wsW[q0]? = some (a, .inl (cX, n, .inr (.inr (.inr (.inr f)))))) (ht : (KT cA)[2]? = some (cX, .object "WireLoom$State")) (hk : k < n ∧ n < 2 ^ 31) (hdg : decode cc pc = .ok (.aaload, 1))
    (kk : W p l e R s m args below meth c H locs cells slots Q (F0 m (pc + 1) ls (va_rf (f k) :: rest))) : W p l e R s m args below meth c H locs cells slots Q (F0 m pc ls (.int (nI k) :: .ref a :: rest)) := by
  refine va_aldq hexec hb hK hP q0 2 ha ht (vp_in_nI hk.1 hk.2) hdg ?_
  rw [nI_clamp (Nat.lt_trans hk.1 hk.2)]
  exact kk
theorem lz_iast {A : Nat → Prop} {H0 : Heap} {wsW : va_W} {a : Nat} (k : Nat) {f : Nat → Int32} (hexec : p.tables.exec = Jvm.exec) (hb : c.code = cc) (hK : va_K D vwCl (KT cA) s) (hP : va_P D vwCl wsW H) (hD : va_D A wsW) (hS : va_S A H0 H locs) (q0 t0 : Nat) {cX : ClassId} {n : Nat} (ha : wsW[q0]? = some (a, .inl (cX, n, .inl f))) (ht : (KT cA)[t0]? = some (cX, .int)) {x : Int32} (hk : k < n ∧ n < 2 ^ 31) (hdg : decode cc pc = .ok (.iastore, 1))
    (kk : ∀ (H1 : Heap) (locs1 : List Loc), va_P D vwCl (wsW.set q0 (a, .inl (cX, n, .inl (upd f k x)))) H1 → va_D A (wsW.set q0 (a, .inl (cX, n, .inl (upd f k x)))) → va_S A H0 H1 locs1 → W p l e R s m args below meth c H1 locs1 cells slots Q (F0 m (pc + 1) ls rest)) : W p l e R s m args below meth c H locs cells slots Q (F0 m pc ls (.int x :: .int (nI k) :: .ref a :: rest)) := by
  refine va_iast hexec hb hK hP hD hS q0 t0 ha ht (vp_in_nI hk.1 hk.2) hdg ?_
  rw [nI_clamp (Nat.lt_trans hk.1 hk.2)]
  exact kk
theorem lz_last {A : Nat → Prop} {H0 : Heap} {wsW : va_W} {a : Nat} (k : Nat) {f : Nat → Int64} (hexec : p.tables.exec = Jvm.exec) (hb : c.code = cc) (hK : va_K D vwCl (KT cA) s) (hP : va_P D vwCl wsW H) (hD : va_D A wsW) (hS : va_S A H0 H locs) (q0 t0 : Nat) {cX : ClassId} {n : Nat} (ha : wsW[q0]? = some (a, .inl (cX, n, .inr (.inl f)))) (ht : (KT cA)[t0]? = some (cX, .long)) {x : Int64} (hk : k < n ∧ n < 2 ^ 31) (hdg : decode cc pc = .ok (.lastore, 1))
    (kk : ∀ (H1 : Heap) (locs1 : List Loc), va_P D vwCl (wsW.set q0 (a, .inl (cX, n, .inr (.inl (vp_updL f k x))))) H1 → va_D A (wsW.set q0 (a, .inl (cX, n, .inr (.inl (vp_updL f k x))))) → va_S A H0 H1 locs1 → W p l e R s m args below meth c H1 locs1 cells slots Q (F0 m (pc + 1) ls rest)) : W p l e R s m args below meth c H locs cells slots Q (F0 m pc ls (.long x :: .int (nI k) :: .ref a :: rest)) := by
  refine va_last hexec hb hK hP hD hS q0 t0 ha ht (vp_in_nI hk.1 hk.2) hdg ?_
  rw [nI_clamp (Nat.lt_trans hk.1 hk.2)]
  exact kk
/-- arrays that agree on their places are one -/
theorem vp_cell_ext {cX : ClassId} {n : Nat} {f g : Nat → Int32} (h : ∀ j, j < n → f j = g j) : vp_cell cX (n, .inl f) = vp_cell cX (n, .inl g) := by
  rw [vp_cell_i, vp_cell_i]
  unfold arrV
  congr 1
  apply Array.ext
  · simp
  · intro j h1 h2
    have hj : j < n := by simpa using h1
    simp [h j hj]
theorem set_ext {wsW : va_W} {q0 a : Nat} {cX : ClassId} {n : Nat} {f g : Nat → Int32} (h : ∀ j, j < n → f j = g j) (hP : va_P D vwCl (wsW.set q0 (a, .inl (cX, n, .inl f))) H) : va_P D vwCl (wsW.set q0 (a, .inl (cX, n, .inl g))) H := by
  intro k q hq
  by_cases hk : q0 = k
  · subst hk
    have hl : q0 < wsW.length := by
      have := (List.getElem?_eq_some_iff.mp hq).1
      rwa [List.length_set] at this
    rw [List.getElem?_set_self hl] at hq
    cases hq
    have h1 := hP q0 _ (List.getElem?_set_self hl)
    show H[a]? = some (vp_cell cX (n, .inl g))
    rw [← vp_cell_ext h]
    exact h1
  · exact hP k q (by rw [List.getElem?_set_ne hk] at hq ⊢; exact hq)
/-- System.arraycopy of a whole row of ints -/
theorem lz_copy {A : Nat → Prop} {H0 : Heap} {wsW : va_W} {f g : Nat → Int32} (N : Nat) (hexec : p.tables.exec = Jvm.exec) (hb : c.code = cc) (hml : c.maxLocals = ls.size) (hown : s.vm.findClass own = some m.cls) (hlink : (Cond.methodLink own index arraycopyName).before args s = true) (hnat : (Cond.native arraycopyName).before args s = true) (hstat : (Cond.static arraycopyName).before args s = true) (hini : (Cond.initialized "java/lang/System").before args s = true)
    (hK : va_K D vwCl (KT cA) s) (hP : va_P D vwCl wsW H) (hD : va_D A wsW) (hS : va_S A H0 H locs) (q0 q1 t0 : Nat) {a0 a1 : Nat} {cX : ClassId} (ha0 : wsW[q0]? = some (a0, .inl (cX, N, .inl f))) (ha1 : wsW[q1]? = some (a1, .inl (cX, N, .inl g))) (ht0 : (KT cA)[t0]? = some (cX, .int))
    {n : Int32} (h3 : ¬ n < 0) (h4 : n.toNatClampNeg = N) (hframes : 1 ≤ R.frames) (hlocals : (rest.map fun v => v.category).sum + (nativeFrameWords "java/lang/System" "arraycopy" 5 + 11) ≤ R.locals) (hdg : decode cc pc = .ok (.invokestatic index, 3))
    (kk : ∀ (H1 : Heap) (locs1 : List Loc), va_P D vwCl (wsW.set q1 (a1, .inl (cX, N, .inl f))) H1 → va_D A (wsW.set q1 (a1, .inl (cX, N, .inl f))) → va_S A H0 H1 locs1 → W p l e R s m args below meth c H1 locs1 cells slots Q (F0 m (pc + 3) ls rest)) : W p l e R s m args below meth c H locs cells slots Q (F0 m pc ls (.int n :: .int 0 :: .ref a1 :: .int 0 :: .ref a0 :: rest)) := by
  refine va_copyi hexec hb hml hown hlink hnat hstat hini hK hP hD hS q0 q1 t0 t0 ha0 ha1 ht0 ht0 rfl (sp := 0) (dp := 0) (by decide) (by decide) h3 (by rw [h4]; exact Nat.le_of_eq (Nat.zero_add _)) (by rw [h4]; exact Nat.le_of_eq (Nat.zero_add _)) (fun i hi => rfl) hframes hlocals hdg (fun H1 locs1 hP1 hD1 hS1 => ?_)
  refine kk H1 locs1 (set_ext (fun j hj => ?_) hP1) (va_D_fst hD1 ?_) hS1
  · rw [h4]
    show va_cpy f g 0 0 N j = f j
    have e0 : (0 : Int32).toNatClampNeg = 0 := rfl
    rw [pk_cpy_in (Nat.zero_le j) (by omega)]
    simp
  · rw [List.map_set, List.map_set]
theorem cwS2 {mc ms : Nat} {ws' : List Cond} (n : Nat) (ht : ∀ w ∈ Ts, w.before args s = true) (hT : GoodIn Ts (va_wsS own index y ws)) (hw : ws = Cond.code y bytes maxL ret :: ws') (hrc : rm.cells = mc) (hrs : rm.slots = ms)
    (hd : y.cls ≠ "java/lang/invoke/MethodHandle" ∧ y.cls ≠ "java/lang/invoke/VarHandle" ∧ (parseMethodDescriptor y.desc).map (fun d => d.parameters.length) = some n) (hR : rm.frames + 1 ≤ R.frames ∧ 8 + (maxL + 11) + rm.locals ≤ R.locals) :
    CallB R s args own index y bytes maxL ret ws rm mc ms n ∧ (Cond.static y).before args s = true := va_cwS n ht hT hw hrc hrs hd hR
/-- the class's own private static bit, called from State -/
theorem nestB {mc ms : Nat} {ws' : List Cond} {host : String} (n : Nat) (ht : ∀ w ∈ Ts, w.before args s = true) (hG : GoodIn Ts ws) (hw : ws = Cond.code y bytes maxL ret :: ws') (hrc : rm.cells = mc) (hrs : rm.slots = ms) (hl : va_Nw (.methodLinkNest own index y host) s) (hst : Cond.static y ∈ Ts) (hin : Cond.initialized y.cls ∈ Ts)
    (hd : y.cls ≠ "java/lang/invoke/MethodHandle" ∧ y.cls ≠ "java/lang/invoke/VarHandle" ∧ (parseMethodDescriptor y.desc).map (fun d => d.parameters.length) = some n) (hR : rm.frames + 1 ≤ R.frames ∧ 8 + (maxL + 11) + rm.locals ≤ R.locals) :
    va_CN R s args own index y host bytes maxL ret ws rm mc ms n ∧ (Cond.static y).before args s = true ∧ True := ⟨va_cnB n ht hG hw hrc hrs hl (ht _ hin) hd hR, ht _ hst, trivial⟩
end LIB
end
section
-- State and Machine: what a state is, what each method answers and does to it
abbrev SV : Type := (Nat → Int32) × (Nat → Int32) × (Nat → Int32) × (Nat → Int32) × Int32 × Int32 × Int32 × (Nat → Int32) × (Nat → Int32) × Int32 × Int32 × Int32 × Int32 × Int32
abbrev MV : Type := (Nat → Int32) × (Nat → Int32) × Int32 × Int32 × Int32 × Int32 × Int32
def wMc (cA : Nat → ClassId) (a : Nat → Nat) (u : MV) : va_W := [(a 5, .inr (0, [.ref (a 6), .ref (a 7), .int u.2.2.1, .int u.2.2.2.1, .int u.2.2.2.2.1, .int u.2.2.2.2.2.1, .int u.2.2.2.2.2.2])), (a 6, .inl (cA 0, 4, .inl u.1)), (a 7, .inl (cA 0, 8, .inl u.2.1))]
def wSt (cA : Nat → ClassId) (a : Nat → Nat) (u : SV) : va_W := [(a 0, .inr (2, [.ref (a 1), .ref (a 2), .ref (a 3), .ref (a 4), .ref (a 5), .int u.2.2.2.2.1, .int u.2.2.2.2.2.1, .int u.2.2.2.2.2.2.1])),
  (a 1, .inl (cA 0, 16, .inl u.1)), (a 2, .inl (cA 0, 16, .inl u.2.1)), (a 3, .inl (cA 0, 8, .inl u.2.2.1)), (a 4, .inl (cA 0, 2, .inl u.2.2.2.1)),
  (a 5, .inr (0, [.ref (a 6), .ref (a 7), .int u.2.2.2.2.2.2.2.2.2.1, .int u.2.2.2.2.2.2.2.2.2.2.1, .int u.2.2.2.2.2.2.2.2.2.2.2.1, .int u.2.2.2.2.2.2.2.2.2.2.2.2.1, .int u.2.2.2.2.2.2.2.2.2.2.2.2.2])),
  (a 6, .inl (cA 0, 4, .inl u.2.2.2.2.2.2.2.1)), (a 7, .inl (cA 0, 8, .inl u.2.2.2.2.2.2.2.2.1))]
def maxF (x y : Int32) : Int32 := if x < y then y else x
def minF (x y : Int32) : Int32 := if y < x then y else x
def ushrF (x k : Int32) : Int32 := (x.toUInt32 >>> (k.toUInt32 &&& Int32.toUInt32 31)).toInt32
def i2lF (x : Int32) : Int64 := x.toInt64
def bitF (x k : Int32) : Int32 := (x >>> (k &&& 31)) &&& 1
def bc1 (x : Int32) : Int32 := x - (ushrF x 1 &&& 1431655765)
def bc2 (a : Int32) : Int32 := (a &&& 858993459) + (ushrF a 2 &&& 858993459)
def bc3 (b : Int32) : Int32 := (b + ushrF b 4) &&& 252645135
def bc4 (c : Int32) : Int32 := c + ushrF c 8
def bc5 (d : Int32) : Int32 := d + ushrF d 16
def bcF (x : Int32) : Int32 := bc5 (bc4 (bc3 (bc2 (bc1 x)))) &&& 63
def wordF (se : Nat → Int32) (mask : Int32) : Int32 := if se 1 = 0 then mask else mask ^^^ 255
def oneT (rg : Nat → Int32) (gd reader reached : Int32) : Nat → Int32
  | 0 => reached
  | k + 1 => if (rg k &&& reached) = 0 then oneT rg gd reader reached k else if nI k = reader then oneT rg gd reader reached k else if bitF gd (nI k) = 0 then oneT rg gd reader reached k ||| rg k else oneT rg gd reader reached k
def strF (we : Nat → Int32) (r : Nat) (hops : Int32) : Int32 := if hops = -1 then 0 else maxF (maxF (8 - 3 * hops) 0 - we r / 10) 0
def reachF (rg : Nat → Int32) (gd : Int32) (t : Nat) : Nat → Int32
  | 0 => rg t
  | k + 1 => oneT rg gd (nI t) (reachF rg gd t k) 16
def hopsG (rg : Nat → Int32) (gd : Int32) (t : Nat) (ring : Int32) : Nat → Nat → Int32
  | 0, _ => -1
  | n + 1, k => if bitF (reachF rg gd t k) ring = 1 then nI k else hopsG rg gd t ring n (k + 1)
def hopsF (rg : Nat → Int32) (gd : Int32) (t : Nat) (ring : Int32) : Int32 := hopsG rg gd t ring 8 0
def ansI (we se : Nat → Int32) (come hops a0 : Int32) : Nat → Int32
  | 0 => a0
  | r + 1 => if bitF come (nI r) = 1 then (if strF we r hops < se 0 then ansI we se come hops a0 r else ansI we se come hops a0 r ||| ((1 : Int32) <<< (nI r &&& 31))) else ansI we se come hops a0 r
def ansF (rg we se : Nat → Int32) (gd : Int32) (t : Nat) : Int32 := ansI we se ((oneT rg gd (nI t) (oneT rg gd (nI t) (rg t) 16) 16) &&& ((oneT rg gd (nI t) (rg t) 16) ^^^ (-1))) 2 (ansI we se ((oneT rg gd (nI t) (rg t) 16) &&& ((rg t) ^^^ (-1))) 1 (ansI we se ((rg t) &&& (0 ^^^ (-1))) 0 0 8) 8) 8
def remF (x y : Int32) : Int32 := x - x / y * y
def ansS (u : SV) (t : Nat) : Int32 := ansF u.1 u.2.2.1 u.2.2.2.1 u.2.2.2.2.1 t
def meansS (u : SV) (t : Nat) : Int32 := wordF u.2.2.2.1 (u.1 t)
def tellsS (u : SV) (t : Nat) : Int32 := wordF u.2.2.2.1 (ansS u t)
def rucI (we : Nat → Int32) (m w : Int32) : Nat → Int32
  | 0 => -1
  | r + 1 => if bitF m (nI r) = 1 then (if w - we r ≤ 0 then rucI we m w r else if rucI we m w r = -1 then w - we r else if rucI we m w r ≤ w - we r then rucI we m w r else w - we r) else rucI we m w r
def rucS (u : SV) (t : Nat) : Int32 := rucI u.2.2.1 (u.1 t) (10 * ((8 - u.2.2.2.1 0) + 1)) 8
def thrT (rg : Nat → Int32) (ring : Int32) : Nat → Int32
  | 0 => 0
  | k + 1 => thrT rg ring k ||| (bitF (rg k) ring <<< (nI k &&& 31))
def thrS (u : SV) (ring : Int32) : Int32 := thrT u.1 ring 16
def tanT (u : SV) (ring : Int32) : Nat → Int32
  | 0 => 0
  | k + 1 => tanT u ring k + bitF (ansS u k) ring
def wornS (u : SV) (r : Nat) : Int32 := if thrS u (nI r) = 0 then 0 else if u.2.2.2.1 0 ≤ strF u.2.2.1 r 0 then 0 else 1
def rightT (u : SV) : Nat → Int32
  | 0 => 0
  | k + 1 => if ansS u k = u.1 k then rightT u k + 1 else rightT u k
def cbtT (u : SV) : Nat → Int32
  | 0 => 0
  | k + 1 => cbtT u k + bcF (u.1 k)
def cbrT (u : SV) : Nat → Int32
  | 0 => 0
  | k + 1 => cbrT u k + bcF (thrS u (nI k))
def gwT (u : SV) : Nat → Int32
  | 0 => 0
  | k + 1 => maxF (gwT u k) (u.2.2.1 k)
def woaT (u : SV) : Nat → Int32
  | 0 => 0
  | k + 1 => woaT u k + u.2.2.1 k
def fubI (rg : Nat → Int32) (t : Nat) (f0 : Int32) : Nat → Int32
  | 0 => f0
  | o + 1 => minF (fubI rg t f0 o) (bcF (rg t ^^^ rg o))
def fubT (rg : Nat → Int32) : Nat → Int32
  | 0 => 8
  | t + 1 => fubI rg t (fubT rg t) t
def wearT (we : Nat → Int32) (mask more : Int32) : Nat → Nat → Int32
  | 0 => we
  | r + 1 => if bitF mask (nI r) = 1 then upd (wearT we mask more r) r (minF (wearT we mask more r r + more) 99) else wearT we mask more r

theorem oneT_succ (rg : Nat → Int32) (gd reader reached : Int32) (k : Nat) : oneT rg gd reader reached (k + 1) = (if (rg k &&& reached) = 0 then oneT rg gd reader reached k else if nI k = reader then oneT rg gd reader reached k else if bitF gd (nI k) = 0 then oneT rg gd reader reached k ||| rg k else oneT rg gd reader reached k) := rfl
theorem oneT_zero (rg : Nat → Int32) (gd reader reached : Int32) : oneT rg gd reader reached 0 = reached := rfl
theorem reachF_succ (rg : Nat → Int32) (gd : Int32) (t : Nat) (k : Nat) : reachF rg gd t (k + 1) = (oneT rg gd (nI t) (reachF rg gd t k) 16) := rfl
theorem reachF_zero (rg : Nat → Int32) (gd : Int32) (t : Nat) : reachF rg gd t 0 = rg t := rfl
theorem ansI_succ (we se : Nat → Int32) (come hops a0 : Int32) (r : Nat) : ansI we se come hops a0 (r + 1) = (if bitF come (nI r) = 1 then (if strF we r hops < se 0 then ansI we se come hops a0 r else ansI we se come hops a0 r ||| ((1 : Int32) <<< (nI r &&& 31))) else ansI we se come hops a0 r) := rfl
theorem ansI_zero (we se : Nat → Int32) (come hops a0 : Int32) : ansI we se come hops a0 0 = a0 := rfl
theorem rucI_succ (we : Nat → Int32) (m w : Int32) (r : Nat) : rucI we m w (r + 1) = (if bitF m (nI r) = 1 then (if w - we r ≤ 0 then rucI we m w r else if rucI we m w r = -1 then w - we r else if rucI we m w r ≤ w - we r then rucI we m w r else w - we r) else rucI we m w r) := rfl
theorem rucI_zero (we : Nat → Int32) (m w : Int32) : rucI we m w 0 = -1 := rfl
theorem thrT_succ (rg : Nat → Int32) (ring : Int32) (k : Nat) : thrT rg ring (k + 1) = (thrT rg ring k ||| (bitF (rg k) ring <<< (nI k &&& 31))) := rfl
theorem thrT_zero (rg : Nat → Int32) (ring : Int32) : thrT rg ring 0 = 0 := rfl
theorem tanT_succ (u : SV) (ring : Int32) (k : Nat) : tanT u ring (k + 1) = (tanT u ring k + bitF (ansS u k) ring) := rfl
theorem tanT_zero (u : SV) (ring : Int32) : tanT u ring 0 = 0 := rfl
theorem rightT_succ (u : SV) (k : Nat) : rightT u (k + 1) = (if ansS u k = u.1 k then rightT u k + 1 else rightT u k) := rfl
theorem rightT_zero (u : SV) : rightT u 0 = 0 := rfl
theorem cbtT_succ (u : SV) (k : Nat) : cbtT u (k + 1) = (cbtT u k + bcF (u.1 k)) := rfl
theorem cbtT_zero (u : SV) : cbtT u 0 = 0 := rfl
theorem cbrT_succ (u : SV) (k : Nat) : cbrT u (k + 1) = (cbrT u k + bcF (thrS u (nI k))) := rfl
theorem cbrT_zero (u : SV) : cbrT u 0 = 0 := rfl
theorem gwT_succ (u : SV) (k : Nat) : gwT u (k + 1) = (maxF (gwT u k) (u.2.2.1 k)) := rfl
theorem gwT_zero (u : SV) : gwT u 0 = 0 := rfl
theorem woaT_succ (u : SV) (k : Nat) : woaT u (k + 1) = (woaT u k + u.2.2.1 k) := rfl
theorem woaT_zero (u : SV) : woaT u 0 = 0 := rfl
theorem fubI_succ (rg : Nat → Int32) (t : Nat) (f0 : Int32) (o : Nat) : fubI rg t f0 (o + 1) = (minF (fubI rg t f0 o) (bcF (rg t ^^^ rg o))) := rfl
theorem fubI_zero (rg : Nat → Int32) (t : Nat) (f0 : Int32) : fubI rg t f0 0 = f0 := rfl
theorem fubT_succ (rg : Nat → Int32) (t : Nat) : fubT rg (t + 1) = (fubI rg t (fubT rg t) t) := rfl
theorem fubT_zero (rg : Nat → Int32) : fubT rg 0 = 8 := rfl
theorem wearT_succ (we : Nat → Int32) (mask more : Int32) (r : Nat) : wearT we mask more (r + 1) = (if bitF mask (nI r) = 1 then upd (wearT we mask more r) r (minF (wearT we mask more r r + more) 99) else wearT we mask more r) := rfl
theorem wearT_zero (we : Nat → Int32) (mask more : Int32) : wearT we mask more 0 = we := rfl
theorem mJ6_bitCount_0f7a4_k265 : Cond.constant RJ6 265 (1431655765) ∈ wsJ6_bitCount_0f7a4 := by decide +kernel
theorem mJ6_bitCount_0f7a4_k266 : Cond.constant RJ6 266 (858993459) ∈ wsJ6_bitCount_0f7a4 := by decide +kernel
theorem mJ6_bitCount_0f7a4_k267 : Cond.constant RJ6 267 (252645135) ∈ wsJ6_bitCount_0f7a4 := by decide +kernel
set_option maxHeartbeats 4000000 in
set_option maxRecDepth 100000 in
theorem c_J6_bitCount_0f7a4 (l : Launch) (D : va_G) (cA : Nat → ClassId) (H : Heap) (x : Int32) : RO l yJ6_bitCount_0f7a4 wsJ6_bitCount_0f7a4 ({ frames := 0, cells := 0, slots := 0, locals := 0 } : Room) D cA [.int x] H (some (.int (bcF x))) := by
  refine Met.ofW (cc := cJ6_bitCount_0f7a4) (maxL := 1) (ret := (some .int)) (by decide) rfl ?_
  intro p e s m args below meth c s₁ B hml hv
  obtain ⟨rfl, hH, hKN⟩ := hv
  have hK := hKN.1
  have hx := B.exec
  have hb := B.bytes
  have hr := B.returns
  have hts := atoms_spec (ws := wsJ6_bitCount_0f7a4) B.pre
  have hown : s.vm.findClass RJ6 = some m.cls := findClass_of_methodNamed B.named
  have hlocks := B.notSynchronized
  subst hH
  have hH : s.heap = s.heap := rfl
  have hl := lv_entry ([.int x] : List Value) (n := 1) (Nat.le_of_ble_eq_true rfl)
  rw [lg_entry_eq]
  generalize (lg_sl ([.int x] : List Value) ++ List.replicate (1 - (lg_sl ([.int x] : List Value)).length) Slot.unset).toArray = ls at hl ⊢
  have hl : lv_has ls 1 [(0, .int x)] := hl
  refine lv_iload_n hx hb dJ6_bitCount_0f7a4_0 rfl (lv_at hl 0 rfl) ?_
  refine lv_iload_n hx hb dJ6_bitCount_0f7a4_1 rfl (lv_at hl 0 rfl) ?_
  refine lv_iconst (v := 1) hx hb dJ6_bitCount_0f7a4_2 (by decide) ?_
  refine lv_iushr (v := (ushrF x 1)) hx hb dJ6_bitCount_0f7a4_3 rfl ?_
  refine lv_ldcw (v := 1431655765) hx hb hown (hts _ mJ6_bitCount_0f7a4_k265) dJ6_bitCount_0f7a4_4 ?_
  refine lv_iand hx hb dJ6_bitCount_0f7a4_7 ?_
  refine lv_isub hx hb dJ6_bitCount_0f7a4_8 ?_
  refine lv_istore_n (lv' := [(0, .int (x - ((ushrF x 1) &&& 1431655765)))]) hx hb dJ6_bitCount_0f7a4_9 rfl hl (by decide) rfl (fun ls hl => ?_)
  refine lv_iload_n hx hb dJ6_bitCount_0f7a4_10 rfl (lv_at hl 0 rfl) ?_
  refine lv_ldcw (v := 858993459) hx hb hown (hts _ mJ6_bitCount_0f7a4_k266) dJ6_bitCount_0f7a4_11 ?_
  refine lv_iand hx hb dJ6_bitCount_0f7a4_14 ?_
  refine lv_iload_n hx hb dJ6_bitCount_0f7a4_15 rfl (lv_at hl 0 rfl) ?_
  refine lv_iconst (v := 2) hx hb dJ6_bitCount_0f7a4_16 (by decide) ?_
  refine lv_iushr (v := (ushrF (x - ((ushrF x 1) &&& 1431655765)) 2)) hx hb dJ6_bitCount_0f7a4_17 rfl ?_
  refine lv_ldcw (v := 858993459) hx hb hown (hts _ mJ6_bitCount_0f7a4_k266) dJ6_bitCount_0f7a4_18 ?_
  refine lv_iand hx hb dJ6_bitCount_0f7a4_21 ?_
  refine lv_iadd hx hb dJ6_bitCount_0f7a4_22 ?_
  refine lv_istore_n (lv' := [(0, .int (((x - ((ushrF x 1) &&& 1431655765)) &&& 858993459) + ((ushrF (x - ((ushrF x 1) &&& 1431655765)) 2) &&& 858993459)))]) hx hb dJ6_bitCount_0f7a4_23 rfl hl (by decide) rfl (fun ls hl => ?_)
  refine lv_iload_n hx hb dJ6_bitCount_0f7a4_24 rfl (lv_at hl 0 rfl) ?_
  refine lv_iload_n hx hb dJ6_bitCount_0f7a4_25 rfl (lv_at hl 0 rfl) ?_
  refine lv_iconst (v := 4) hx hb dJ6_bitCount_0f7a4_26 (by decide) ?_
  refine lv_iushr (v := (ushrF (((x - ((ushrF x 1) &&& 1431655765)) &&& 858993459) + ((ushrF (x - ((ushrF x 1) &&& 1431655765)) 2) &&& 858993459)) 4)) hx hb dJ6_bitCount_0f7a4_27 rfl ?_
  refine lv_iadd hx hb dJ6_bitCount_0f7a4_28 ?_
  refine lv_ldcw (v := 252645135) hx hb hown (hts _ mJ6_bitCount_0f7a4_k267) dJ6_bitCount_0f7a4_29 ?_
  refine lv_iand hx hb dJ6_bitCount_0f7a4_32 ?_
  refine lv_istore_n (lv' := [(0, .int (((((x - ((ushrF x 1) &&& 1431655765)) &&& 858993459) + ((ushrF (x - ((ushrF x 1) &&& 1431655765)) 2) &&& 858993459)) + (ushrF (((x - ((ushrF x 1) &&& 1431655765)) &&& 858993459) + ((ushrF (x - ((ushrF x 1) &&& 1431655765)) 2) &&& 858993459)) 4)) &&& 252645135))]) hx hb dJ6_bitCount_0f7a4_33 rfl hl (by decide) rfl (fun ls hl => ?_)
  refine lv_iload_n hx hb dJ6_bitCount_0f7a4_34 rfl (lv_at hl 0 rfl) ?_
  refine lv_iload_n hx hb dJ6_bitCount_0f7a4_35 rfl (lv_at hl 0 rfl) ?_
  refine lv_bipush (v := 8) hx hb dJ6_bitCount_0f7a4_36 (by decide) ?_
  refine lv_iushr (v := (ushrF (((((x - ((ushrF x 1) &&& 1431655765)) &&& 858993459) + ((ushrF (x - ((ushrF x 1) &&& 1431655765)) 2) &&& 858993459)) + (ushrF (((x - ((ushrF x 1) &&& 1431655765)) &&& 858993459) + ((ushrF (x - ((ushrF x 1) &&& 1431655765)) 2) &&& 858993459)) 4)) &&& 252645135) 8)) hx hb dJ6_bitCount_0f7a4_38 rfl ?_
  refine lv_iadd hx hb dJ6_bitCount_0f7a4_39 ?_
  refine lv_istore_n (lv' := [(0, .int ((((((x - ((ushrF x 1) &&& 1431655765)) &&& 858993459) + ((ushrF (x - ((ushrF x 1) &&& 1431655765)) 2) &&& 858993459)) + (ushrF (((x - ((ushrF x 1) &&& 1431655765)) &&& 858993459) + ((ushrF (x - ((ushrF x 1) &&& 1431655765)) 2) &&& 858993459)) 4)) &&& 252645135) + (ushrF (((((x - ((ushrF x 1) &&& 1431655765)) &&& 858993459) + ((ushrF (x - ((ushrF x 1) &&& 1431655765)) 2) &&& 858993459)) + (ushrF (((x - ((ushrF x 1) &&& 1431655765)) &&& 858993459) + ((ushrF (x - ((ushrF x 1) &&& 1431655765)) 2) &&& 858993459)) 4)) &&& 252645135) 8)))]) hx hb dJ6_bitCount_0f7a4_40 rfl hl (by decide) rfl (fun ls hl => ?_)
  refine lv_iload_n hx hb dJ6_bitCount_0f7a4_41 rfl (lv_at hl 0 rfl) ?_
  refine lv_iload_n hx hb dJ6_bitCount_0f7a4_42 rfl (lv_at hl 0 rfl) ?_
  refine lv_bipush (v := 16) hx hb dJ6_bitCount_0f7a4_43 (by decide) ?_
  refine lv_iushr (v := (ushrF ((((((x - ((ushrF x 1) &&& 1431655765)) &&& 858993459) + ((ushrF (x - ((ushrF x 1) &&& 1431655765)) 2) &&& 858993459)) + (ushrF (((x - ((ushrF x 1) &&& 1431655765)) &&& 858993459) + ((ushrF (x - ((ushrF x 1) &&& 1431655765)) 2) &&& 858993459)) 4)) &&& 252645135) + (ushrF (((((x - ((ushrF x 1) &&& 1431655765)) &&& 858993459) + ((ushrF (x - ((ushrF x 1) &&& 1431655765)) 2) &&& 858993459)) + (ushrF (((x - ((ushrF x 1) &&& 1431655765)) &&& 858993459) + ((ushrF (x - ((ushrF x 1) &&& 1431655765)) 2) &&& 858993459)) 4)) &&& 252645135) 8)) 16)) hx hb dJ6_bitCount_0f7a4_45 rfl ?_
  refine lv_iadd hx hb dJ6_bitCount_0f7a4_46 ?_
  refine lv_istore_n (lv' := [(0, .int (((((((x - ((ushrF x 1) &&& 1431655765)) &&& 858993459) + ((ushrF (x - ((ushrF x 1) &&& 1431655765)) 2) &&& 858993459)) + (ushrF (((x - ((ushrF x 1) &&& 1431655765)) &&& 858993459) + ((ushrF (x - ((ushrF x 1) &&& 1431655765)) 2) &&& 858993459)) 4)) &&& 252645135) + (ushrF (((((x - ((ushrF x 1) &&& 1431655765)) &&& 858993459) + ((ushrF (x - ((ushrF x 1) &&& 1431655765)) 2) &&& 858993459)) + (ushrF (((x - ((ushrF x 1) &&& 1431655765)) &&& 858993459) + ((ushrF (x - ((ushrF x 1) &&& 1431655765)) 2) &&& 858993459)) 4)) &&& 252645135) 8)) + (ushrF ((((((x - ((ushrF x 1) &&& 1431655765)) &&& 858993459) + ((ushrF (x - ((ushrF x 1) &&& 1431655765)) 2) &&& 858993459)) + (ushrF (((x - ((ushrF x 1) &&& 1431655765)) &&& 858993459) + ((ushrF (x - ((ushrF x 1) &&& 1431655765)) 2) &&& 858993459)) 4)) &&& 252645135) + (ushrF (((((x - ((ushrF x 1) &&& 1431655765)) &&& 858993459) + ((ushrF (x - ((ushrF x 1) &&& 1431655765)) 2) &&& 858993459)) + (ushrF (((x - ((ushrF x 1) &&& 1431655765)) &&& 858993459) + ((ushrF (x - ((ushrF x 1) &&& 1431655765)) 2) &&& 858993459)) 4)) &&& 252645135) 8)) 16)))]) hx hb dJ6_bitCount_0f7a4_47 rfl hl (by decide) rfl (fun ls hl => ?_)
  refine lv_iload_n hx hb dJ6_bitCount_0f7a4_48 rfl (lv_at hl 0 rfl) ?_
  refine lv_bipush (v := 63) hx hb dJ6_bitCount_0f7a4_49 (by decide) ?_
  refine lv_iand hx hb dJ6_bitCount_0f7a4_51 ?_
  exact ro_iret hx hb hr hlocks hH dJ6_bitCount_0f7a4_52 rfl
set_option maxHeartbeats 4000000 in
set_option maxRecDepth 100000 in
theorem c_X4_bit (l : Launch) (D : va_G) (cA : Nat → ClassId) (H : Heap) (x k : Int32) : RO l yX4_bit wsX4_bit ({ frames := 0, cells := 0, slots := 0, locals := 0 } : Room) D cA [.int x, .int k] H (some (.int (bitF x k))) := by
  refine Met.ofW (cc := cX4_bit) (maxL := 2) (ret := (some .int)) (by decide) rfl ?_
  intro p e s m args below meth c s₁ B hml hv
  obtain ⟨rfl, hH, hKN⟩ := hv
  have hK := hKN.1
  have hx := B.exec
  have hb := B.bytes
  have hr := B.returns
  have hts := atoms_spec (ws := wsX4_bit) B.pre
  have hown : s.vm.findClass RX4 = some m.cls := findClass_of_methodNamed B.named
  have hlocks := B.notSynchronized
  subst hH
  have hH : s.heap = s.heap := rfl
  have hl := lv_entry ([.int x, .int k] : List Value) (n := 2) (Nat.le_of_ble_eq_true rfl)
  rw [lg_entry_eq]
  generalize (lg_sl ([.int x, .int k] : List Value) ++ List.replicate (2 - (lg_sl ([.int x, .int k] : List Value)).length) Slot.unset).toArray = ls at hl ⊢
  have hl : lv_has ls 2 [(0, .int x), (1, .int k)] := hl
  refine lv_iload_n hx hb dX4_bit_0 rfl (lv_at hl 0 rfl) ?_
  refine lv_iload_n hx hb dX4_bit_1 rfl (lv_at hl 1 rfl) ?_
  refine lv_ishr hx hb dX4_bit_2 ?_
  refine lv_iconst (v := 1) hx hb dX4_bit_3 (by decide) ?_
  refine lv_iand hx hb dX4_bit_4 ?_
  exact ro_iret hx hb hr hlocks hH dX4_bit_5 rfl
theorem mX2_asWord_f21 : Cond.fieldLink RX2 21 "WireLoom$State" "settings" "[I" ∈ wsX2_asWord := by decide +kernel
set_option maxRecDepth 20000 in
theorem iX2_asWord_X2 : ∀ w ∈ wsX20, w ∈ wsX2_asWord := by decide +kernel
set_option maxHeartbeats 4000000 in
set_option maxRecDepth 100000 in
theorem c_X2_asWord (l : Launch) (D : va_G) (cA : Nat → ClassId) (H : Heap) (a : Nat → Nat) (u : SV) (mask : Int32) (hP0 : va_P D vwCl (wSt cA a u) H) : RO l yX2_asWord wsX2_asWord ({ frames := 0, cells := 0, slots := 0, locals := 0 } : Room) D cA [.ref (a 0), .int mask] H (some (.int (wordF u.2.2.2.1 mask))) := by
  refine Met.ofW (cc := cX2_asWord) (maxL := 2) (ret := (some .int)) (by decide) rfl ?_
  intro p e s m args below meth c s₁ B hml hv
  obtain ⟨rfl, hH, hKN⟩ := hv
  have hK := hKN.1
  have hx := B.exec
  have hb := B.bytes
  have hr := B.returns
  have hts := atoms_spec (ws := wsX2_asWord) B.pre
  have hown : s.vm.findClass RX2 = some m.cls := findClass_of_methodNamed B.named
  have hlocks := B.notSynchronized
  subst hH
  have hH : s.heap = s.heap := rfl
  have hP := hP0
  have hl := lv_entry ([.ref (a 0), .int mask] : List Value) (n := 2) (Nat.le_of_ble_eq_true rfl)
  rw [lg_entry_eq]
  generalize (lg_sl ([.ref (a 0), .int mask] : List Value) ++ List.replicate (2 - (lg_sl ([.ref (a 0), .int mask] : List Value)).length) Slot.unset).toArray = ls at hl ⊢
  have hl : lv_has ls 2 [(0, .ref (a 0)), (1, .int mask)] := hl
  refine lv_aload_n hx hb dX2_asWord_0 rfl (lv_at hl 0 rfl) ?_
  refine va_get (D := D) (ci := 2) (v := .ref (a 4)) (C := RX2) (T := TX2) (N := 8) hx hb hts iX2_asWord_X2 hown hK hP 0 rfl rfl 3 (by decide) (hts _ mX2_asWord_f21) (fun _ h9 => h9) rfl dX2_asWord_1 ?_
  refine lv_iconst (v := 1) hx hb dX2_asWord_4 (by decide) ?_
  refine lz_iald (k := 1) (f := u.2.2.2.1) hx hb hK hP 4 0 rfl rfl ⟨by decide, by decide⟩ dX2_asWord_5 ?_
  refine lv_if_ne (tgt := 13) hx hb dX2_asWord_6 (by decide) (fun c_6 => ?_) (fun c_6 => ?_)
  · refine lv_iload_n hx hb dX2_asWord_13 rfl (lv_at hl 1 rfl) ?_
    refine lv_sipush (v := 255) hx hb dX2_asWord_14 (by decide) ?_
    refine lv_ixor hx hb dX2_asWord_17 ?_
    exact ro_iret hx hb hr hlocks hH dX2_asWord_18 (by simp [wordF, c_6])
  · refine lv_iload_n hx hb dX2_asWord_9 rfl (lv_at hl 1 rfl) ?_
    refine lv_goto (tgt := 18) hx hb dX2_asWord_10 (by decide) ?_
    exact ro_iret hx hb hr hlocks hH dX2_asWord_18 (by simp [wordF, c_6])
theorem mX2_means_f9 : Cond.fieldLink RX2 9 "WireLoom$State" "rings" "[I" ∈ wsX2_means := by decide +kernel
set_option maxRecDepth 20000 in
theorem iX2_means_X2 : ∀ w ∈ wsX20, w ∈ wsX2_means := by decide +kernel
set_option maxHeartbeats 4000000 in
set_option maxRecDepth 100000 in
theorem c_X2_means (l : Launch) (D : va_G) (cA : Nat → ClassId) (H : Heap) (a : Nat → Nat) (u : SV) (t : Nat) (ht : t < 16) (hP0 : va_P D vwCl (wSt cA a u) H) : RO l yX2_means wsX2_means ({ frames := 1, cells := 0, slots := 0, locals := 21 } : Room) D cA [.ref (a 0), .int (nI t)] H (some (.int (meansS u t))) := by
  refine Met.ofW (cc := cX2_means) (maxL := 2) (ret := (some .int)) (by decide) rfl ?_
  intro p e s m args below meth c s₁ B hml hv
  obtain ⟨rfl, hH, hKN⟩ := hv
  have hK := hKN.1
  have hx := B.exec
  have hb := B.bytes
  have hr := B.returns
  have hts := atoms_spec (ws := wsX2_means) B.pre
  have hown : s.vm.findClass RX2 = some m.cls := findClass_of_methodNamed B.named
  have hlocks := B.notSynchronized
  subst hH
  have hH : s.heap = s.heap := rfl
  have hP := hP0
  have hl := lv_entry ([.ref (a 0), .int (nI t)] : List Value) (n := 2) (Nat.le_of_ble_eq_true rfl)
  rw [lg_entry_eq]
  generalize (lg_sl ([.ref (a 0), .int (nI t)] : List Value) ++ List.replicate (2 - (lg_sl ([.ref (a 0), .int (nI t)] : List Value)).length) Slot.unset).toArray = ls at hl ⊢
  have hl : lv_has ls 2 [(0, .ref (a 0)), (1, .int (nI t))] := hl
  refine lv_aload_n hx hb dX2_means_0 rfl (lv_at hl 0 rfl) ?_
  refine lv_aload_n hx hb dX2_means_1 rfl (lv_at hl 0 rfl) ?_
  refine va_get (D := D) (ci := 2) (v := .ref (a 1)) (C := RX2) (T := TX2) (N := 8) hx hb hts iX2_means_X2 hown hK hP 0 rfl rfl 0 (by decide) (hts _ mX2_means_f9) (fun _ h9 => h9) rfl dX2_means_2 ?_
  refine lv_iload_n hx hb dX2_means_5 rfl (lv_at hl 1 rfl) ?_
  refine lz_iald (k := t) (f := u.1) hx hb hK hP 1 0 rfl rfl ⟨by omega, by decide⟩ dX2_means_6 ?_
  refine ro_V (ci := 2) (q0 := 0) (As := [.int (u.1 t)]) (rest := []) ⟨hx, hb, hml, hown, hts⟩ (c_X2_asWord l D cA _ a u (u.1 t) hP ) (cwV 1 hts gX2_means_X2_asWord rfl rfl rfl (by decide +kernel) ⟨Nat.le_of_ble_eq_true rfl, Nat.le_of_ble_eq_true rfl⟩) hKN hP rfl rfl rfl hl.1 rfl (lv_room (Nat.le_of_ble_eq_true rfl)) dX2_means_7 ⟨Nat.zero_le _, Nat.zero_le _⟩ ?_
  exact ro_iret hx hb hr hlocks hH dX2_means_10 rfl
theorem mX2_oneThreadOn_f9 : Cond.fieldLink RX2 9 "WireLoom$State" "rings" "[I" ∈ wsX2_oneThreadOn := by decide +kernel
theorem mX2_oneThreadOn_f41 : Cond.fieldLink RX2 41 "WireLoom$State" "guarded" "I" ∈ wsX2_oneThreadOn := by decide +kernel
set_option maxRecDepth 20000 in
theorem iX2_oneThreadOn_X2 : ∀ w ∈ wsX20, w ∈ wsX2_oneThreadOn := by decide +kernel
set_option maxHeartbeats 4000000 in
set_option maxRecDepth 100000 in
theorem c_X2_oneThreadOn (l : Launch) (D : va_G) (cA : Nat → ClassId) (H : Heap) (a : Nat → Nat) (u : SV) (reader reached : Int32) (hP0 : va_P D vwCl (wSt cA a u) H) : RO l yX2_oneThreadOn wsX2_oneThreadOn ({ frames := 1, cells := 0, slots := 0, locals := 21 } : Room) D cA [.ref (a 0), .int reader, .int reached] H (some (.int (oneT u.1 u.2.2.2.2.1 reader reached 16))) := by
  refine Met.ofW (cc := cX2_oneThreadOn) (maxL := 6) (ret := (some .int)) (by decide) rfl ?_
  intro p e s m args below meth c s₁ B hml hv
  obtain ⟨rfl, hH, hKN⟩ := hv
  have hK := hKN.1
  have hx := B.exec
  have hb := B.bytes
  have hr := B.returns
  have hts := atoms_spec (ws := wsX2_oneThreadOn) B.pre
  have hown : s.vm.findClass RX2 = some m.cls := findClass_of_methodNamed B.named
  have hlocks := B.notSynchronized
  subst hH
  have hH : s.heap = s.heap := rfl
  have hP := hP0
  have hl := lv_entry ([.ref (a 0), .int reader, .int reached] : List Value) (n := 6) (Nat.le_of_ble_eq_true rfl)
  rw [lg_entry_eq]
  generalize (lg_sl ([.ref (a 0), .int reader, .int reached] : List Value) ++ List.replicate (6 - (lg_sl ([.ref (a 0), .int reader, .int reached] : List Value)).length) Slot.unset).toArray = ls at hl ⊢
  have hl : lv_has ls 6 [(0, .ref (a 0)), (1, .int reader), (2, .int reached)] := hl
  refine lv_iload_n hx hb dX2_oneThreadOn_0 rfl (lv_at hl 2 rfl) ?_
  refine lv_istore_n (lv' := [(3, .int reached), (0, .ref (a 0)), (1, .int reader), (2, .int reached)]) hx hb dX2_oneThreadOn_1 rfl hl (by decide) rfl (fun ls hl => ?_)
  refine lv_iconst (v := 0) hx hb dX2_oneThreadOn_2 (by decide) ?_
  refine lv_istore (lv' := [(4, .int 0), (3, .int reached), (0, .ref (a 0)), (1, .int reader), (2, .int reached)]) hx hb dX2_oneThreadOn_3 hl (by decide) rfl (fun ls hl => ?_)
  have loop5 : ∀ (n5 k5 : Nat), k5 + n5 = 16 → ∀ (ls : Array Slot), lv_has ls 6 [(4, .int (nI k5)), (3, .int (oneT u.1 u.2.2.2.2.1 reader reached k5)), (0, .ref (a 0)), (1, .int reader), (2, .int reached)] → W p l e ({ frames := 1, cells := 0, slots := 0, locals := 21 } : Room) s m ([.ref (a 0), .int reader, .int reached] : List Value).toArray below meth c s.heap [] 0 0 (MQ below (roQ s.heap (some (.int (oneT u.1 u.2.2.2.2.1 reader reached 16)))) ([.ref (a 0), .int reader, .int reached] : List Value).toArray s 0 0 noA) (F0 m 5 ls []) := by
    intro n5
    induction n5 with
    | zero =>
      intro k5 hk5 ls hl
      obtain rfl : 16 = k5 := by omega
      refine lv_iload hx hb dX2_oneThreadOn_5 (lv_at hl 0 rfl) ?_
      refine lv_bipush (v := 16) hx hb dX2_oneThreadOn_7 (by decide) ?_
      refine lv_icmp_ge (tgt := 70) hx hb dX2_oneThreadOn_9 (by decide) (fun _ => ?_) (fun h => absurd (by decide) h)
      refine lv_iload_n hx hb dX2_oneThreadOn_70 rfl (lv_at hl 1 rfl) ?_
      exact ro_iret hx hb hr hlocks hH dX2_oneThreadOn_71 rfl
    | succ n5 ih5 =>
      intro k5 hk5 ls hl
      have hlt5 : k5 < 16 := by omega
      refine lv_iload hx hb dX2_oneThreadOn_5 (lv_at hl 0 rfl) ?_
      refine lv_bipush (v := 16) hx hb dX2_oneThreadOn_7 (by decide) ?_
      refine lv_icmp_ge (tgt := 70) hx hb dX2_oneThreadOn_9 (by decide) (fun h => absurd h (nI_ge hlt5 (by first | decide | omega))) (fun _ => ?_)
      refine lv_aload_n hx hb dX2_oneThreadOn_12 rfl (lv_at hl 2 rfl) ?_
      refine va_get (D := D) (ci := 2) (v := .ref (a 1)) (C := RX2) (T := TX2) (N := 8) hx hb hts iX2_oneThreadOn_X2 hown hK hP 0 rfl rfl 0 (by decide) (hts _ mX2_oneThreadOn_f9) (fun _ h9 => h9) rfl dX2_oneThreadOn_13 ?_
      refine lv_iload hx hb dX2_oneThreadOn_16 (lv_at hl 0 rfl) ?_
      refine lz_iald (k := k5) (f := u.1) hx hb hK hP 1 0 rfl rfl ⟨by omega, by decide⟩ dX2_oneThreadOn_18 ?_
      refine lv_iload_n hx hb dX2_oneThreadOn_19 rfl (lv_at hl 4 rfl) ?_
      refine lv_iand hx hb dX2_oneThreadOn_20 ?_
      refine lv_if_eq (tgt := 28) hx hb dX2_oneThreadOn_21 (by decide) (fun c_21 => ?_) (fun c_21 => ?_)
      · refine lv_iconst (v := 0) hx hb dX2_oneThreadOn_28 (by decide) ?_
        refine lv_istore (lv' := [(5, .int 0), (4, .int (nI k5)), (3, .int (oneT u.1 u.2.2.2.2.1 reader reached k5)), (0, .ref (a 0)), (1, .int reader), (2, .int reached)]) hx hb dX2_oneThreadOn_29 hl (by decide) rfl (fun ls hl => ?_)
        refine lv_iload hx hb dX2_oneThreadOn_31 (lv_at hl 0 rfl) ?_
        refine lv_if_eq (tgt := 64) hx hb dX2_oneThreadOn_33 (by decide) (fun _ => ?_) (fun h => absurd (by decide) h)
        refine lv_iinc (v := (nI (k5 + 1))) (lv' := [(4, .int (nI (k5 + 1))), (5, .int 0), (3, .int (oneT u.1 u.2.2.2.2.1 reader reached k5)), (0, .ref (a 0)), (1, .int reader), (2, .int reached)]) hx hb dX2_oneThreadOn_64 hl (k := 1) rfl (nI_1 _) (by decide) rfl (fun ls hl => ?_)
        refine lv_goto (tgt := 5) hx hb dX2_oneThreadOn_67 (by decide) ?_
        have e_1 : (oneT u.1 u.2.2.2.2.1 reader reached (k5 + 1)) = (oneT u.1 u.2.2.2.2.1 reader reached k5) := by rw [oneT_succ] <;> simp only [c_21, if_true, if_false]
        exact ih5 (k5 + 1) (by omega) ls (by rw [e_1]; exact (lv_sub hl [0, 2, 3, 4, 5] rfl))
      · refine lv_iconst (v := 1) hx hb dX2_oneThreadOn_24 (by decide) ?_
        refine lv_goto (tgt := 29) hx hb dX2_oneThreadOn_25 (by decide) ?_
        refine lv_istore (lv' := [(5, .int 1), (4, .int (nI k5)), (3, .int (oneT u.1 u.2.2.2.2.1 reader reached k5)), (0, .ref (a 0)), (1, .int reader), (2, .int reached)]) hx hb dX2_oneThreadOn_29 hl (by decide) rfl (fun ls hl => ?_)
        refine lv_iload hx hb dX2_oneThreadOn_31 (lv_at hl 0 rfl) ?_
        refine lv_if_eq (tgt := 64) hx hb dX2_oneThreadOn_33 (by decide) (fun h => absurd h (by decide)) (fun _ => ?_)
        refine lv_iload hx hb dX2_oneThreadOn_36 (lv_at hl 1 rfl) ?_
        refine lv_iload_n hx hb dX2_oneThreadOn_38 rfl (lv_at hl 4 rfl) ?_
        refine lv_icmp_eq (tgt := 64) hx hb dX2_oneThreadOn_39 (by decide) (fun c_39 => ?_) (fun c_39 => ?_)
        · refine lv_iinc (v := (nI (k5 + 1))) (lv' := [(4, .int (nI (k5 + 1))), (5, .int 1), (3, .int (oneT u.1 u.2.2.2.2.1 reader reached k5)), (0, .ref (a 0)), (1, .int reader), (2, .int reached)]) hx hb dX2_oneThreadOn_64 hl (k := 1) rfl (nI_1 _) (by decide) rfl (fun ls hl => ?_)
          refine lv_goto (tgt := 5) hx hb dX2_oneThreadOn_67 (by decide) ?_
          have e_2 : (oneT u.1 u.2.2.2.2.1 reader reached (k5 + 1)) = (oneT u.1 u.2.2.2.2.1 reader reached k5) := by rw [oneT_succ] <;> simp only [c_21, c_39, if_true, if_false]
          exact ih5 (k5 + 1) (by omega) ls (by rw [e_2]; exact (lv_sub hl [0, 2, 3, 4, 5] rfl))
        · refine lv_aload_n hx hb dX2_oneThreadOn_42 rfl (lv_at hl 3 rfl) ?_
          refine va_get (D := D) (ci := 2) (v := .int u.2.2.2.2.1) (C := RX2) (T := TX2) (N := 8) hx hb hts iX2_oneThreadOn_X2 hown hK hP 0 rfl rfl 5 (by decide) (hts _ mX2_oneThreadOn_f41) (fun _ h9 => h9) rfl dX2_oneThreadOn_43 ?_
          refine lv_iload hx hb dX2_oneThreadOn_46 (lv_at hl 1 rfl) ?_
          refine ro_SN (As := [.int u.2.2.2.2.1, .int (nI k5)]) (rest := []) ⟨hx, hb, hml, hown, hts⟩ (c_X4_bit l D cA _ u.2.2.2.2.1 (nI k5)) (nestB 2 hts gX2_oneThreadOn_X4_bit_n70 rfl rfl rfl hKN.2 (by decide +kernel) (by decide +kernel) (by decide +kernel) ⟨Nat.le_of_ble_eq_true rfl, Nat.le_of_ble_eq_true rfl⟩) hKN rfl hl.1 rfl (lv_room (Nat.le_of_ble_eq_true rfl)) dX2_oneThreadOn_48 ⟨Nat.zero_le _, Nat.zero_le _⟩ ?_
          refine lv_if_ne (tgt := 64) hx hb dX2_oneThreadOn_51 (by decide) (fun c_51 => ?_) (fun c_51 => ?_)
          · refine lv_iinc (v := (nI (k5 + 1))) (lv' := [(4, .int (nI (k5 + 1))), (5, .int 1), (3, .int (oneT u.1 u.2.2.2.2.1 reader reached k5)), (0, .ref (a 0)), (1, .int reader), (2, .int reached)]) hx hb dX2_oneThreadOn_64 hl (k := 1) rfl (nI_1 _) (by decide) rfl (fun ls hl => ?_)
            refine lv_goto (tgt := 5) hx hb dX2_oneThreadOn_67 (by decide) ?_
            have e_3 : (oneT u.1 u.2.2.2.2.1 reader reached (k5 + 1)) = (oneT u.1 u.2.2.2.2.1 reader reached k5) := by rw [oneT_succ] <;> simp only [c_21, c_39, c_51, if_true, if_false]
            exact ih5 (k5 + 1) (by omega) ls (by rw [e_3]; exact (lv_sub hl [0, 2, 3, 4, 5] rfl))
          · refine lv_iload_n hx hb dX2_oneThreadOn_54 rfl (lv_at hl 2 rfl) ?_
            refine lv_aload_n hx hb dX2_oneThreadOn_55 rfl (lv_at hl 3 rfl) ?_
            refine va_get (D := D) (ci := 2) (v := .ref (a 1)) (C := RX2) (T := TX2) (N := 8) hx hb hts iX2_oneThreadOn_X2 hown hK hP 0 rfl rfl 0 (by decide) (hts _ mX2_oneThreadOn_f9) (fun _ h9 => h9) rfl dX2_oneThreadOn_56 ?_
            refine lv_iload hx hb dX2_oneThreadOn_59 (lv_at hl 1 rfl) ?_
            refine lz_iald (k := k5) (f := u.1) hx hb hK hP 1 0 rfl rfl ⟨by omega, by decide⟩ dX2_oneThreadOn_61 ?_
            refine lv_ior hx hb dX2_oneThreadOn_62 ?_
            refine lv_istore_n (lv' := [(3, .int ((oneT u.1 u.2.2.2.2.1 reader reached k5) ||| (u.1 k5))), (5, .int 1), (4, .int (nI k5)), (0, .ref (a 0)), (1, .int reader), (2, .int reached)]) hx hb dX2_oneThreadOn_63 rfl hl (by decide) rfl (fun ls hl => ?_)
            refine lv_iinc (v := (nI (k5 + 1))) (lv' := [(4, .int (nI (k5 + 1))), (3, .int ((oneT u.1 u.2.2.2.2.1 reader reached k5) ||| (u.1 k5))), (5, .int 1), (0, .ref (a 0)), (1, .int reader), (2, .int reached)]) hx hb dX2_oneThreadOn_64 hl (k := 2) rfl (nI_1 _) (by decide) rfl (fun ls hl => ?_)
            refine lv_goto (tgt := 5) hx hb dX2_oneThreadOn_67 (by decide) ?_
            have e_4 : (oneT u.1 u.2.2.2.2.1 reader reached (k5 + 1)) = ((oneT u.1 u.2.2.2.2.1 reader reached k5) ||| (u.1 k5)) := by rw [oneT_succ] <;> simp only [c_21, c_39, c_51, if_true, if_false]
            exact ih5 (k5 + 1) (by omega) ls (by rw [e_4]; exact (lv_sub hl [0, 1, 3, 4, 5] rfl))
  exact loop5 16 0 (by omega) ls (lv_sub hl [0, 1, 2, 3, 4] rfl)
theorem mX2_strengthAt_p99 : Cond.methodLink RX2 99 Lib.Math.max.name ∈ wsX2_strengthAt := by decide +kernel
theorem mX2_strengthAt_st_max : Cond.static Lib.Math.max.name ∈ wsX2_strengthAt := by decide +kernel
theorem mX2_strengthAt_iniMath : Cond.initialized "java/lang/Math" ∈ wsX2_strengthAt := by decide +kernel
theorem mX2_strengthAt_co_max : Cond.code Lib.Math.max.name Lib.Math.max.code 2 (some .int) ∈ wsX2_strengthAt := by decide +kernel
theorem mX2_strengthAt_f18 : Cond.fieldLink RX2 18 "WireLoom$State" "wear" "[I" ∈ wsX2_strengthAt := by decide +kernel
set_option maxRecDepth 20000 in
theorem iX2_strengthAt_X2 : ∀ w ∈ wsX20, w ∈ wsX2_strengthAt := by decide +kernel
set_option maxHeartbeats 4000000 in
set_option maxRecDepth 100000 in
theorem c_X2_strengthAt (l : Launch) (D : va_G) (cA : Nat → ClassId) (H : Heap) (a : Nat → Nat) (u : SV) (r : Nat) (hr0 : r < 8) (hops : Int32) (hP0 : va_P D vwCl (wSt cA a u) H) : RO l yX2_strengthAt wsX2_strengthAt ({ frames := 1, cells := 0, slots := 0, locals := 13 } : Room) D cA [.ref (a 0), .int (nI r), .int hops] H (some (.int (strF u.2.2.1 r hops))) := by
  refine Met.ofW (cc := cX2_strengthAt) (maxL := 4) (ret := (some .int)) (by decide) rfl ?_
  intro p e s m args below meth c s₁ B hml hv
  obtain ⟨rfl, hH, hKN⟩ := hv
  have hK := hKN.1
  have hx := B.exec
  have hb := B.bytes
  have hr := B.returns
  have hts := atoms_spec (ws := wsX2_strengthAt) B.pre
  have hown : s.vm.findClass RX2 = some m.cls := findClass_of_methodNamed B.named
  have hlocks := B.notSynchronized
  subst hH
  have hH : s.heap = s.heap := rfl
  have hP := hP0
  have hl := lv_entry ([.ref (a 0), .int (nI r), .int hops] : List Value) (n := 4) (Nat.le_of_ble_eq_true rfl)
  rw [lg_entry_eq]
  generalize (lg_sl ([.ref (a 0), .int (nI r), .int hops] : List Value) ++ List.replicate (4 - (lg_sl ([.ref (a 0), .int (nI r), .int hops] : List Value)).length) Slot.unset).toArray = ls at hl ⊢
  have hl : lv_has ls 4 [(0, .ref (a 0)), (1, .int (nI r)), (2, .int hops)] := hl
  refine lv_iload_n hx hb dX2_strengthAt_0 rfl (lv_at hl 2 rfl) ?_
  refine lv_iconst (v := (-1)) hx hb dX2_strengthAt_1 (by decide) ?_
  refine lv_icmp_ne (tgt := 7) hx hb dX2_strengthAt_2 (by decide) (fun c_2 => ?_) (fun c_2 => ?_)
  · refine lv_bipush (v := 8) hx hb dX2_strengthAt_7 (by decide) ?_
    refine lv_iconst (v := 3) hx hb dX2_strengthAt_9 (by decide) ?_
    refine lv_iload_n hx hb dX2_strengthAt_10 rfl (lv_at hl 2 rfl) ?_
    refine lv_imul hx hb dX2_strengthAt_11 ?_
    refine lv_isub hx hb dX2_strengthAt_12 ?_
    refine lv_iconst (v := 0) hx hb dX2_strengthAt_13 (by decide) ?_
    refine va_mmax hx hb (hml.trans hl.1.symm) hown (hts _ mX2_strengthAt_p99) (hts _ mX2_strengthAt_st_max) (hts _ mX2_strengthAt_iniMath) (hts _ mX2_strengthAt_co_max) (by decide) (by decide) (Nat.zero_le _) (Nat.zero_le _) dX2_strengthAt_14 ?_
    refine lz_top (v := (maxF (8 - (3 * hops)) 0)) rfl ?_
    refine lv_istore_n (lv' := [(3, .int (maxF (8 - (3 * hops)) 0)), (0, .ref (a 0)), (1, .int (nI r)), (2, .int hops)]) hx hb dX2_strengthAt_17 rfl hl (by decide) rfl (fun ls hl => ?_)
    refine lv_iload_n hx hb dX2_strengthAt_18 rfl (lv_at hl 0 rfl) ?_
    refine lv_aload_n hx hb dX2_strengthAt_19 rfl (lv_at hl 1 rfl) ?_
    refine va_get (D := D) (ci := 2) (v := .ref (a 3)) (C := RX2) (T := TX2) (N := 8) hx hb hts iX2_strengthAt_X2 hown hK hP 0 rfl rfl 2 (by decide) (hts _ mX2_strengthAt_f18) (fun _ h9 => h9) rfl dX2_strengthAt_20 ?_
    refine lv_iload_n hx hb dX2_strengthAt_23 rfl (lv_at hl 2 rfl) ?_
    refine lz_iald (k := r) (f := u.2.2.1) hx hb hK hP 3 0 rfl rfl ⟨by omega, by decide⟩ dX2_strengthAt_24 ?_
    refine lv_bipush (v := 10) hx hb dX2_strengthAt_25 (by decide) ?_
    refine lv_idiv hx hb dX2_strengthAt_27 (by decide) ?_
    refine lv_isub hx hb dX2_strengthAt_28 ?_
    refine lv_iconst (v := 0) hx hb dX2_strengthAt_29 (by decide) ?_
    refine va_mmax hx hb (hml.trans hl.1.symm) hown (hts _ mX2_strengthAt_p99) (hts _ mX2_strengthAt_st_max) (hts _ mX2_strengthAt_iniMath) (hts _ mX2_strengthAt_co_max) (by decide) (by decide) (Nat.zero_le _) (Nat.zero_le _) dX2_strengthAt_30 ?_
    refine lz_top (v := (maxF ((maxF (8 - (3 * hops)) 0) - ((u.2.2.1 r) / 10)) 0)) rfl ?_
    exact ro_iret hx hb hr hlocks hH dX2_strengthAt_33 (by simp [strF, c_2])
  · refine lv_iconst (v := 0) hx hb dX2_strengthAt_5 (by decide) ?_
    exact ro_iret hx hb hr hlocks hH dX2_strengthAt_6 (by simp [strF, c_2])
def wearS (u : SV) (mask more : Int32) : SV := (u.1, u.2.1, wearT u.2.2.1 mask more 8, u.2.2.2)
def layS (u : SV) (t : Nat) (mask : Int32) : SV := (upd u.1 t mask, u.2.1, wearT u.2.2.1 (u.1 t ^^^ mask) 2 8, u.2.2.2.1, u.2.2.2.2.1, u.2.2.2.2.2.1 + bcF (u.1 t ^^^ mask), u.2.2.2.2.2.2)
def renewT (rg : Nat → Int32) (ring : Int32) : Nat → Nat → Int32
  | 0 => rg
  | k + 1 => upd (renewT rg ring k) k (renewT rg ring k k &&& (((1 : Int32) <<< (ring &&& 31)) ^^^ (-1)))
def renewS (u : SV) (r : Nat) : SV := (renewT u.1 (nI r) 16, u.2.1, upd u.2.2.1 r 0, u.2.2.2)
def readS (u : SV) (t : Nat) : SV := (u.1, upd u.2.1 t (u.2.1 t + 1), wearT u.2.2.1 (u.1 t) 1 8, u.2.2.2.1, u.2.2.2.2.1, u.2.2.2.2.2.1, u.2.2.2.2.2.2.1 + 1, u.2.2.2.2.2.2.2)
def shiftLa (la : Nat → Int32) (ct : Int32) : Nat → Int32 := upd (upd (upd (upd (upd (upd (upd (upd la 7 (la 6)) 6 (la 5)) 5 (la 4)) 4 (la 3)) 3 (la 2)) 2 (la 1)) 1 (la 0)) 0 ct
def beginM : MV := (fun _ => 0, fun _ => -1, 0, 0, 1, 0, 0)
def obeyS (u : MV) (p w : Nat) : MV :=
  if w / 32 = 0 then (u.1, u.2.1, nI ((p + 1) % 16), u.2.2.2.1, 0, u.2.2.2.2.2.1 + 1, u.2.2.2.2.2.2)
  else if w / 32 = 1 then (u.1, u.2.1, nI ((p + 1) % 16), nI (w % 32), u.2.2.2.2.1, u.2.2.2.2.2.1 + 1, u.2.2.2.2.2.2)
  else if w / 32 = 2 then (u.1, u.2.1, nI ((p + 1) % 16), remF (u.2.2.2.1 + u.1 (w % 32 % 4)) 256, u.2.2.2.2.1, u.2.2.2.2.2.1 + 1, u.2.2.2.2.2.2)
  else if w / 32 = 3 then (upd u.1 (w % 32 % 4) u.2.2.2.1, u.2.1, nI ((p + 1) % 16), u.2.2.2.1, u.2.2.2.2.1, u.2.2.2.2.2.1 + 1, u.2.2.2.2.2.2)
  else if w / 32 = 4 then (u.1, u.2.1, nI (w % 32 % 16), u.2.2.2.1, u.2.2.2.2.1, u.2.2.2.2.2.1 + 1, u.2.2.2.2.2.2)
  else if w / 32 = 5 then (u.1, u.2.1, if u.2.2.2.1 = 0 then nI (w % 32 % 16) else nI ((p + 1) % 16), u.2.2.2.1, u.2.2.2.2.1, u.2.2.2.2.2.1 + 1, u.2.2.2.2.2.2)
  else if w / 32 = 6 then (u.1, u.2.1, nI ((p + 1) % 16), remF ((u.2.2.2.1 + 256) - nI (w % 32)) 256, u.2.2.2.2.1, u.2.2.2.2.2.1 + 1, u.2.2.2.2.2.2)
  else (u.1, shiftLa u.2.1 u.2.2.2.1, nI ((p + 1) % 16), u.2.2.2.1, u.2.2.2.2.1, u.2.2.2.2.2.1 + 1, u.2.2.2.2.2.2 + 1)
/-- the machine's part of a state, and a state with another -/
def mcS (u : SV) : MV := (u.2.2.2.2.2.2.2.1, u.2.2.2.2.2.2.2.2.1, u.2.2.2.2.2.2.2.2.2.1, u.2.2.2.2.2.2.2.2.2.2.1, u.2.2.2.2.2.2.2.2.2.2.2.1, u.2.2.2.2.2.2.2.2.2.2.2.2.1, u.2.2.2.2.2.2.2.2.2.2.2.2.2)
def setMc (u : SV) (v : MV) : SV := (u.1, u.2.1, u.2.2.1, u.2.2.2.1, u.2.2.2.2.1, u.2.2.2.2.2.1, u.2.2.2.2.2.2.1, v.1, v.2.1, v.2.2.1, v.2.2.2.1, v.2.2.2.2.1, v.2.2.2.2.2.1, v.2.2.2.2.2.2)

theorem mX2_answering_f9 : Cond.fieldLink RX2 9 "WireLoom$State" "rings" "[I" ∈ wsX2_answering := by decide +kernel
theorem mX2_answering_f21 : Cond.fieldLink RX2 21 "WireLoom$State" "settings" "[I" ∈ wsX2_answering := by decide +kernel
set_option maxRecDepth 20000 in
theorem iX2_answering_X2 : ∀ w ∈ wsX20, w ∈ wsX2_answering := by decide +kernel
set_option maxHeartbeats 4000000 in
set_option maxRecDepth 100000 in
theorem c_X2_answering (l : Launch) (D : va_G) (cA : Nat → ClassId) (H : Heap) (a : Nat → Nat) (u : SV) (t : Nat) (ht : t < 16) (hP0 : va_P D vwCl (wSt cA a u) H) : RO l yX2_answering wsX2_answering ({ frames := 2, cells := 0, slots := 0, locals := 46 } : Room) D cA [.ref (a 0), .int (nI t)] H (some (.int (ansS u t))) := by
  refine Met.ofW (cc := cX2_answering) (maxL := 8) (ret := (some .int)) (by decide) rfl ?_
  intro p e s m args below meth c s₁ B hml hv
  obtain ⟨rfl, hH, hKN⟩ := hv
  have hK := hKN.1
  have hx := B.exec
  have hb := B.bytes
  have hr := B.returns
  have hts := atoms_spec (ws := wsX2_answering) B.pre
  have hown : s.vm.findClass RX2 = some m.cls := findClass_of_methodNamed B.named
  have hlocks := B.notSynchronized
  subst hH
  have hH : s.heap = s.heap := rfl
  have hP := hP0
  have hl := lv_entry ([.ref (a 0), .int (nI t)] : List Value) (n := 8) (Nat.le_of_ble_eq_true rfl)
  rw [lg_entry_eq]
  generalize (lg_sl ([.ref (a 0), .int (nI t)] : List Value) ++ List.replicate (8 - (lg_sl ([.ref (a 0), .int (nI t)] : List Value)).length) Slot.unset).toArray = ls at hl ⊢
  have hl : lv_has ls 8 [(0, .ref (a 0)), (1, .int (nI t))] := hl
  refine lv_iconst (v := 0) hx hb dX2_answering_0 (by decide) ?_
  refine lv_istore_n (lv' := [(2, .int 0), (0, .ref (a 0)), (1, .int (nI t))]) hx hb dX2_answering_1 rfl hl (by decide) rfl (fun ls hl => ?_)
  refine lv_iconst (v := 0) hx hb dX2_answering_2 (by decide) ?_
  refine lv_istore_n (lv' := [(3, .int 0), (2, .int 0), (0, .ref (a 0)), (1, .int (nI t))]) hx hb dX2_answering_3 rfl hl (by decide) rfl (fun ls hl => ?_)
  refine lv_aload_n hx hb dX2_answering_4 rfl (lv_at hl 2 rfl) ?_
  refine va_get (D := D) (ci := 2) (v := .ref (a 1)) (C := RX2) (T := TX2) (N := 8) hx hb hts iX2_answering_X2 hown hK hP 0 rfl rfl 0 (by decide) (hts _ mX2_answering_f9) (fun _ h9 => h9) rfl dX2_answering_5 ?_
  refine lv_iload_n hx hb dX2_answering_8 rfl (lv_at hl 3 rfl) ?_
  refine lz_iald (k := t) (f := u.1) hx hb hK hP 1 0 rfl rfl ⟨by omega, by decide⟩ dX2_answering_9 ?_
  refine lv_istore (lv' := [(4, .int (u.1 t)), (3, .int 0), (2, .int 0), (0, .ref (a 0)), (1, .int (nI t))]) hx hb dX2_answering_10 hl (by decide) rfl (fun ls hl => ?_)
  refine lv_iconst (v := 0) hx hb dX2_answering_12 (by decide) ?_
  refine lv_istore (lv' := [(5, .int 0), (4, .int (u.1 t)), (3, .int 0), (2, .int 0), (0, .ref (a 0)), (1, .int (nI t))]) hx hb dX2_answering_13 hl (by decide) rfl (fun ls hl => ?_)
  refine lv_iconst (v := 3) hx hb dX2_answering_15 (by decide) ?_
  refine lv_iload hx hb dX2_answering_16 (lv_at hl 0 rfl) ?_
  refine lz_imul (v := 0) hx hb dX2_answering_18 (by decide) ?_
  refine lv_bipush (v := 8) hx hb dX2_answering_19 (by decide) ?_
  refine lv_icmp_ge (tgt := 101) hx hb dX2_answering_21 (by decide) (fun h => absurd h (by decide)) (fun _ => ?_)
  refine lv_iload hx hb dX2_answering_24 (lv_at hl 1 rfl) ?_
  refine lv_iload_n hx hb dX2_answering_26 rfl (lv_at hl 2 rfl) ?_
  refine lv_iconst (v := (-1)) hx hb dX2_answering_27 (by decide) ?_
  refine lv_ixor hx hb dX2_answering_28 ?_
  refine lv_iand hx hb dX2_answering_29 ?_
  refine lv_istore (lv' := [(6, .int ((u.1 t) &&& (0 ^^^ (-1)))), (5, .int 0), (4, .int (u.1 t)), (3, .int 0), (2, .int 0), (0, .ref (a 0)), (1, .int (nI t))]) hx hb dX2_answering_30 hl (by decide) rfl (fun ls hl => ?_)
  refine lv_iconst (v := 0) hx hb dX2_answering_32 (by decide) ?_
  refine lv_istore (lv' := [(7, .int 0), (6, .int ((u.1 t) &&& (0 ^^^ (-1)))), (5, .int 0), (4, .int (u.1 t)), (3, .int 0), (2, .int 0), (0, .ref (a 0)), (1, .int (nI t))]) hx hb dX2_answering_33 hl (by decide) rfl (fun ls hl => ?_)
  have loop35 : ∀ (n35 k35 : Nat), k35 + n35 = 8 → ∀ (ls : Array Slot), lv_has ls 8 [(7, .int (nI k35)), (6, .int ((u.1 t) &&& (0 ^^^ (-1)))), (5, .int 0), (4, .int (u.1 t)), (3, .int 0), (2, .int (ansI u.2.2.1 u.2.2.2.1 ((u.1 t) &&& (0 ^^^ (-1))) 0 0 k35)), (0, .ref (a 0)), (1, .int (nI t))] → W p l e ({ frames := 2, cells := 0, slots := 0, locals := 46 } : Room) s m ([.ref (a 0), .int (nI t)] : List Value).toArray below meth c s.heap [] 0 0 (MQ below (roQ s.heap (some (.int (ansS u t)))) ([.ref (a 0), .int (nI t)] : List Value).toArray s 0 0 noA) (F0 m 35 ls []) := by
    intro n35
    induction n35 with
    | zero =>
      intro k35 hk35 ls hl
      obtain rfl : 8 = k35 := by omega
      obtain ⟨z_1, ez_1⟩ : ∃ z : Int32, z = (ansI u.2.2.1 u.2.2.2.1 ((u.1 t) &&& (0 ^^^ (-1))) 0 0 8) := ⟨_, rfl⟩
      rw [← ez_1] at hl
      refine lv_iload hx hb dX2_answering_35 (lv_at hl 0 rfl) ?_
      refine lv_bipush (v := 8) hx hb dX2_answering_37 (by decide) ?_
      refine lv_icmp_ge (tgt := 83) hx hb dX2_answering_39 (by decide) (fun _ => ?_) (fun h => absurd (by decide) h)
      refine lv_iload hx hb dX2_answering_83 (lv_at hl 3 rfl) ?_
      refine lv_istore_n (lv' := [(3, .int (u.1 t)), (7, .int (nI 8)), (6, .int ((u.1 t) &&& (0 ^^^ (-1)))), (5, .int 0), (4, .int (u.1 t)), (2, .int z_1), (0, .ref (a 0)), (1, .int (nI t))]) hx hb dX2_answering_85 rfl hl (by decide) rfl (fun ls hl => ?_)
      refine lv_aload_n hx hb dX2_answering_86 rfl (lv_at hl 6 rfl) ?_
      refine lv_iload_n hx hb dX2_answering_87 rfl (lv_at hl 7 rfl) ?_
      refine lv_iload hx hb dX2_answering_88 (lv_at hl 4 rfl) ?_
      refine ro_V (ci := 2) (q0 := 0) (As := [.int (nI t), .int (u.1 t)]) (rest := []) ⟨hx, hb, hml, hown, hts⟩ (c_X2_oneThreadOn l D cA _ a u (nI t) (u.1 t) hP ) (cwV 2 hts gX2_answering_X2_oneThreadOn rfl rfl rfl (by decide +kernel) ⟨Nat.le_of_ble_eq_true rfl, Nat.le_of_ble_eq_true rfl⟩) hKN hP rfl rfl rfl hl.1 rfl (lv_room (Nat.le_of_ble_eq_true rfl)) dX2_answering_90 ⟨Nat.zero_le _, Nat.zero_le _⟩ ?_
      refine lv_topi (fun r_2 er_2 => ?_)
      refine lv_istore (lv' := [(4, .int r_2), (3, .int (u.1 t)), (7, .int (nI 8)), (6, .int ((u.1 t) &&& (0 ^^^ (-1)))), (5, .int 0), (2, .int z_1), (0, .ref (a 0)), (1, .int (nI t))]) hx hb dX2_answering_93 hl (by decide) rfl (fun ls hl => ?_)
      refine lv_iinc (v := 1) (lv' := [(5, .int 1), (4, .int r_2), (3, .int (u.1 t)), (7, .int (nI 8)), (6, .int ((u.1 t) &&& (0 ^^^ (-1)))), (2, .int z_1), (0, .ref (a 0)), (1, .int (nI t))]) hx hb dX2_answering_95 hl (k := 4) rfl (by decide) (by decide) rfl (fun ls hl => ?_)
      refine lv_goto (tgt := 15) hx hb dX2_answering_98 (by decide) ?_
      refine lv_iconst (v := 3) hx hb dX2_answering_15 (by decide) ?_
      refine lv_iload hx hb dX2_answering_16 (lv_at hl 0 rfl) ?_
      refine lz_imul (v := 3) hx hb dX2_answering_18 (by decide) ?_
      refine lv_bipush (v := 8) hx hb dX2_answering_19 (by decide) ?_
      refine lv_icmp_ge (tgt := 101) hx hb dX2_answering_21 (by decide) (fun h => absurd h (by decide)) (fun _ => ?_)
      refine lv_iload hx hb dX2_answering_24 (lv_at hl 1 rfl) ?_
      refine lv_iload_n hx hb dX2_answering_26 rfl (lv_at hl 2 rfl) ?_
      refine lv_iconst (v := (-1)) hx hb dX2_answering_27 (by decide) ?_
      refine lv_ixor hx hb dX2_answering_28 ?_
      refine lv_iand hx hb dX2_answering_29 ?_
      refine lv_istore (lv' := [(6, .int (r_2 &&& ((u.1 t) ^^^ (-1)))), (5, .int 1), (4, .int r_2), (3, .int (u.1 t)), (7, .int (nI 8)), (2, .int z_1), (0, .ref (a 0)), (1, .int (nI t))]) hx hb dX2_answering_30 hl (by decide) rfl (fun ls hl => ?_)
      refine lv_iconst (v := 0) hx hb dX2_answering_32 (by decide) ?_
      refine lv_istore (lv' := [(7, .int 0), (6, .int (r_2 &&& ((u.1 t) ^^^ (-1)))), (5, .int 1), (4, .int r_2), (3, .int (u.1 t)), (2, .int z_1), (0, .ref (a 0)), (1, .int (nI t))]) hx hb dX2_answering_33 hl (by decide) rfl (fun ls hl => ?_)
      have loop35 : ∀ (n35 k35 : Nat), k35 + n35 = 8 → ∀ (ls : Array Slot), lv_has ls 8 [(7, .int (nI k35)), (6, .int (r_2 &&& ((u.1 t) ^^^ (-1)))), (5, .int 1), (4, .int r_2), (3, .int (u.1 t)), (2, .int (ansI u.2.2.1 u.2.2.2.1 (r_2 &&& ((u.1 t) ^^^ (-1))) 1 z_1 k35)), (0, .ref (a 0)), (1, .int (nI t))] → W p l e ({ frames := 2, cells := 0, slots := 0, locals := 46 } : Room) s m ([.ref (a 0), .int (nI t)] : List Value).toArray below meth c s.heap [] 0 0 (MQ below (roQ s.heap (some (.int (ansS u t)))) ([.ref (a 0), .int (nI t)] : List Value).toArray s 0 0 noA) (F0 m 35 ls []) := by
        intro n35
        induction n35 with
        | zero =>
          intro k35 hk35 ls hl
          obtain rfl : 8 = k35 := by omega
          obtain ⟨z_3, ez_3⟩ : ∃ z : Int32, z = (ansI u.2.2.1 u.2.2.2.1 (r_2 &&& ((u.1 t) ^^^ (-1))) 1 z_1 8) := ⟨_, rfl⟩
          rw [← ez_3] at hl
          refine lv_iload hx hb dX2_answering_35 (lv_at hl 0 rfl) ?_
          refine lv_bipush (v := 8) hx hb dX2_answering_37 (by decide) ?_
          refine lv_icmp_ge (tgt := 83) hx hb dX2_answering_39 (by decide) (fun _ => ?_) (fun h => absurd (by decide) h)
          refine lv_iload hx hb dX2_answering_83 (lv_at hl 3 rfl) ?_
          refine lv_istore_n (lv' := [(3, .int r_2), (7, .int (nI 8)), (6, .int (r_2 &&& ((u.1 t) ^^^ (-1)))), (5, .int 1), (4, .int r_2), (2, .int z_3), (0, .ref (a 0)), (1, .int (nI t))]) hx hb dX2_answering_85 rfl hl (by decide) rfl (fun ls hl => ?_)
          refine lv_aload_n hx hb dX2_answering_86 rfl (lv_at hl 6 rfl) ?_
          refine lv_iload_n hx hb dX2_answering_87 rfl (lv_at hl 7 rfl) ?_
          refine lv_iload hx hb dX2_answering_88 (lv_at hl 4 rfl) ?_
          refine ro_V (ci := 2) (q0 := 0) (As := [.int (nI t), .int r_2]) (rest := []) ⟨hx, hb, hml, hown, hts⟩ (c_X2_oneThreadOn l D cA _ a u (nI t) r_2 hP ) (cwV 2 hts gX2_answering_X2_oneThreadOn rfl rfl rfl (by decide +kernel) ⟨Nat.le_of_ble_eq_true rfl, Nat.le_of_ble_eq_true rfl⟩) hKN hP rfl rfl rfl hl.1 rfl (lv_room (Nat.le_of_ble_eq_true rfl)) dX2_answering_90 ⟨Nat.zero_le _, Nat.zero_le _⟩ ?_
          refine lv_topi (fun r_4 er_4 => ?_)
          refine lv_istore (lv' := [(4, .int r_4), (3, .int r_2), (7, .int (nI 8)), (6, .int (r_2 &&& ((u.1 t) ^^^ (-1)))), (5, .int 1), (2, .int z_3), (0, .ref (a 0)), (1, .int (nI t))]) hx hb dX2_answering_93 hl (by decide) rfl (fun ls hl => ?_)
          refine lv_iinc (v := 2) (lv' := [(5, .int 2), (4, .int r_4), (3, .int r_2), (7, .int (nI 8)), (6, .int (r_2 &&& ((u.1 t) ^^^ (-1)))), (2, .int z_3), (0, .ref (a 0)), (1, .int (nI t))]) hx hb dX2_answering_95 hl (k := 4) rfl (by decide) (by decide) rfl (fun ls hl => ?_)
          refine lv_goto (tgt := 15) hx hb dX2_answering_98 (by decide) ?_
          refine lv_iconst (v := 3) hx hb dX2_answering_15 (by decide) ?_
          refine lv_iload hx hb dX2_answering_16 (lv_at hl 0 rfl) ?_
          refine lz_imul (v := 6) hx hb dX2_answering_18 (by decide) ?_
          refine lv_bipush (v := 8) hx hb dX2_answering_19 (by decide) ?_
          refine lv_icmp_ge (tgt := 101) hx hb dX2_answering_21 (by decide) (fun h => absurd h (by decide)) (fun _ => ?_)
          refine lv_iload hx hb dX2_answering_24 (lv_at hl 1 rfl) ?_
          refine lv_iload_n hx hb dX2_answering_26 rfl (lv_at hl 2 rfl) ?_
          refine lv_iconst (v := (-1)) hx hb dX2_answering_27 (by decide) ?_
          refine lv_ixor hx hb dX2_answering_28 ?_
          refine lv_iand hx hb dX2_answering_29 ?_
          refine lv_istore (lv' := [(6, .int (r_4 &&& (r_2 ^^^ (-1)))), (5, .int 2), (4, .int r_4), (3, .int r_2), (7, .int (nI 8)), (2, .int z_3), (0, .ref (a 0)), (1, .int (nI t))]) hx hb dX2_answering_30 hl (by decide) rfl (fun ls hl => ?_)
          refine lv_iconst (v := 0) hx hb dX2_answering_32 (by decide) ?_
          refine lv_istore (lv' := [(7, .int 0), (6, .int (r_4 &&& (r_2 ^^^ (-1)))), (5, .int 2), (4, .int r_4), (3, .int r_2), (2, .int z_3), (0, .ref (a 0)), (1, .int (nI t))]) hx hb dX2_answering_33 hl (by decide) rfl (fun ls hl => ?_)
          have loop35 : ∀ (n35 k35 : Nat), k35 + n35 = 8 → ∀ (ls : Array Slot), lv_has ls 8 [(7, .int (nI k35)), (6, .int (r_4 &&& (r_2 ^^^ (-1)))), (5, .int 2), (4, .int r_4), (3, .int r_2), (2, .int (ansI u.2.2.1 u.2.2.2.1 (r_4 &&& (r_2 ^^^ (-1))) 2 z_3 k35)), (0, .ref (a 0)), (1, .int (nI t))] → W p l e ({ frames := 2, cells := 0, slots := 0, locals := 46 } : Room) s m ([.ref (a 0), .int (nI t)] : List Value).toArray below meth c s.heap [] 0 0 (MQ below (roQ s.heap (some (.int (ansS u t)))) ([.ref (a 0), .int (nI t)] : List Value).toArray s 0 0 noA) (F0 m 35 ls []) := by
            intro n35
            induction n35 with
            | zero =>
              intro k35 hk35 ls hl
              obtain rfl : 8 = k35 := by omega
              obtain ⟨z_5, ez_5⟩ : ∃ z : Int32, z = (ansI u.2.2.1 u.2.2.2.1 (r_4 &&& (r_2 ^^^ (-1))) 2 z_3 8) := ⟨_, rfl⟩
              rw [← ez_5] at hl
              refine lv_iload hx hb dX2_answering_35 (lv_at hl 0 rfl) ?_
              refine lv_bipush (v := 8) hx hb dX2_answering_37 (by decide) ?_
              refine lv_icmp_ge (tgt := 83) hx hb dX2_answering_39 (by decide) (fun _ => ?_) (fun h => absurd (by decide) h)
              refine lv_iload hx hb dX2_answering_83 (lv_at hl 3 rfl) ?_
              refine lv_istore_n (lv' := [(3, .int r_4), (7, .int (nI 8)), (6, .int (r_4 &&& (r_2 ^^^ (-1)))), (5, .int 2), (4, .int r_4), (2, .int z_5), (0, .ref (a 0)), (1, .int (nI t))]) hx hb dX2_answering_85 rfl hl (by decide) rfl (fun ls hl => ?_)
              refine lv_aload_n hx hb dX2_answering_86 rfl (lv_at hl 6 rfl) ?_
              refine lv_iload_n hx hb dX2_answering_87 rfl (lv_at hl 7 rfl) ?_
              refine lv_iload hx hb dX2_answering_88 (lv_at hl 4 rfl) ?_
              refine ro_V (ci := 2) (q0 := 0) (As := [.int (nI t), .int r_4]) (rest := []) ⟨hx, hb, hml, hown, hts⟩ (c_X2_oneThreadOn l D cA _ a u (nI t) r_4 hP ) (cwV 2 hts gX2_answering_X2_oneThreadOn rfl rfl rfl (by decide +kernel) ⟨Nat.le_of_ble_eq_true rfl, Nat.le_of_ble_eq_true rfl⟩) hKN hP rfl rfl rfl hl.1 rfl (lv_room (Nat.le_of_ble_eq_true rfl)) dX2_answering_90 ⟨Nat.zero_le _, Nat.zero_le _⟩ ?_
              refine lv_topi (fun r_6 er_6 => ?_)
              refine lv_istore (lv' := [(4, .int r_6), (3, .int r_4), (7, .int (nI 8)), (6, .int (r_4 &&& (r_2 ^^^ (-1)))), (5, .int 2), (2, .int z_5), (0, .ref (a 0)), (1, .int (nI t))]) hx hb dX2_answering_93 hl (by decide) rfl (fun ls hl => ?_)
              refine lv_iinc (v := 3) (lv' := [(5, .int 3), (4, .int r_6), (3, .int r_4), (7, .int (nI 8)), (6, .int (r_4 &&& (r_2 ^^^ (-1)))), (2, .int z_5), (0, .ref (a 0)), (1, .int (nI t))]) hx hb dX2_answering_95 hl (k := 4) rfl (by decide) (by decide) rfl (fun ls hl => ?_)
              refine lv_goto (tgt := 15) hx hb dX2_answering_98 (by decide) ?_
              refine lv_iconst (v := 3) hx hb dX2_answering_15 (by decide) ?_
              refine lv_iload hx hb dX2_answering_16 (lv_at hl 0 rfl) ?_
              refine lz_imul (v := 9) hx hb dX2_answering_18 (by decide) ?_
              refine lv_bipush (v := 8) hx hb dX2_answering_19 (by decide) ?_
              refine lv_icmp_ge (tgt := 101) hx hb dX2_answering_21 (by decide) (fun _ => ?_) (fun h => absurd (by decide) h)
              refine lv_iload_n hx hb dX2_answering_101 rfl (lv_at hl 5 rfl) ?_
              exact ro_iret hx hb hr hlocks hH dX2_answering_102 (by subst er_6 ez_5 er_4 ez_3 er_2 ez_1; rfl)
            | succ n35 ih35 =>
              intro k35 hk35 ls hl
              have hlt35 : k35 < 8 := by omega
              refine lv_iload hx hb dX2_answering_35 (lv_at hl 0 rfl) ?_
              refine lv_bipush (v := 8) hx hb dX2_answering_37 (by decide) ?_
              refine lv_icmp_ge (tgt := 83) hx hb dX2_answering_39 (by decide) (fun h => absurd h (nI_ge hlt35 (by first | decide | omega))) (fun _ => ?_)
              refine lv_iload hx hb dX2_answering_42 (lv_at hl 1 rfl) ?_
              refine lv_iload hx hb dX2_answering_44 (lv_at hl 0 rfl) ?_
              refine ro_SN (As := [.int (r_4 &&& (r_2 ^^^ (-1))), .int (nI k35)]) (rest := []) ⟨hx, hb, hml, hown, hts⟩ (c_X4_bit l D cA _ (r_4 &&& (r_2 ^^^ (-1))) (nI k35)) (nestB 2 hts gX2_answering_X4_bit_n70 rfl rfl rfl hKN.2 (by decide +kernel) (by decide +kernel) (by decide +kernel) ⟨Nat.le_of_ble_eq_true rfl, Nat.le_of_ble_eq_true rfl⟩) hKN rfl hl.1 rfl (lv_room (Nat.le_of_ble_eq_true rfl)) dX2_answering_46 ⟨Nat.zero_le _, Nat.zero_le _⟩ ?_
              refine lv_iconst (v := 1) hx hb dX2_answering_49 (by decide) ?_
              refine lv_icmp_ne (tgt := 77) hx hb dX2_answering_50 (by decide) (fun c_50 => ?_) (fun c_50 => ?_)
              · refine lv_iinc (v := (nI (k35 + 1))) (lv' := [(7, .int (nI (k35 + 1))), (6, .int (r_4 &&& (r_2 ^^^ (-1)))), (5, .int 2), (4, .int r_4), (3, .int r_2), (2, .int (ansI u.2.2.1 u.2.2.2.1 (r_4 &&& (r_2 ^^^ (-1))) 2 z_3 k35)), (0, .ref (a 0)), (1, .int (nI t))]) hx hb dX2_answering_77 hl (k := 0) rfl (nI_1 _) (by decide) rfl (fun ls hl => ?_)
                refine lv_goto (tgt := 35) hx hb dX2_answering_80 (by decide) ?_
                have e_7 : (ansI u.2.2.1 u.2.2.2.1 (r_4 &&& (r_2 ^^^ (-1))) 2 z_3 (k35 + 1)) = (ansI u.2.2.1 u.2.2.2.1 (r_4 &&& (r_2 ^^^ (-1))) 2 z_3 k35) := by rw [ansI_succ] <;> simp only [c_50, if_true, if_false]
                exact ih35 (k35 + 1) (by omega) ls (by rw [e_7]; exact (lv_sub hl [0, 1, 2, 3, 4, 5, 6, 7] rfl))
              · refine lv_aload_n hx hb dX2_answering_53 rfl (lv_at hl 6 rfl) ?_
                refine lv_iload hx hb dX2_answering_54 (lv_at hl 0 rfl) ?_
                refine lv_iload hx hb dX2_answering_56 (lv_at hl 2 rfl) ?_
                refine ro_V (ci := 2) (q0 := 0) (As := [.int (nI k35), .int 2]) (rest := []) ⟨hx, hb, hml, hown, hts⟩ (c_X2_strengthAt l D cA _ a u k35 (by omega) 2 hP ) (cwV 2 hts gX2_answering_X2_strengthAt rfl rfl rfl (by decide +kernel) ⟨Nat.le_of_ble_eq_true rfl, Nat.le_of_ble_eq_true rfl⟩) hKN hP rfl rfl rfl hl.1 rfl (lv_room (Nat.le_of_ble_eq_true rfl)) dX2_answering_58 ⟨Nat.zero_le _, Nat.zero_le _⟩ ?_
                refine lv_aload_n hx hb dX2_answering_61 rfl (lv_at hl 6 rfl) ?_
                refine va_get (D := D) (ci := 2) (v := .ref (a 4)) (C := RX2) (T := TX2) (N := 8) hx hb hts iX2_answering_X2 hown hK hP 0 rfl rfl 3 (by decide) (hts _ mX2_answering_f21) (fun _ h9 => h9) rfl dX2_answering_62 ?_
                refine lv_iconst (v := 0) hx hb dX2_answering_65 (by decide) ?_
                refine lz_iald (k := 0) (f := u.2.2.2.1) hx hb hK hP 4 0 rfl rfl ⟨by decide, by decide⟩ dX2_answering_66 ?_
                refine lv_icmp_lt (tgt := 77) hx hb dX2_answering_67 (by decide) (fun c_67 => ?_) (fun c_67 => ?_)
                · refine lv_iinc (v := (nI (k35 + 1))) (lv' := [(7, .int (nI (k35 + 1))), (6, .int (r_4 &&& (r_2 ^^^ (-1)))), (5, .int 2), (4, .int r_4), (3, .int r_2), (2, .int (ansI u.2.2.1 u.2.2.2.1 (r_4 &&& (r_2 ^^^ (-1))) 2 z_3 k35)), (0, .ref (a 0)), (1, .int (nI t))]) hx hb dX2_answering_77 hl (k := 0) rfl (nI_1 _) (by decide) rfl (fun ls hl => ?_)
                  refine lv_goto (tgt := 35) hx hb dX2_answering_80 (by decide) ?_
                  have e_8 : (ansI u.2.2.1 u.2.2.2.1 (r_4 &&& (r_2 ^^^ (-1))) 2 z_3 (k35 + 1)) = (ansI u.2.2.1 u.2.2.2.1 (r_4 &&& (r_2 ^^^ (-1))) 2 z_3 k35) := by rw [ansI_succ] <;> simp only [c_50, c_67, if_true, if_false]
                  exact ih35 (k35 + 1) (by omega) ls (by rw [e_8]; exact (lv_sub hl [0, 1, 2, 3, 4, 5, 6, 7] rfl))
                · refine lv_iload_n hx hb dX2_answering_70 rfl (lv_at hl 5 rfl) ?_
                  refine lv_iconst (v := 1) hx hb dX2_answering_71 (by decide) ?_
                  refine lv_iload hx hb dX2_answering_72 (lv_at hl 0 rfl) ?_
                  refine lv_ishl hx hb dX2_answering_74 ?_
                  refine lv_ior hx hb dX2_answering_75 ?_
                  refine lv_istore_n (lv' := [(2, .int ((ansI u.2.2.1 u.2.2.2.1 (r_4 &&& (r_2 ^^^ (-1))) 2 z_3 k35) ||| (1 <<< ((nI k35) &&& 31)))), (7, .int (nI k35)), (6, .int (r_4 &&& (r_2 ^^^ (-1)))), (5, .int 2), (4, .int r_4), (3, .int r_2), (0, .ref (a 0)), (1, .int (nI t))]) hx hb dX2_answering_76 rfl hl (by decide) rfl (fun ls hl => ?_)
                  refine lv_iinc (v := (nI (k35 + 1))) (lv' := [(7, .int (nI (k35 + 1))), (2, .int ((ansI u.2.2.1 u.2.2.2.1 (r_4 &&& (r_2 ^^^ (-1))) 2 z_3 k35) ||| (1 <<< ((nI k35) &&& 31)))), (6, .int (r_4 &&& (r_2 ^^^ (-1)))), (5, .int 2), (4, .int r_4), (3, .int r_2), (0, .ref (a 0)), (1, .int (nI t))]) hx hb dX2_answering_77 hl (k := 1) rfl (nI_1 _) (by decide) rfl (fun ls hl => ?_)
                  refine lv_goto (tgt := 35) hx hb dX2_answering_80 (by decide) ?_
                  have e_9 : (ansI u.2.2.1 u.2.2.2.1 (r_4 &&& (r_2 ^^^ (-1))) 2 z_3 (k35 + 1)) = ((ansI u.2.2.1 u.2.2.2.1 (r_4 &&& (r_2 ^^^ (-1))) 2 z_3 k35) ||| (1 <<< ((nI k35) &&& 31))) := by rw [ansI_succ] <;> simp only [c_50, c_67, if_true, if_false]
                  exact ih35 (k35 + 1) (by omega) ls (by rw [e_9]; exact (lv_sub hl [0, 2, 3, 4, 5, 1, 6, 7] rfl))
          exact loop35 8 0 (by omega) ls (lv_sub hl [0, 1, 2, 3, 4, 5, 6, 7] rfl)
        | succ n35 ih35 =>
          intro k35 hk35 ls hl
          have hlt35 : k35 < 8 := by omega
          refine lv_iload hx hb dX2_answering_35 (lv_at hl 0 rfl) ?_
          refine lv_bipush (v := 8) hx hb dX2_answering_37 (by decide) ?_
          refine lv_icmp_ge (tgt := 83) hx hb dX2_answering_39 (by decide) (fun h => absurd h (nI_ge hlt35 (by first | decide | omega))) (fun _ => ?_)
          refine lv_iload hx hb dX2_answering_42 (lv_at hl 1 rfl) ?_
          refine lv_iload hx hb dX2_answering_44 (lv_at hl 0 rfl) ?_
          refine ro_SN (As := [.int (r_2 &&& ((u.1 t) ^^^ (-1))), .int (nI k35)]) (rest := []) ⟨hx, hb, hml, hown, hts⟩ (c_X4_bit l D cA _ (r_2 &&& ((u.1 t) ^^^ (-1))) (nI k35)) (nestB 2 hts gX2_answering_X4_bit_n70 rfl rfl rfl hKN.2 (by decide +kernel) (by decide +kernel) (by decide +kernel) ⟨Nat.le_of_ble_eq_true rfl, Nat.le_of_ble_eq_true rfl⟩) hKN rfl hl.1 rfl (lv_room (Nat.le_of_ble_eq_true rfl)) dX2_answering_46 ⟨Nat.zero_le _, Nat.zero_le _⟩ ?_
          refine lv_iconst (v := 1) hx hb dX2_answering_49 (by decide) ?_
          refine lv_icmp_ne (tgt := 77) hx hb dX2_answering_50 (by decide) (fun c_50 => ?_) (fun c_50 => ?_)
          · refine lv_iinc (v := (nI (k35 + 1))) (lv' := [(7, .int (nI (k35 + 1))), (6, .int (r_2 &&& ((u.1 t) ^^^ (-1)))), (5, .int 1), (4, .int r_2), (3, .int (u.1 t)), (2, .int (ansI u.2.2.1 u.2.2.2.1 (r_2 &&& ((u.1 t) ^^^ (-1))) 1 z_1 k35)), (0, .ref (a 0)), (1, .int (nI t))]) hx hb dX2_answering_77 hl (k := 0) rfl (nI_1 _) (by decide) rfl (fun ls hl => ?_)
            refine lv_goto (tgt := 35) hx hb dX2_answering_80 (by decide) ?_
            have e_10 : (ansI u.2.2.1 u.2.2.2.1 (r_2 &&& ((u.1 t) ^^^ (-1))) 1 z_1 (k35 + 1)) = (ansI u.2.2.1 u.2.2.2.1 (r_2 &&& ((u.1 t) ^^^ (-1))) 1 z_1 k35) := by rw [ansI_succ] <;> simp only [c_50, if_true, if_false]
            exact ih35 (k35 + 1) (by omega) ls (by rw [e_10]; exact (lv_sub hl [0, 1, 2, 3, 4, 5, 6, 7] rfl))
          · refine lv_aload_n hx hb dX2_answering_53 rfl (lv_at hl 6 rfl) ?_
            refine lv_iload hx hb dX2_answering_54 (lv_at hl 0 rfl) ?_
            refine lv_iload hx hb dX2_answering_56 (lv_at hl 2 rfl) ?_
            refine ro_V (ci := 2) (q0 := 0) (As := [.int (nI k35), .int 1]) (rest := []) ⟨hx, hb, hml, hown, hts⟩ (c_X2_strengthAt l D cA _ a u k35 (by omega) 1 hP ) (cwV 2 hts gX2_answering_X2_strengthAt rfl rfl rfl (by decide +kernel) ⟨Nat.le_of_ble_eq_true rfl, Nat.le_of_ble_eq_true rfl⟩) hKN hP rfl rfl rfl hl.1 rfl (lv_room (Nat.le_of_ble_eq_true rfl)) dX2_answering_58 ⟨Nat.zero_le _, Nat.zero_le _⟩ ?_
            refine lv_aload_n hx hb dX2_answering_61 rfl (lv_at hl 6 rfl) ?_
            refine va_get (D := D) (ci := 2) (v := .ref (a 4)) (C := RX2) (T := TX2) (N := 8) hx hb hts iX2_answering_X2 hown hK hP 0 rfl rfl 3 (by decide) (hts _ mX2_answering_f21) (fun _ h9 => h9) rfl dX2_answering_62 ?_
            refine lv_iconst (v := 0) hx hb dX2_answering_65 (by decide) ?_
            refine lz_iald (k := 0) (f := u.2.2.2.1) hx hb hK hP 4 0 rfl rfl ⟨by decide, by decide⟩ dX2_answering_66 ?_
            refine lv_icmp_lt (tgt := 77) hx hb dX2_answering_67 (by decide) (fun c_67 => ?_) (fun c_67 => ?_)
            · refine lv_iinc (v := (nI (k35 + 1))) (lv' := [(7, .int (nI (k35 + 1))), (6, .int (r_2 &&& ((u.1 t) ^^^ (-1)))), (5, .int 1), (4, .int r_2), (3, .int (u.1 t)), (2, .int (ansI u.2.2.1 u.2.2.2.1 (r_2 &&& ((u.1 t) ^^^ (-1))) 1 z_1 k35)), (0, .ref (a 0)), (1, .int (nI t))]) hx hb dX2_answering_77 hl (k := 0) rfl (nI_1 _) (by decide) rfl (fun ls hl => ?_)
              refine lv_goto (tgt := 35) hx hb dX2_answering_80 (by decide) ?_
              have e_11 : (ansI u.2.2.1 u.2.2.2.1 (r_2 &&& ((u.1 t) ^^^ (-1))) 1 z_1 (k35 + 1)) = (ansI u.2.2.1 u.2.2.2.1 (r_2 &&& ((u.1 t) ^^^ (-1))) 1 z_1 k35) := by rw [ansI_succ] <;> simp only [c_50, c_67, if_true, if_false]
              exact ih35 (k35 + 1) (by omega) ls (by rw [e_11]; exact (lv_sub hl [0, 1, 2, 3, 4, 5, 6, 7] rfl))
            · refine lv_iload_n hx hb dX2_answering_70 rfl (lv_at hl 5 rfl) ?_
              refine lv_iconst (v := 1) hx hb dX2_answering_71 (by decide) ?_
              refine lv_iload hx hb dX2_answering_72 (lv_at hl 0 rfl) ?_
              refine lv_ishl hx hb dX2_answering_74 ?_
              refine lv_ior hx hb dX2_answering_75 ?_
              refine lv_istore_n (lv' := [(2, .int ((ansI u.2.2.1 u.2.2.2.1 (r_2 &&& ((u.1 t) ^^^ (-1))) 1 z_1 k35) ||| (1 <<< ((nI k35) &&& 31)))), (7, .int (nI k35)), (6, .int (r_2 &&& ((u.1 t) ^^^ (-1)))), (5, .int 1), (4, .int r_2), (3, .int (u.1 t)), (0, .ref (a 0)), (1, .int (nI t))]) hx hb dX2_answering_76 rfl hl (by decide) rfl (fun ls hl => ?_)
              refine lv_iinc (v := (nI (k35 + 1))) (lv' := [(7, .int (nI (k35 + 1))), (2, .int ((ansI u.2.2.1 u.2.2.2.1 (r_2 &&& ((u.1 t) ^^^ (-1))) 1 z_1 k35) ||| (1 <<< ((nI k35) &&& 31)))), (6, .int (r_2 &&& ((u.1 t) ^^^ (-1)))), (5, .int 1), (4, .int r_2), (3, .int (u.1 t)), (0, .ref (a 0)), (1, .int (nI t))]) hx hb dX2_answering_77 hl (k := 1) rfl (nI_1 _) (by decide) rfl (fun ls hl => ?_)
              refine lv_goto (tgt := 35) hx hb dX2_answering_80 (by decide) ?_
              have e_12 : (ansI u.2.2.1 u.2.2.2.1 (r_2 &&& ((u.1 t) ^^^ (-1))) 1 z_1 (k35 + 1)) = ((ansI u.2.2.1 u.2.2.2.1 (r_2 &&& ((u.1 t) ^^^ (-1))) 1 z_1 k35) ||| (1 <<< ((nI k35) &&& 31))) := by rw [ansI_succ] <;> simp only [c_50, c_67, if_true, if_false]
              exact ih35 (k35 + 1) (by omega) ls (by rw [e_12]; exact (lv_sub hl [0, 2, 3, 4, 5, 1, 6, 7] rfl))
      exact loop35 8 0 (by omega) ls (lv_sub hl [0, 1, 2, 3, 4, 5, 6, 7] rfl)
    | succ n35 ih35 =>
      intro k35 hk35 ls hl
      have hlt35 : k35 < 8 := by omega
      refine lv_iload hx hb dX2_answering_35 (lv_at hl 0 rfl) ?_
      refine lv_bipush (v := 8) hx hb dX2_answering_37 (by decide) ?_
      refine lv_icmp_ge (tgt := 83) hx hb dX2_answering_39 (by decide) (fun h => absurd h (nI_ge hlt35 (by first | decide | omega))) (fun _ => ?_)
      refine lv_iload hx hb dX2_answering_42 (lv_at hl 1 rfl) ?_
      refine lv_iload hx hb dX2_answering_44 (lv_at hl 0 rfl) ?_
      refine ro_SN (As := [.int ((u.1 t) &&& (0 ^^^ (-1))), .int (nI k35)]) (rest := []) ⟨hx, hb, hml, hown, hts⟩ (c_X4_bit l D cA _ ((u.1 t) &&& (0 ^^^ (-1))) (nI k35)) (nestB 2 hts gX2_answering_X4_bit_n70 rfl rfl rfl hKN.2 (by decide +kernel) (by decide +kernel) (by decide +kernel) ⟨Nat.le_of_ble_eq_true rfl, Nat.le_of_ble_eq_true rfl⟩) hKN rfl hl.1 rfl (lv_room (Nat.le_of_ble_eq_true rfl)) dX2_answering_46 ⟨Nat.zero_le _, Nat.zero_le _⟩ ?_
      refine lv_iconst (v := 1) hx hb dX2_answering_49 (by decide) ?_
      refine lv_icmp_ne (tgt := 77) hx hb dX2_answering_50 (by decide) (fun c_50 => ?_) (fun c_50 => ?_)
      · refine lv_iinc (v := (nI (k35 + 1))) (lv' := [(7, .int (nI (k35 + 1))), (6, .int ((u.1 t) &&& (0 ^^^ (-1)))), (5, .int 0), (4, .int (u.1 t)), (3, .int 0), (2, .int (ansI u.2.2.1 u.2.2.2.1 ((u.1 t) &&& (0 ^^^ (-1))) 0 0 k35)), (0, .ref (a 0)), (1, .int (nI t))]) hx hb dX2_answering_77 hl (k := 0) rfl (nI_1 _) (by decide) rfl (fun ls hl => ?_)
        refine lv_goto (tgt := 35) hx hb dX2_answering_80 (by decide) ?_
        have e_13 : (ansI u.2.2.1 u.2.2.2.1 ((u.1 t) &&& (0 ^^^ (-1))) 0 0 (k35 + 1)) = (ansI u.2.2.1 u.2.2.2.1 ((u.1 t) &&& (0 ^^^ (-1))) 0 0 k35) := by rw [ansI_succ] <;> simp only [c_50, if_true, if_false]
        exact ih35 (k35 + 1) (by omega) ls (by rw [e_13]; exact (lv_sub hl [0, 1, 2, 3, 4, 5, 6, 7] rfl))
      · refine lv_aload_n hx hb dX2_answering_53 rfl (lv_at hl 6 rfl) ?_
        refine lv_iload hx hb dX2_answering_54 (lv_at hl 0 rfl) ?_
        refine lv_iload hx hb dX2_answering_56 (lv_at hl 2 rfl) ?_
        refine ro_V (ci := 2) (q0 := 0) (As := [.int (nI k35), .int 0]) (rest := []) ⟨hx, hb, hml, hown, hts⟩ (c_X2_strengthAt l D cA _ a u k35 (by omega) 0 hP ) (cwV 2 hts gX2_answering_X2_strengthAt rfl rfl rfl (by decide +kernel) ⟨Nat.le_of_ble_eq_true rfl, Nat.le_of_ble_eq_true rfl⟩) hKN hP rfl rfl rfl hl.1 rfl (lv_room (Nat.le_of_ble_eq_true rfl)) dX2_answering_58 ⟨Nat.zero_le _, Nat.zero_le _⟩ ?_
        refine lv_aload_n hx hb dX2_answering_61 rfl (lv_at hl 6 rfl) ?_
        refine va_get (D := D) (ci := 2) (v := .ref (a 4)) (C := RX2) (T := TX2) (N := 8) hx hb hts iX2_answering_X2 hown hK hP 0 rfl rfl 3 (by decide) (hts _ mX2_answering_f21) (fun _ h9 => h9) rfl dX2_answering_62 ?_
        refine lv_iconst (v := 0) hx hb dX2_answering_65 (by decide) ?_
        refine lz_iald (k := 0) (f := u.2.2.2.1) hx hb hK hP 4 0 rfl rfl ⟨by decide, by decide⟩ dX2_answering_66 ?_
        refine lv_icmp_lt (tgt := 77) hx hb dX2_answering_67 (by decide) (fun c_67 => ?_) (fun c_67 => ?_)
        · refine lv_iinc (v := (nI (k35 + 1))) (lv' := [(7, .int (nI (k35 + 1))), (6, .int ((u.1 t) &&& (0 ^^^ (-1)))), (5, .int 0), (4, .int (u.1 t)), (3, .int 0), (2, .int (ansI u.2.2.1 u.2.2.2.1 ((u.1 t) &&& (0 ^^^ (-1))) 0 0 k35)), (0, .ref (a 0)), (1, .int (nI t))]) hx hb dX2_answering_77 hl (k := 0) rfl (nI_1 _) (by decide) rfl (fun ls hl => ?_)
          refine lv_goto (tgt := 35) hx hb dX2_answering_80 (by decide) ?_
          have e_14 : (ansI u.2.2.1 u.2.2.2.1 ((u.1 t) &&& (0 ^^^ (-1))) 0 0 (k35 + 1)) = (ansI u.2.2.1 u.2.2.2.1 ((u.1 t) &&& (0 ^^^ (-1))) 0 0 k35) := by rw [ansI_succ] <;> simp only [c_50, c_67, if_true, if_false]
          exact ih35 (k35 + 1) (by omega) ls (by rw [e_14]; exact (lv_sub hl [0, 1, 2, 3, 4, 5, 6, 7] rfl))
        · refine lv_iload_n hx hb dX2_answering_70 rfl (lv_at hl 5 rfl) ?_
          refine lv_iconst (v := 1) hx hb dX2_answering_71 (by decide) ?_
          refine lv_iload hx hb dX2_answering_72 (lv_at hl 0 rfl) ?_
          refine lv_ishl hx hb dX2_answering_74 ?_
          refine lv_ior hx hb dX2_answering_75 ?_
          refine lv_istore_n (lv' := [(2, .int ((ansI u.2.2.1 u.2.2.2.1 ((u.1 t) &&& (0 ^^^ (-1))) 0 0 k35) ||| (1 <<< ((nI k35) &&& 31)))), (7, .int (nI k35)), (6, .int ((u.1 t) &&& (0 ^^^ (-1)))), (5, .int 0), (4, .int (u.1 t)), (3, .int 0), (0, .ref (a 0)), (1, .int (nI t))]) hx hb dX2_answering_76 rfl hl (by decide) rfl (fun ls hl => ?_)
          refine lv_iinc (v := (nI (k35 + 1))) (lv' := [(7, .int (nI (k35 + 1))), (2, .int ((ansI u.2.2.1 u.2.2.2.1 ((u.1 t) &&& (0 ^^^ (-1))) 0 0 k35) ||| (1 <<< ((nI k35) &&& 31)))), (6, .int ((u.1 t) &&& (0 ^^^ (-1)))), (5, .int 0), (4, .int (u.1 t)), (3, .int 0), (0, .ref (a 0)), (1, .int (nI t))]) hx hb dX2_answering_77 hl (k := 1) rfl (nI_1 _) (by decide) rfl (fun ls hl => ?_)
          refine lv_goto (tgt := 35) hx hb dX2_answering_80 (by decide) ?_
          have e_15 : (ansI u.2.2.1 u.2.2.2.1 ((u.1 t) &&& (0 ^^^ (-1))) 0 0 (k35 + 1)) = ((ansI u.2.2.1 u.2.2.2.1 ((u.1 t) &&& (0 ^^^ (-1))) 0 0 k35) ||| (1 <<< ((nI k35) &&& 31))) := by rw [ansI_succ] <;> simp only [c_50, c_67, if_true, if_false]
          exact ih35 (k35 + 1) (by omega) ls (by rw [e_15]; exact (lv_sub hl [0, 2, 3, 4, 5, 1, 6, 7] rfl))
  exact loop35 8 0 (by omega) ls (lv_sub hl [0, 1, 2, 3, 4, 5, 6, 7] rfl)
set_option maxHeartbeats 4000000 in
set_option maxRecDepth 100000 in
theorem c_X2_tells (l : Launch) (D : va_G) (cA : Nat → ClassId) (H : Heap) (a : Nat → Nat) (u : SV) (t : Nat) (ht : t < 16) (hP0 : va_P D vwCl (wSt cA a u) H) : RO l yX2_tells wsX2_tells ({ frames := 3, cells := 0, slots := 0, locals := 73 } : Room) D cA [.ref (a 0), .int (nI t)] H (some (.int (tellsS u t))) := by
  refine Met.ofW (cc := cX2_tells) (maxL := 2) (ret := (some .int)) (by decide) rfl ?_
  intro p e s m args below meth c s₁ B hml hv
  obtain ⟨rfl, hH, hKN⟩ := hv
  have hK := hKN.1
  have hx := B.exec
  have hb := B.bytes
  have hr := B.returns
  have hts := atoms_spec (ws := wsX2_tells) B.pre
  have hown : s.vm.findClass RX2 = some m.cls := findClass_of_methodNamed B.named
  have hlocks := B.notSynchronized
  subst hH
  have hH : s.heap = s.heap := rfl
  have hP := hP0
  have hl := lv_entry ([.ref (a 0), .int (nI t)] : List Value) (n := 2) (Nat.le_of_ble_eq_true rfl)
  rw [lg_entry_eq]
  generalize (lg_sl ([.ref (a 0), .int (nI t)] : List Value) ++ List.replicate (2 - (lg_sl ([.ref (a 0), .int (nI t)] : List Value)).length) Slot.unset).toArray = ls at hl ⊢
  have hl : lv_has ls 2 [(0, .ref (a 0)), (1, .int (nI t))] := hl
  refine lv_aload_n hx hb dX2_tells_0 rfl (lv_at hl 0 rfl) ?_
  refine lv_aload_n hx hb dX2_tells_1 rfl (lv_at hl 0 rfl) ?_
  refine lv_iload_n hx hb dX2_tells_2 rfl (lv_at hl 1 rfl) ?_
  refine ro_V (ci := 2) (q0 := 0) (As := [.int (nI t)]) (rest := [.ref (a 0)]) ⟨hx, hb, hml, hown, hts⟩ (c_X2_answering l D cA _ a u t (by omega) hP ) (cwV 1 hts gX2_tells_X2_answering rfl rfl rfl (by decide +kernel) ⟨Nat.le_of_ble_eq_true rfl, Nat.le_of_ble_eq_true rfl⟩) hKN hP rfl rfl rfl hl.1 rfl (lv_room (Nat.le_of_ble_eq_true rfl)) dX2_tells_3 ⟨Nat.zero_le _, Nat.zero_le _⟩ ?_
  refine ro_V (ci := 2) (q0 := 0) (As := [.int (ansS u t)]) (rest := []) ⟨hx, hb, hml, hown, hts⟩ (c_X2_asWord l D cA _ a u (ansS u t) hP ) (cwV 1 hts gX2_tells_X2_asWord rfl rfl rfl (by decide +kernel) ⟨Nat.le_of_ble_eq_true rfl, Nat.le_of_ble_eq_true rfl⟩) hKN hP rfl rfl rfl hl.1 rfl (lv_room (Nat.le_of_ble_eq_true rfl)) dX2_tells_6 ⟨Nat.zero_le _, Nat.zero_le _⟩ ?_
  exact ro_iret hx hb hr hlocks hH dX2_tells_9 rfl
theorem mX2_hops_f9 : Cond.fieldLink RX2 9 "WireLoom$State" "rings" "[I" ∈ wsX2_hops := by decide +kernel
set_option maxRecDepth 20000 in
theorem iX2_hops_X2 : ∀ w ∈ wsX20, w ∈ wsX2_hops := by decide +kernel
set_option maxHeartbeats 4000000 in
set_option maxRecDepth 100000 in
theorem c_X2_hops (l : Launch) (D : va_G) (cA : Nat → ClassId) (H : Heap) (a : Nat → Nat) (u : SV) (t : Nat) (ht : t < 16) (ring : Int32) (hP0 : va_P D vwCl (wSt cA a u) H) : RO l yX2_hops wsX2_hops ({ frames := 2, cells := 0, slots := 0, locals := 46 } : Room) D cA [.ref (a 0), .int (nI t), .int ring] H (some (.int (hopsF u.1 u.2.2.2.2.1 t ring))) := by
  refine Met.ofW (cc := cX2_hops) (maxL := 5) (ret := (some .int)) (by decide) rfl ?_
  intro p e s m args below meth c s₁ B hml hv
  obtain ⟨rfl, hH, hKN⟩ := hv
  have hK := hKN.1
  have hx := B.exec
  have hb := B.bytes
  have hr := B.returns
  have hts := atoms_spec (ws := wsX2_hops) B.pre
  have hown : s.vm.findClass RX2 = some m.cls := findClass_of_methodNamed B.named
  have hlocks := B.notSynchronized
  subst hH
  have hH : s.heap = s.heap := rfl
  have hP := hP0
  have hl := lv_entry ([.ref (a 0), .int (nI t), .int ring] : List Value) (n := 5) (Nat.le_of_ble_eq_true rfl)
  rw [lg_entry_eq]
  generalize (lg_sl ([.ref (a 0), .int (nI t), .int ring] : List Value) ++ List.replicate (5 - (lg_sl ([.ref (a 0), .int (nI t), .int ring] : List Value)).length) Slot.unset).toArray = ls at hl ⊢
  have hl : lv_has ls 5 [(0, .ref (a 0)), (1, .int (nI t)), (2, .int ring)] := hl
  refine lv_aload_n hx hb dX2_hops_0 rfl (lv_at hl 0 rfl) ?_
  refine va_get (D := D) (ci := 2) (v := .ref (a 1)) (C := RX2) (T := TX2) (N := 8) hx hb hts iX2_hops_X2 hown hK hP 0 rfl rfl 0 (by decide) (hts _ mX2_hops_f9) (fun _ h9 => h9) rfl dX2_hops_1 ?_
  refine lv_iload_n hx hb dX2_hops_4 rfl (lv_at hl 1 rfl) ?_
  refine lz_iald (k := t) (f := u.1) hx hb hK hP 1 0 rfl rfl ⟨by omega, by decide⟩ dX2_hops_5 ?_
  refine lv_istore_n (lv' := [(3, .int (u.1 t)), (0, .ref (a 0)), (1, .int (nI t)), (2, .int ring)]) hx hb dX2_hops_6 rfl hl (by decide) rfl (fun ls hl => ?_)
  refine lv_iconst (v := 0) hx hb dX2_hops_7 (by decide) ?_
  refine lv_istore (lv' := [(4, .int 0), (3, .int (u.1 t)), (0, .ref (a 0)), (1, .int (nI t)), (2, .int ring)]) hx hb dX2_hops_8 hl (by decide) rfl (fun ls hl => ?_)
  have loop10 : ∀ (n10 k10 : Nat), k10 + n10 = 8 → hopsF u.1 u.2.2.2.2.1 t ring = hopsG u.1 u.2.2.2.2.1 t ring n10 k10 → ∀ (ls : Array Slot), lv_has ls 5 [(4, .int (nI k10)), (3, .int (reachF u.1 u.2.2.2.2.1 t k10)), (0, .ref (a 0)), (1, .int (nI t)), (2, .int ring)] → W p l e ({ frames := 2, cells := 0, slots := 0, locals := 46 } : Room) s m ([.ref (a 0), .int (nI t), .int ring] : List Value).toArray below meth c s.heap [] 0 0 (MQ below (roQ s.heap (some (.int (hopsF u.1 u.2.2.2.2.1 t ring)))) ([.ref (a 0), .int (nI t), .int ring] : List Value).toArray s 0 0 noA) (F0 m 10 ls []) := by
    intro n10
    induction n10 with
    | zero =>
      intro k10 hk10 hq10 ls hl
      obtain rfl : 8 = k10 := by omega
      refine lv_iload hx hb dX2_hops_10 (lv_at hl 0 rfl) ?_
      refine lv_bipush (v := 8) hx hb dX2_hops_12 (by decide) ?_
      refine lv_icmp_ge (tgt := 42) hx hb dX2_hops_14 (by decide) (fun _ => ?_) (fun h => absurd (by decide) h)
      refine lv_iconst (v := (-1)) hx hb dX2_hops_42 (by decide) ?_
      exact ro_iret hx hb hr hlocks hH dX2_hops_43 (by rw [hq10]; rfl)
    | succ n10 ih10 =>
      intro k10 hk10 hq10 ls hl
      have hlt10 : k10 < 8 := by omega
      refine lv_iload hx hb dX2_hops_10 (lv_at hl 0 rfl) ?_
      refine lv_bipush (v := 8) hx hb dX2_hops_12 (by decide) ?_
      refine lv_icmp_ge (tgt := 42) hx hb dX2_hops_14 (by decide) (fun h => absurd h (nI_ge hlt10 (by first | decide | omega))) (fun _ => ?_)
      refine lv_iload_n hx hb dX2_hops_17 rfl (lv_at hl 1 rfl) ?_
      refine lv_iload_n hx hb dX2_hops_18 rfl (lv_at hl 4 rfl) ?_
      refine ro_SN (As := [.int (reachF u.1 u.2.2.2.2.1 t k10), .int ring]) (rest := []) ⟨hx, hb, hml, hown, hts⟩ (c_X4_bit l D cA _ (reachF u.1 u.2.2.2.2.1 t k10) ring) (nestB 2 hts gX2_hops_X4_bit_n70 rfl rfl rfl hKN.2 (by decide +kernel) (by decide +kernel) (by decide +kernel) ⟨Nat.le_of_ble_eq_true rfl, Nat.le_of_ble_eq_true rfl⟩) hKN rfl hl.1 rfl (lv_room (Nat.le_of_ble_eq_true rfl)) dX2_hops_19 ⟨Nat.zero_le _, Nat.zero_le _⟩ ?_
      refine lv_iconst (v := 1) hx hb dX2_hops_22 (by decide) ?_
      refine lv_icmp_ne (tgt := 29) hx hb dX2_hops_23 (by decide) (fun c_23 => ?_) (fun c_23 => ?_)
      · refine lv_aload_n hx hb dX2_hops_29 rfl (lv_at hl 2 rfl) ?_
        refine lv_iload_n hx hb dX2_hops_30 rfl (lv_at hl 3 rfl) ?_
        refine lv_iload_n hx hb dX2_hops_31 rfl (lv_at hl 1 rfl) ?_
        refine ro_V (ci := 2) (q0 := 0) (As := [.int (nI t), .int (reachF u.1 u.2.2.2.2.1 t k10)]) (rest := []) ⟨hx, hb, hml, hown, hts⟩ (c_X2_oneThreadOn l D cA _ a u (nI t) (reachF u.1 u.2.2.2.2.1 t k10) hP ) (cwV 2 hts gX2_hops_X2_oneThreadOn rfl rfl rfl (by decide +kernel) ⟨Nat.le_of_ble_eq_true rfl, Nat.le_of_ble_eq_true rfl⟩) hKN hP rfl rfl rfl hl.1 rfl (lv_room (Nat.le_of_ble_eq_true rfl)) dX2_hops_32 ⟨Nat.zero_le _, Nat.zero_le _⟩ ?_
        refine lv_istore_n (lv' := [(3, .int (oneT u.1 u.2.2.2.2.1 (nI t) (reachF u.1 u.2.2.2.2.1 t k10) 16)), (4, .int (nI k10)), (0, .ref (a 0)), (1, .int (nI t)), (2, .int ring)]) hx hb dX2_hops_35 rfl hl (by decide) rfl (fun ls hl => ?_)
        refine lv_iinc (v := (nI (k10 + 1))) (lv' := [(4, .int (nI (k10 + 1))), (3, .int (oneT u.1 u.2.2.2.2.1 (nI t) (reachF u.1 u.2.2.2.2.1 t k10) 16)), (0, .ref (a 0)), (1, .int (nI t)), (2, .int ring)]) hx hb dX2_hops_36 hl (k := 1) rfl (nI_1 _) (by decide) rfl (fun ls hl => ?_)
        refine lv_goto (tgt := 10) hx hb dX2_hops_39 (by decide) ?_
        have e_1 : (reachF u.1 u.2.2.2.2.1 t (k10 + 1)) = (oneT u.1 u.2.2.2.2.1 (nI t) (reachF u.1 u.2.2.2.2.1 t k10) 16) := by rw [reachF_succ] <;> simp only [c_23, if_true, if_false]
        exact ih10 (k10 + 1) (by omega) (by rw [hq10, hopsG, if_neg c_23]) ls (by rw [e_1]; exact (lv_sub hl [0, 1, 2, 3, 4] rfl))
      · refine lv_iload hx hb dX2_hops_26 (lv_at hl 0 rfl) ?_
        exact ro_iret hx hb hr hlocks hH dX2_hops_28 (by rw [hq10, hopsG, if_pos c_23])
  exact loop10 8 0 (by omega) rfl ls (lv_sub hl [0, 1, 2, 3, 4] rfl)
theorem mX2_readingsUntilChange_f21 : Cond.fieldLink RX2 21 "WireLoom$State" "settings" "[I" ∈ wsX2_readingsUntilChange := by decide +kernel
theorem mX2_readingsUntilChange_f18 : Cond.fieldLink RX2 18 "WireLoom$State" "wear" "[I" ∈ wsX2_readingsUntilChange := by decide +kernel
theorem mX2_readingsUntilChange_f9 : Cond.fieldLink RX2 9 "WireLoom$State" "rings" "[I" ∈ wsX2_readingsUntilChange := by decide +kernel
set_option maxRecDepth 20000 in
theorem iX2_readingsUntilChange_X2 : ∀ w ∈ wsX20, w ∈ wsX2_readingsUntilChange := by decide +kernel
set_option maxHeartbeats 4000000 in
set_option maxRecDepth 100000 in
theorem c_X2_readingsUntilChange (l : Launch) (D : va_G) (cA : Nat → ClassId) (H : Heap) (a : Nat → Nat) (u : SV) (t : Nat) (ht : t < 16) (hP0 : va_P D vwCl (wSt cA a u) H) : RO l yX2_readingsUntilChange wsX2_readingsUntilChange ({ frames := 1, cells := 0, slots := 0, locals := 21 } : Room) D cA [.ref (a 0), .int (nI t)] H (some (.int (rucS u t))) := by
  refine Met.ofW (cc := cX2_readingsUntilChange) (maxL := 6) (ret := (some .int)) (by decide) rfl ?_
  intro p e s m args below meth c s₁ B hml hv
  obtain ⟨rfl, hH, hKN⟩ := hv
  have hK := hKN.1
  have hx := B.exec
  have hb := B.bytes
  have hr := B.returns
  have hts := atoms_spec (ws := wsX2_readingsUntilChange) B.pre
  have hown : s.vm.findClass RX2 = some m.cls := findClass_of_methodNamed B.named
  have hlocks := B.notSynchronized
  subst hH
  have hH : s.heap = s.heap := rfl
  have hP := hP0
  have hl := lv_entry ([.ref (a 0), .int (nI t)] : List Value) (n := 6) (Nat.le_of_ble_eq_true rfl)
  rw [lg_entry_eq]
  generalize (lg_sl ([.ref (a 0), .int (nI t)] : List Value) ++ List.replicate (6 - (lg_sl ([.ref (a 0), .int (nI t)] : List Value)).length) Slot.unset).toArray = ls at hl ⊢
  have hl : lv_has ls 6 [(0, .ref (a 0)), (1, .int (nI t))] := hl
  refine lv_bipush (v := 10) hx hb dX2_readingsUntilChange_0 (by decide) ?_
  refine lv_bipush (v := 8) hx hb dX2_readingsUntilChange_2 (by decide) ?_
  refine lv_aload_n hx hb dX2_readingsUntilChange_4 rfl (lv_at hl 0 rfl) ?_
  refine va_get (D := D) (ci := 2) (v := .ref (a 4)) (C := RX2) (T := TX2) (N := 8) hx hb hts iX2_readingsUntilChange_X2 hown hK hP 0 rfl rfl 3 (by decide) (hts _ mX2_readingsUntilChange_f21) (fun _ h9 => h9) rfl dX2_readingsUntilChange_5 ?_
  refine lv_iconst (v := 0) hx hb dX2_readingsUntilChange_8 (by decide) ?_
  refine lz_iald (k := 0) (f := u.2.2.2.1) hx hb hK hP 4 0 rfl rfl ⟨by decide, by decide⟩ dX2_readingsUntilChange_9 ?_
  refine lv_isub hx hb dX2_readingsUntilChange_10 ?_
  refine lv_iconst (v := 1) hx hb dX2_readingsUntilChange_11 (by decide) ?_
  refine lv_iadd hx hb dX2_readingsUntilChange_12 ?_
  refine lv_imul hx hb dX2_readingsUntilChange_13 ?_
  refine lv_istore_n (lv' := [(2, .int (10 * ((8 - (u.2.2.2.1 0)) + 1))), (0, .ref (a 0)), (1, .int (nI t))]) hx hb dX2_readingsUntilChange_14 rfl hl (by decide) rfl (fun ls hl => ?_)
  refine lv_iconst (v := (-1)) hx hb dX2_readingsUntilChange_15 (by decide) ?_
  refine lv_istore_n (lv' := [(3, .int (-1)), (2, .int (10 * ((8 - (u.2.2.2.1 0)) + 1))), (0, .ref (a 0)), (1, .int (nI t))]) hx hb dX2_readingsUntilChange_16 rfl hl (by decide) rfl (fun ls hl => ?_)
  refine lv_iconst (v := 0) hx hb dX2_readingsUntilChange_17 (by decide) ?_
  refine lv_istore (lv' := [(4, .int 0), (3, .int (-1)), (2, .int (10 * ((8 - (u.2.2.2.1 0)) + 1))), (0, .ref (a 0)), (1, .int (nI t))]) hx hb dX2_readingsUntilChange_18 hl (by decide) rfl (fun ls hl => ?_)
  have loop20 : ∀ (n20 k20 : Nat), k20 + n20 = 8 → ∀ (ls : Array Slot), lv_has ls 6 [(4, .int (nI k20)), (3, .int (rucI u.2.2.1 (u.1 t) (10 * ((8 - u.2.2.2.1 0) + 1)) k20)), (2, .int (10 * ((8 - (u.2.2.2.1 0)) + 1))), (0, .ref (a 0)), (1, .int (nI t))] → W p l e ({ frames := 1, cells := 0, slots := 0, locals := 21 } : Room) s m ([.ref (a 0), .int (nI t)] : List Value).toArray below meth c s.heap [] 0 0 (MQ below (roQ s.heap (some (.int (rucS u t)))) ([.ref (a 0), .int (nI t)] : List Value).toArray s 0 0 noA) (F0 m 20 ls []) := by
    intro n20
    induction n20 with
    | zero =>
      intro k20 hk20 ls hl
      obtain rfl : 8 = k20 := by omega
      refine lv_iload hx hb dX2_readingsUntilChange_20 (lv_at hl 0 rfl) ?_
      refine lv_bipush (v := 8) hx hb dX2_readingsUntilChange_22 (by decide) ?_
      refine lv_icmp_ge (tgt := 78) hx hb dX2_readingsUntilChange_24 (by decide) (fun _ => ?_) (fun h => absurd (by decide) h)
      refine lv_iload_n hx hb dX2_readingsUntilChange_78 rfl (lv_at hl 1 rfl) ?_
      exact ro_iret hx hb hr hlocks hH dX2_readingsUntilChange_79 rfl
    | succ n20 ih20 =>
      intro k20 hk20 ls hl
      have hlt20 : k20 < 8 := by omega
      refine lv_iload hx hb dX2_readingsUntilChange_20 (lv_at hl 0 rfl) ?_
      refine lv_bipush (v := 8) hx hb dX2_readingsUntilChange_22 (by decide) ?_
      refine lv_icmp_ge (tgt := 78) hx hb dX2_readingsUntilChange_24 (by decide) (fun h => absurd h (nI_ge hlt20 (by first | decide | omega))) (fun _ => ?_)
      refine lv_iload_n hx hb dX2_readingsUntilChange_27 rfl (lv_at hl 2 rfl) ?_
      refine lv_aload_n hx hb dX2_readingsUntilChange_28 rfl (lv_at hl 3 rfl) ?_
      refine va_get (D := D) (ci := 2) (v := .ref (a 3)) (C := RX2) (T := TX2) (N := 8) hx hb hts iX2_readingsUntilChange_X2 hown hK hP 0 rfl rfl 2 (by decide) (hts _ mX2_readingsUntilChange_f18) (fun _ h9 => h9) rfl dX2_readingsUntilChange_29 ?_
      refine lv_iload hx hb dX2_readingsUntilChange_32 (lv_at hl 0 rfl) ?_
      refine lz_iald (k := k20) (f := u.2.2.1) hx hb hK hP 3 0 rfl rfl ⟨by omega, by decide⟩ dX2_readingsUntilChange_34 ?_
      refine lv_isub hx hb dX2_readingsUntilChange_35 ?_
      refine lv_istore (lv' := [(5, .int ((10 * ((8 - (u.2.2.2.1 0)) + 1)) - (u.2.2.1 k20))), (4, .int (nI k20)), (3, .int (rucI u.2.2.1 (u.1 t) (10 * ((8 - u.2.2.2.1 0) + 1)) k20)), (2, .int (10 * ((8 - (u.2.2.2.1 0)) + 1))), (0, .ref (a 0)), (1, .int (nI t))]) hx hb dX2_readingsUntilChange_36 hl (by decide) rfl (fun ls hl => ?_)
      refine lv_aload_n hx hb dX2_readingsUntilChange_38 rfl (lv_at hl 4 rfl) ?_
      refine va_get (D := D) (ci := 2) (v := .ref (a 1)) (C := RX2) (T := TX2) (N := 8) hx hb hts iX2_readingsUntilChange_X2 hown hK hP 0 rfl rfl 0 (by decide) (hts _ mX2_readingsUntilChange_f9) (fun _ h9 => h9) rfl dX2_readingsUntilChange_39 ?_
      refine lv_iload_n hx hb dX2_readingsUntilChange_42 rfl (lv_at hl 5 rfl) ?_
      refine lz_iald (k := t) (f := u.1) hx hb hK hP 1 0 rfl rfl ⟨by omega, by decide⟩ dX2_readingsUntilChange_43 ?_
      refine lv_iload hx hb dX2_readingsUntilChange_44 (lv_at hl 1 rfl) ?_
      refine ro_SN (As := [.int (u.1 t), .int (nI k20)]) (rest := []) ⟨hx, hb, hml, hown, hts⟩ (c_X4_bit l D cA _ (u.1 t) (nI k20)) (nestB 2 hts gX2_readingsUntilChange_X4_bit_n70 rfl rfl rfl hKN.2 (by decide +kernel) (by decide +kernel) (by decide +kernel) ⟨Nat.le_of_ble_eq_true rfl, Nat.le_of_ble_eq_true rfl⟩) hKN rfl hl.1 rfl (lv_room (Nat.le_of_ble_eq_true rfl)) dX2_readingsUntilChange_46 ⟨Nat.zero_le _, Nat.zero_le _⟩ ?_
      refine lv_iconst (v := 1) hx hb dX2_readingsUntilChange_49 (by decide) ?_
      refine lv_icmp_ne (tgt := 72) hx hb dX2_readingsUntilChange_50 (by decide) (fun c_50 => ?_) (fun c_50 => ?_)
      · refine lv_iinc (v := (nI (k20 + 1))) (lv' := [(4, .int (nI (k20 + 1))), (5, .int ((10 * ((8 - (u.2.2.2.1 0)) + 1)) - (u.2.2.1 k20))), (3, .int (rucI u.2.2.1 (u.1 t) (10 * ((8 - u.2.2.2.1 0) + 1)) k20)), (2, .int (10 * ((8 - (u.2.2.2.1 0)) + 1))), (0, .ref (a 0)), (1, .int (nI t))]) hx hb dX2_readingsUntilChange_72 hl (k := 1) rfl (nI_1 _) (by decide) rfl (fun ls hl => ?_)
        refine lv_goto (tgt := 20) hx hb dX2_readingsUntilChange_75 (by decide) ?_
        have e_1 : (rucI u.2.2.1 (u.1 t) (10 * ((8 - u.2.2.2.1 0) + 1)) (k20 + 1)) = (rucI u.2.2.1 (u.1 t) (10 * ((8 - u.2.2.2.1 0) + 1)) k20) := by rw [rucI_succ] <;> simp only [c_50, if_true, if_false]
        exact ih20 (k20 + 1) (by omega) ls (by rw [e_1]; exact (lv_sub hl [0, 2, 3, 4, 5] rfl))
      · refine lv_iload hx hb dX2_readingsUntilChange_53 (lv_at hl 0 rfl) ?_
        refine lv_if_le (tgt := 72) hx hb dX2_readingsUntilChange_55 (by decide) (fun c_55 => ?_) (fun c_55 => ?_)
        · refine lv_iinc (v := (nI (k20 + 1))) (lv' := [(4, .int (nI (k20 + 1))), (5, .int ((10 * ((8 - (u.2.2.2.1 0)) + 1)) - (u.2.2.1 k20))), (3, .int (rucI u.2.2.1 (u.1 t) (10 * ((8 - u.2.2.2.1 0) + 1)) k20)), (2, .int (10 * ((8 - (u.2.2.2.1 0)) + 1))), (0, .ref (a 0)), (1, .int (nI t))]) hx hb dX2_readingsUntilChange_72 hl (k := 1) rfl (nI_1 _) (by decide) rfl (fun ls hl => ?_)
          refine lv_goto (tgt := 20) hx hb dX2_readingsUntilChange_75 (by decide) ?_
          have e_2 : (rucI u.2.2.1 (u.1 t) (10 * ((8 - u.2.2.2.1 0) + 1)) (k20 + 1)) = (rucI u.2.2.1 (u.1 t) (10 * ((8 - u.2.2.2.1 0) + 1)) k20) := by rw [rucI_succ] <;> simp only [c_50, c_55, if_true, if_false]
          exact ih20 (k20 + 1) (by omega) ls (by rw [e_2]; exact (lv_sub hl [0, 2, 3, 4, 5] rfl))
        · refine lv_iload_n hx hb dX2_readingsUntilChange_58 rfl (lv_at hl 2 rfl) ?_
          refine lv_iconst (v := (-1)) hx hb dX2_readingsUntilChange_59 (by decide) ?_
          refine lv_icmp_eq (tgt := 69) hx hb dX2_readingsUntilChange_60 (by decide) (fun c_60 => ?_) (fun c_60 => ?_)
          · refine lv_iload hx hb dX2_readingsUntilChange_69 (lv_at hl 0 rfl) ?_
            refine lv_istore_n (lv' := [(3, .int ((10 * ((8 - (u.2.2.2.1 0)) + 1)) - (u.2.2.1 k20))), (5, .int ((10 * ((8 - (u.2.2.2.1 0)) + 1)) - (u.2.2.1 k20))), (4, .int (nI k20)), (2, .int (10 * ((8 - (u.2.2.2.1 0)) + 1))), (0, .ref (a 0)), (1, .int (nI t))]) hx hb dX2_readingsUntilChange_71 rfl hl (by decide) rfl (fun ls hl => ?_)
            refine lv_iinc (v := (nI (k20 + 1))) (lv' := [(4, .int (nI (k20 + 1))), (3, .int ((10 * ((8 - (u.2.2.2.1 0)) + 1)) - (u.2.2.1 k20))), (5, .int ((10 * ((8 - (u.2.2.2.1 0)) + 1)) - (u.2.2.1 k20))), (2, .int (10 * ((8 - (u.2.2.2.1 0)) + 1))), (0, .ref (a 0)), (1, .int (nI t))]) hx hb dX2_readingsUntilChange_72 hl (k := 2) rfl (nI_1 _) (by decide) rfl (fun ls hl => ?_)
            refine lv_goto (tgt := 20) hx hb dX2_readingsUntilChange_75 (by decide) ?_
            have e_3 : (rucI u.2.2.1 (u.1 t) (10 * ((8 - u.2.2.2.1 0) + 1)) (k20 + 1)) = ((10 * ((8 - (u.2.2.2.1 0)) + 1)) - (u.2.2.1 k20)) := by rw [rucI_succ] <;> simp only [c_50, c_55, c_60, if_true, if_false]
            exact ih20 (k20 + 1) (by omega) ls (by rw [e_3]; exact (lv_sub hl [0, 1, 3, 4, 5] rfl))
          · refine lv_iload hx hb dX2_readingsUntilChange_63 (lv_at hl 0 rfl) ?_
            refine lv_iload_n hx hb dX2_readingsUntilChange_65 rfl (lv_at hl 2 rfl) ?_
            refine lv_icmp_ge (tgt := 72) hx hb dX2_readingsUntilChange_66 (by decide) (fun c_66 => ?_) (fun c_66 => ?_)
            · refine lv_iinc (v := (nI (k20 + 1))) (lv' := [(4, .int (nI (k20 + 1))), (5, .int ((10 * ((8 - (u.2.2.2.1 0)) + 1)) - (u.2.2.1 k20))), (3, .int (rucI u.2.2.1 (u.1 t) (10 * ((8 - u.2.2.2.1 0) + 1)) k20)), (2, .int (10 * ((8 - (u.2.2.2.1 0)) + 1))), (0, .ref (a 0)), (1, .int (nI t))]) hx hb dX2_readingsUntilChange_72 hl (k := 1) rfl (nI_1 _) (by decide) rfl (fun ls hl => ?_)
              refine lv_goto (tgt := 20) hx hb dX2_readingsUntilChange_75 (by decide) ?_
              have e_4 : (rucI u.2.2.1 (u.1 t) (10 * ((8 - u.2.2.2.1 0) + 1)) (k20 + 1)) = (rucI u.2.2.1 (u.1 t) (10 * ((8 - u.2.2.2.1 0) + 1)) k20) := by rw [rucI_succ] <;> simp only [c_50, c_55, c_60, c_66, if_true, if_false]
              exact ih20 (k20 + 1) (by omega) ls (by rw [e_4]; exact (lv_sub hl [0, 2, 3, 4, 5] rfl))
            · refine lv_iload hx hb dX2_readingsUntilChange_69 (lv_at hl 0 rfl) ?_
              refine lv_istore_n (lv' := [(3, .int ((10 * ((8 - (u.2.2.2.1 0)) + 1)) - (u.2.2.1 k20))), (5, .int ((10 * ((8 - (u.2.2.2.1 0)) + 1)) - (u.2.2.1 k20))), (4, .int (nI k20)), (2, .int (10 * ((8 - (u.2.2.2.1 0)) + 1))), (0, .ref (a 0)), (1, .int (nI t))]) hx hb dX2_readingsUntilChange_71 rfl hl (by decide) rfl (fun ls hl => ?_)
              refine lv_iinc (v := (nI (k20 + 1))) (lv' := [(4, .int (nI (k20 + 1))), (3, .int ((10 * ((8 - (u.2.2.2.1 0)) + 1)) - (u.2.2.1 k20))), (5, .int ((10 * ((8 - (u.2.2.2.1 0)) + 1)) - (u.2.2.1 k20))), (2, .int (10 * ((8 - (u.2.2.2.1 0)) + 1))), (0, .ref (a 0)), (1, .int (nI t))]) hx hb dX2_readingsUntilChange_72 hl (k := 2) rfl (nI_1 _) (by decide) rfl (fun ls hl => ?_)
              refine lv_goto (tgt := 20) hx hb dX2_readingsUntilChange_75 (by decide) ?_
              have e_5 : (rucI u.2.2.1 (u.1 t) (10 * ((8 - u.2.2.2.1 0) + 1)) (k20 + 1)) = ((10 * ((8 - (u.2.2.2.1 0)) + 1)) - (u.2.2.1 k20)) := by rw [rucI_succ] <;> simp only [c_50, c_55, c_60, c_66, if_true, if_false]
              exact ih20 (k20 + 1) (by omega) ls (by rw [e_5]; exact (lv_sub hl [0, 1, 3, 4, 5] rfl))
  exact loop20 8 0 (by omega) ls (lv_sub hl [0, 1, 2, 3, 4] rfl)
theorem mX2_threadsThrough_f9 : Cond.fieldLink RX2 9 "WireLoom$State" "rings" "[I" ∈ wsX2_threadsThrough := by decide +kernel
set_option maxRecDepth 20000 in
theorem iX2_threadsThrough_X2 : ∀ w ∈ wsX20, w ∈ wsX2_threadsThrough := by decide +kernel
set_option maxHeartbeats 4000000 in
set_option maxRecDepth 100000 in
theorem c_X2_threadsThrough (l : Launch) (D : va_G) (cA : Nat → ClassId) (H : Heap) (a : Nat → Nat) (u : SV) (ring : Int32) (hP0 : va_P D vwCl (wSt cA a u) H) : RO l yX2_threadsThrough wsX2_threadsThrough ({ frames := 1, cells := 0, slots := 0, locals := 21 } : Room) D cA [.ref (a 0), .int ring] H (some (.int (thrS u ring))) := by
  refine Met.ofW (cc := cX2_threadsThrough) (maxL := 4) (ret := (some .int)) (by decide) rfl ?_
  intro p e s m args below meth c s₁ B hml hv
  obtain ⟨rfl, hH, hKN⟩ := hv
  have hK := hKN.1
  have hx := B.exec
  have hb := B.bytes
  have hr := B.returns
  have hts := atoms_spec (ws := wsX2_threadsThrough) B.pre
  have hown : s.vm.findClass RX2 = some m.cls := findClass_of_methodNamed B.named
  have hlocks := B.notSynchronized
  subst hH
  have hH : s.heap = s.heap := rfl
  have hP := hP0
  have hl := lv_entry ([.ref (a 0), .int ring] : List Value) (n := 4) (Nat.le_of_ble_eq_true rfl)
  rw [lg_entry_eq]
  generalize (lg_sl ([.ref (a 0), .int ring] : List Value) ++ List.replicate (4 - (lg_sl ([.ref (a 0), .int ring] : List Value)).length) Slot.unset).toArray = ls at hl ⊢
  have hl : lv_has ls 4 [(0, .ref (a 0)), (1, .int ring)] := hl
  refine lv_iconst (v := 0) hx hb dX2_threadsThrough_0 (by decide) ?_
  refine lv_istore_n (lv' := [(2, .int 0), (0, .ref (a 0)), (1, .int ring)]) hx hb dX2_threadsThrough_1 rfl hl (by decide) rfl (fun ls hl => ?_)
  refine lv_iconst (v := 0) hx hb dX2_threadsThrough_2 (by decide) ?_
  refine lv_istore_n (lv' := [(3, .int 0), (2, .int 0), (0, .ref (a 0)), (1, .int ring)]) hx hb dX2_threadsThrough_3 rfl hl (by decide) rfl (fun ls hl => ?_)
  have loop4 : ∀ (n4 k4 : Nat), k4 + n4 = 16 → ∀ (ls : Array Slot), lv_has ls 4 [(3, .int (nI k4)), (2, .int (thrT u.1 ring k4)), (0, .ref (a 0)), (1, .int ring)] → W p l e ({ frames := 1, cells := 0, slots := 0, locals := 21 } : Room) s m ([.ref (a 0), .int ring] : List Value).toArray below meth c s.heap [] 0 0 (MQ below (roQ s.heap (some (.int (thrS u ring)))) ([.ref (a 0), .int ring] : List Value).toArray s 0 0 noA) (F0 m 4 ls []) := by
    intro n4
    induction n4 with
    | zero =>
      intro k4 hk4 ls hl
      obtain rfl : 16 = k4 := by omega
      refine lv_iload_n hx hb dX2_threadsThrough_4 rfl (lv_at hl 0 rfl) ?_
      refine lv_bipush (v := 16) hx hb dX2_threadsThrough_5 (by decide) ?_
      refine lv_icmp_ge (tgt := 31) hx hb dX2_threadsThrough_7 (by decide) (fun _ => ?_) (fun h => absurd (by decide) h)
      refine lv_iload_n hx hb dX2_threadsThrough_31 rfl (lv_at hl 1 rfl) ?_
      exact ro_iret hx hb hr hlocks hH dX2_threadsThrough_32 rfl
    | succ n4 ih4 =>
      intro k4 hk4 ls hl
      have hlt4 : k4 < 16 := by omega
      refine lv_iload_n hx hb dX2_threadsThrough_4 rfl (lv_at hl 0 rfl) ?_
      refine lv_bipush (v := 16) hx hb dX2_threadsThrough_5 (by decide) ?_
      refine lv_icmp_ge (tgt := 31) hx hb dX2_threadsThrough_7 (by decide) (fun h => absurd h (nI_ge hlt4 (by first | decide | omega))) (fun _ => ?_)
      refine lv_iload_n hx hb dX2_threadsThrough_10 rfl (lv_at hl 1 rfl) ?_
      refine lv_aload_n hx hb dX2_threadsThrough_11 rfl (lv_at hl 2 rfl) ?_
      refine va_get (D := D) (ci := 2) (v := .ref (a 1)) (C := RX2) (T := TX2) (N := 8) hx hb hts iX2_threadsThrough_X2 hown hK hP 0 rfl rfl 0 (by decide) (hts _ mX2_threadsThrough_f9) (fun _ h9 => h9) rfl dX2_threadsThrough_12 ?_
      refine lv_iload_n hx hb dX2_threadsThrough_15 rfl (lv_at hl 0 rfl) ?_
      refine lz_iald (k := k4) (f := u.1) hx hb hK hP 1 0 rfl rfl ⟨by omega, by decide⟩ dX2_threadsThrough_16 ?_
      refine lv_iload_n hx hb dX2_threadsThrough_17 rfl (lv_at hl 3 rfl) ?_
      refine ro_SN (As := [.int (u.1 k4), .int ring]) (rest := [.int (thrT u.1 ring k4)]) ⟨hx, hb, hml, hown, hts⟩ (c_X4_bit l D cA _ (u.1 k4) ring) (nestB 2 hts gX2_threadsThrough_X4_bit_n70 rfl rfl rfl hKN.2 (by decide +kernel) (by decide +kernel) (by decide +kernel) ⟨Nat.le_of_ble_eq_true rfl, Nat.le_of_ble_eq_true rfl⟩) hKN rfl hl.1 rfl (lv_room (Nat.le_of_ble_eq_true rfl)) dX2_threadsThrough_18 ⟨Nat.zero_le _, Nat.zero_le _⟩ ?_
      refine lv_iload_n hx hb dX2_threadsThrough_21 rfl (lv_at hl 0 rfl) ?_
      refine lv_ishl hx hb dX2_threadsThrough_22 ?_
      refine lv_ior hx hb dX2_threadsThrough_23 ?_
      refine lv_istore_n (lv' := [(2, .int ((thrT u.1 ring k4) ||| ((bitF (u.1 k4) ring) <<< ((nI k4) &&& 31)))), (3, .int (nI k4)), (0, .ref (a 0)), (1, .int ring)]) hx hb dX2_threadsThrough_24 rfl hl (by decide) rfl (fun ls hl => ?_)
      refine lv_iinc (v := (nI (k4 + 1))) (lv' := [(3, .int (nI (k4 + 1))), (2, .int ((thrT u.1 ring k4) ||| ((bitF (u.1 k4) ring) <<< ((nI k4) &&& 31)))), (0, .ref (a 0)), (1, .int ring)]) hx hb dX2_threadsThrough_25 hl (k := 1) rfl (nI_1 _) (by decide) rfl (fun ls hl => ?_)
      refine lv_goto (tgt := 4) hx hb dX2_threadsThrough_28 (by decide) ?_
      have e_1 : (thrT u.1 ring (k4 + 1)) = ((thrT u.1 ring k4) ||| ((bitF (u.1 k4) ring) <<< ((nI k4) &&& 31))) := rfl
      exact ih4 (k4 + 1) (by omega) ls (by rw [e_1]; exact (lv_sub hl [0, 1, 2, 3] rfl))
  exact loop4 16 0 (by omega) ls (lv_sub hl [0, 1, 2, 3] rfl)
set_option maxHeartbeats 4000000 in
set_option maxRecDepth 100000 in
theorem c_X2_threadsAnswered (l : Launch) (D : va_G) (cA : Nat → ClassId) (H : Heap) (a : Nat → Nat) (u : SV) (ring : Int32) (hP0 : va_P D vwCl (wSt cA a u) H) : RO l yX2_threadsAnswered wsX2_threadsAnswered ({ frames := 3, cells := 0, slots := 0, locals := 73 } : Room) D cA [.ref (a 0), .int ring] H (some (.int (tanT u ring 16))) := by
  refine Met.ofW (cc := cX2_threadsAnswered) (maxL := 4) (ret := (some .int)) (by decide) rfl ?_
  intro p e s m args below meth c s₁ B hml hv
  obtain ⟨rfl, hH, hKN⟩ := hv
  have hK := hKN.1
  have hx := B.exec
  have hb := B.bytes
  have hr := B.returns
  have hts := atoms_spec (ws := wsX2_threadsAnswered) B.pre
  have hown : s.vm.findClass RX2 = some m.cls := findClass_of_methodNamed B.named
  have hlocks := B.notSynchronized
  subst hH
  have hH : s.heap = s.heap := rfl
  have hP := hP0
  have hl := lv_entry ([.ref (a 0), .int ring] : List Value) (n := 4) (Nat.le_of_ble_eq_true rfl)
  rw [lg_entry_eq]
  generalize (lg_sl ([.ref (a 0), .int ring] : List Value) ++ List.replicate (4 - (lg_sl ([.ref (a 0), .int ring] : List Value)).length) Slot.unset).toArray = ls at hl ⊢
  have hl : lv_has ls 4 [(0, .ref (a 0)), (1, .int ring)] := hl
  refine lv_iconst (v := 0) hx hb dX2_threadsAnswered_0 (by decide) ?_
  refine lv_istore_n (lv' := [(2, .int 0), (0, .ref (a 0)), (1, .int ring)]) hx hb dX2_threadsAnswered_1 rfl hl (by decide) rfl (fun ls hl => ?_)
  refine lv_iconst (v := 0) hx hb dX2_threadsAnswered_2 (by decide) ?_
  refine lv_istore_n (lv' := [(3, .int 0), (2, .int 0), (0, .ref (a 0)), (1, .int ring)]) hx hb dX2_threadsAnswered_3 rfl hl (by decide) rfl (fun ls hl => ?_)
  have loop4 : ∀ (n4 k4 : Nat), k4 + n4 = 16 → ∀ (ls : Array Slot), lv_has ls 4 [(3, .int (nI k4)), (2, .int (tanT u ring k4)), (0, .ref (a 0)), (1, .int ring)] → W p l e ({ frames := 3, cells := 0, slots := 0, locals := 73 } : Room) s m ([.ref (a 0), .int ring] : List Value).toArray below meth c s.heap [] 0 0 (MQ below (roQ s.heap (some (.int (tanT u ring 16)))) ([.ref (a 0), .int ring] : List Value).toArray s 0 0 noA) (F0 m 4 ls []) := by
    intro n4
    induction n4 with
    | zero =>
      intro k4 hk4 ls hl
      obtain rfl : 16 = k4 := by omega
      refine lv_iload_n hx hb dX2_threadsAnswered_4 rfl (lv_at hl 0 rfl) ?_
      refine lv_bipush (v := 16) hx hb dX2_threadsAnswered_5 (by decide) ?_
      refine lv_icmp_ge (tgt := 28) hx hb dX2_threadsAnswered_7 (by decide) (fun _ => ?_) (fun h => absurd (by decide) h)
      refine lv_iload_n hx hb dX2_threadsAnswered_28 rfl (lv_at hl 1 rfl) ?_
      exact ro_iret hx hb hr hlocks hH dX2_threadsAnswered_29 rfl
    | succ n4 ih4 =>
      intro k4 hk4 ls hl
      have hlt4 : k4 < 16 := by omega
      refine lv_iload_n hx hb dX2_threadsAnswered_4 rfl (lv_at hl 0 rfl) ?_
      refine lv_bipush (v := 16) hx hb dX2_threadsAnswered_5 (by decide) ?_
      refine lv_icmp_ge (tgt := 28) hx hb dX2_threadsAnswered_7 (by decide) (fun h => absurd h (nI_ge hlt4 (by first | decide | omega))) (fun _ => ?_)
      refine lv_iload_n hx hb dX2_threadsAnswered_10 rfl (lv_at hl 1 rfl) ?_
      refine lv_aload_n hx hb dX2_threadsAnswered_11 rfl (lv_at hl 2 rfl) ?_
      refine lv_iload_n hx hb dX2_threadsAnswered_12 rfl (lv_at hl 0 rfl) ?_
      refine ro_V (ci := 2) (q0 := 0) (As := [.int (nI k4)]) (rest := [.int (tanT u ring k4)]) ⟨hx, hb, hml, hown, hts⟩ (c_X2_answering l D cA _ a u k4 (by omega) hP ) (cwV 1 hts gX2_threadsAnswered_X2_answering rfl rfl rfl (by decide +kernel) ⟨Nat.le_of_ble_eq_true rfl, Nat.le_of_ble_eq_true rfl⟩) hKN hP rfl rfl rfl hl.1 rfl (lv_room (Nat.le_of_ble_eq_true rfl)) dX2_threadsAnswered_13 ⟨Nat.zero_le _, Nat.zero_le _⟩ ?_
      refine lv_iload_n hx hb dX2_threadsAnswered_16 rfl (lv_at hl 3 rfl) ?_
      refine ro_SN (As := [.int (ansS u k4), .int ring]) (rest := [.int (tanT u ring k4)]) ⟨hx, hb, hml, hown, hts⟩ (c_X4_bit l D cA _ (ansS u k4) ring) (nestB 2 hts gX2_threadsAnswered_X4_bit_n70 rfl rfl rfl hKN.2 (by decide +kernel) (by decide +kernel) (by decide +kernel) ⟨Nat.le_of_ble_eq_true rfl, Nat.le_of_ble_eq_true rfl⟩) hKN rfl hl.1 rfl (lv_room (Nat.le_of_ble_eq_true rfl)) dX2_threadsAnswered_17 ⟨Nat.zero_le _, Nat.zero_le _⟩ ?_
      refine lv_iadd hx hb dX2_threadsAnswered_20 ?_
      refine lv_istore_n (lv' := [(2, .int ((tanT u ring k4) + (bitF (ansS u k4) ring))), (3, .int (nI k4)), (0, .ref (a 0)), (1, .int ring)]) hx hb dX2_threadsAnswered_21 rfl hl (by decide) rfl (fun ls hl => ?_)
      refine lv_iinc (v := (nI (k4 + 1))) (lv' := [(3, .int (nI (k4 + 1))), (2, .int ((tanT u ring k4) + (bitF (ansS u k4) ring))), (0, .ref (a 0)), (1, .int ring)]) hx hb dX2_threadsAnswered_22 hl (k := 1) rfl (nI_1 _) (by decide) rfl (fun ls hl => ?_)
      refine lv_goto (tgt := 4) hx hb dX2_threadsAnswered_25 (by decide) ?_
      have e_1 : (tanT u ring (k4 + 1)) = ((tanT u ring k4) + (bitF (ansS u k4) ring)) := rfl
      exact ih4 (k4 + 1) (by omega) ls (by rw [e_1]; exact (lv_sub hl [0, 1, 2, 3] rfl))
  exact loop4 16 0 (by omega) ls (lv_sub hl [0, 1, 2, 3] rfl)
theorem mX2_isWornOut_f21 : Cond.fieldLink RX2 21 "WireLoom$State" "settings" "[I" ∈ wsX2_isWornOut := by decide +kernel
set_option maxRecDepth 20000 in
theorem iX2_isWornOut_X2 : ∀ w ∈ wsX20, w ∈ wsX2_isWornOut := by decide +kernel
set_option maxHeartbeats 4000000 in
set_option maxRecDepth 100000 in
theorem c_X2_isWornOut (l : Launch) (D : va_G) (cA : Nat → ClassId) (H : Heap) (a : Nat → Nat) (u : SV) (r : Nat) (hr0 : r < 8) (hP0 : va_P D vwCl (wSt cA a u) H) : RO l yX2_isWornOut wsX2_isWornOut ({ frames := 2, cells := 0, slots := 0, locals := 44 } : Room) D cA [.ref (a 0), .int (nI r)] H (some (.int (wornS u r))) := by
  refine Met.ofW (cc := cX2_isWornOut) (maxL := 2) (ret := (some .boolean)) (by decide) rfl ?_
  intro p e s m args below meth c s₁ B hml hv
  obtain ⟨rfl, hH, hKN⟩ := hv
  have hK := hKN.1
  have hx := B.exec
  have hb := B.bytes
  have hr := B.returns
  have hts := atoms_spec (ws := wsX2_isWornOut) B.pre
  have hown : s.vm.findClass RX2 = some m.cls := findClass_of_methodNamed B.named
  have hlocks := B.notSynchronized
  subst hH
  have hH : s.heap = s.heap := rfl
  have hP := hP0
  have hl := lv_entry ([.ref (a 0), .int (nI r)] : List Value) (n := 2) (Nat.le_of_ble_eq_true rfl)
  rw [lg_entry_eq]
  generalize (lg_sl ([.ref (a 0), .int (nI r)] : List Value) ++ List.replicate (2 - (lg_sl ([.ref (a 0), .int (nI r)] : List Value)).length) Slot.unset).toArray = ls at hl ⊢
  have hl : lv_has ls 2 [(0, .ref (a 0)), (1, .int (nI r))] := hl
  refine lv_aload_n hx hb dX2_isWornOut_0 rfl (lv_at hl 0 rfl) ?_
  refine lv_iload_n hx hb dX2_isWornOut_1 rfl (lv_at hl 1 rfl) ?_
  refine ro_V (ci := 2) (q0 := 0) (As := [.int (nI r)]) (rest := []) ⟨hx, hb, hml, hown, hts⟩ (c_X2_threadsThrough l D cA _ a u (nI r) hP ) (cwV 1 hts gX2_isWornOut_X2_threadsThrough rfl rfl rfl (by decide +kernel) ⟨Nat.le_of_ble_eq_true rfl, Nat.le_of_ble_eq_true rfl⟩) hKN hP rfl rfl rfl hl.1 rfl (lv_room (Nat.le_of_ble_eq_true rfl)) dX2_isWornOut_2 ⟨Nat.zero_le _, Nat.zero_le _⟩ ?_
  refine lv_if_eq (tgt := 27) hx hb dX2_isWornOut_5 (by decide) (fun c_5 => ?_) (fun c_5 => ?_)
  · refine lv_iconst (v := 0) hx hb dX2_isWornOut_27 (by decide) ?_
    exact ro_zret hx hb hr hlocks hH dX2_isWornOut_28 rfl (by simp [wornS, c_5])
  · refine lv_aload_n hx hb dX2_isWornOut_8 rfl (lv_at hl 0 rfl) ?_
    refine lv_iload_n hx hb dX2_isWornOut_9 rfl (lv_at hl 1 rfl) ?_
    refine lv_iconst (v := 0) hx hb dX2_isWornOut_10 (by decide) ?_
    refine ro_V (ci := 2) (q0 := 0) (As := [.int (nI r), .int 0]) (rest := []) ⟨hx, hb, hml, hown, hts⟩ (c_X2_strengthAt l D cA _ a u r (by omega) 0 hP ) (cwV 2 hts gX2_isWornOut_X2_strengthAt rfl rfl rfl (by decide +kernel) ⟨Nat.le_of_ble_eq_true rfl, Nat.le_of_ble_eq_true rfl⟩) hKN hP rfl rfl rfl hl.1 rfl (lv_room (Nat.le_of_ble_eq_true rfl)) dX2_isWornOut_11 ⟨Nat.zero_le _, Nat.zero_le _⟩ ?_
    refine lv_aload_n hx hb dX2_isWornOut_14 rfl (lv_at hl 0 rfl) ?_
    refine va_get (D := D) (ci := 2) (v := .ref (a 4)) (C := RX2) (T := TX2) (N := 8) hx hb hts iX2_isWornOut_X2 hown hK hP 0 rfl rfl 3 (by decide) (hts _ mX2_isWornOut_f21) (fun _ h9 => h9) rfl dX2_isWornOut_15 ?_
    refine lv_iconst (v := 0) hx hb dX2_isWornOut_18 (by decide) ?_
    refine lz_iald (k := 0) (f := u.2.2.2.1) hx hb hK hP 4 0 rfl rfl ⟨by decide, by decide⟩ dX2_isWornOut_19 ?_
    refine lv_icmp_ge (tgt := 27) hx hb dX2_isWornOut_20 (by decide) (fun c_20 => ?_) (fun c_20 => ?_)
    · refine lv_iconst (v := 0) hx hb dX2_isWornOut_27 (by decide) ?_
      exact ro_zret hx hb hr hlocks hH dX2_isWornOut_28 rfl (by simp [wornS, c_5, c_20])
    · refine lv_iconst (v := 1) hx hb dX2_isWornOut_23 (by decide) ?_
      refine lv_goto (tgt := 28) hx hb dX2_isWornOut_24 (by decide) ?_
      exact ro_zret hx hb hr hlocks hH dX2_isWornOut_28 rfl (by simp [wornS, c_5, c_20])
theorem mX2_threadsRight_f9 : Cond.fieldLink RX2 9 "WireLoom$State" "rings" "[I" ∈ wsX2_threadsRight := by decide +kernel
set_option maxRecDepth 20000 in
theorem iX2_threadsRight_X2 : ∀ w ∈ wsX20, w ∈ wsX2_threadsRight := by decide +kernel
set_option maxHeartbeats 4000000 in
set_option maxRecDepth 100000 in
theorem c_X2_threadsRight (l : Launch) (D : va_G) (cA : Nat → ClassId) (H : Heap) (a : Nat → Nat) (u : SV) (hP0 : va_P D vwCl (wSt cA a u) H) : RO l yX2_threadsRight wsX2_threadsRight ({ frames := 3, cells := 0, slots := 0, locals := 73 } : Room) D cA [.ref (a 0)] H (some (.int (rightT u 16))) := by
  refine Met.ofW (cc := cX2_threadsRight) (maxL := 3) (ret := (some .int)) (by decide) rfl ?_
  intro p e s m args below meth c s₁ B hml hv
  obtain ⟨rfl, hH, hKN⟩ := hv
  have hK := hKN.1
  have hx := B.exec
  have hb := B.bytes
  have hr := B.returns
  have hts := atoms_spec (ws := wsX2_threadsRight) B.pre
  have hown : s.vm.findClass RX2 = some m.cls := findClass_of_methodNamed B.named
  have hlocks := B.notSynchronized
  subst hH
  have hH : s.heap = s.heap := rfl
  have hP := hP0
  have hl := lv_entry ([.ref (a 0)] : List Value) (n := 3) (Nat.le_of_ble_eq_true rfl)
  rw [lg_entry_eq]
  generalize (lg_sl ([.ref (a 0)] : List Value) ++ List.replicate (3 - (lg_sl ([.ref (a 0)] : List Value)).length) Slot.unset).toArray = ls at hl ⊢
  have hl : lv_has ls 3 [(0, .ref (a 0))] := hl
  refine lv_iconst (v := 0) hx hb dX2_threadsRight_0 (by decide) ?_
  refine lv_istore_n (lv' := [(1, .int 0), (0, .ref (a 0))]) hx hb dX2_threadsRight_1 rfl hl (by decide) rfl (fun ls hl => ?_)
  refine lv_iconst (v := 0) hx hb dX2_threadsRight_2 (by decide) ?_
  refine lv_istore_n (lv' := [(2, .int 0), (1, .int 0), (0, .ref (a 0))]) hx hb dX2_threadsRight_3 rfl hl (by decide) rfl (fun ls hl => ?_)
  have loop4 : ∀ (n4 k4 : Nat), k4 + n4 = 16 → ∀ (ls : Array Slot), lv_has ls 3 [(2, .int (nI k4)), (1, .int (rightT u k4)), (0, .ref (a 0))] → W p l e ({ frames := 3, cells := 0, slots := 0, locals := 73 } : Room) s m ([.ref (a 0)] : List Value).toArray below meth c s.heap [] 0 0 (MQ below (roQ s.heap (some (.int (rightT u 16)))) ([.ref (a 0)] : List Value).toArray s 0 0 noA) (F0 m 4 ls []) := by
    intro n4
    induction n4 with
    | zero =>
      intro k4 hk4 ls hl
      obtain rfl : 16 = k4 := by omega
      refine lv_iload_n hx hb dX2_threadsRight_4 rfl (lv_at hl 0 rfl) ?_
      refine lv_bipush (v := 16) hx hb dX2_threadsRight_5 (by decide) ?_
      refine lv_icmp_ge (tgt := 33) hx hb dX2_threadsRight_7 (by decide) (fun _ => ?_) (fun h => absurd (by decide) h)
      refine lv_iload_n hx hb dX2_threadsRight_33 rfl (lv_at hl 1 rfl) ?_
      exact ro_iret hx hb hr hlocks hH dX2_threadsRight_34 rfl
    | succ n4 ih4 =>
      intro k4 hk4 ls hl
      have hlt4 : k4 < 16 := by omega
      refine lv_iload_n hx hb dX2_threadsRight_4 rfl (lv_at hl 0 rfl) ?_
      refine lv_bipush (v := 16) hx hb dX2_threadsRight_5 (by decide) ?_
      refine lv_icmp_ge (tgt := 33) hx hb dX2_threadsRight_7 (by decide) (fun h => absurd h (nI_ge hlt4 (by first | decide | omega))) (fun _ => ?_)
      refine lv_aload_n hx hb dX2_threadsRight_10 rfl (lv_at hl 2 rfl) ?_
      refine lv_iload_n hx hb dX2_threadsRight_11 rfl (lv_at hl 0 rfl) ?_
      refine ro_V (ci := 2) (q0 := 0) (As := [.int (nI k4)]) (rest := []) ⟨hx, hb, hml, hown, hts⟩ (c_X2_answering l D cA _ a u k4 (by omega) hP ) (cwV 1 hts gX2_threadsRight_X2_answering rfl rfl rfl (by decide +kernel) ⟨Nat.le_of_ble_eq_true rfl, Nat.le_of_ble_eq_true rfl⟩) hKN hP rfl rfl rfl hl.1 rfl (lv_room (Nat.le_of_ble_eq_true rfl)) dX2_threadsRight_12 ⟨Nat.zero_le _, Nat.zero_le _⟩ ?_
      refine lv_aload_n hx hb dX2_threadsRight_15 rfl (lv_at hl 2 rfl) ?_
      refine va_get (D := D) (ci := 2) (v := .ref (a 1)) (C := RX2) (T := TX2) (N := 8) hx hb hts iX2_threadsRight_X2 hown hK hP 0 rfl rfl 0 (by decide) (hts _ mX2_threadsRight_f9) (fun _ h9 => h9) rfl dX2_threadsRight_16 ?_
      refine lv_iload_n hx hb dX2_threadsRight_19 rfl (lv_at hl 0 rfl) ?_
      refine lz_iald (k := k4) (f := u.1) hx hb hK hP 1 0 rfl rfl ⟨by omega, by decide⟩ dX2_threadsRight_20 ?_
      refine lv_icmp_ne (tgt := 27) hx hb dX2_threadsRight_21 (by decide) (fun c_21 => ?_) (fun c_21 => ?_)
      · refine lv_iinc (v := (nI (k4 + 1))) (lv' := [(2, .int (nI (k4 + 1))), (1, .int (rightT u k4)), (0, .ref (a 0))]) hx hb dX2_threadsRight_27 hl (k := 0) rfl (nI_1 _) (by decide) rfl (fun ls hl => ?_)
        refine lv_goto (tgt := 4) hx hb dX2_threadsRight_30 (by decide) ?_
        have e_1 : (rightT u (k4 + 1)) = (rightT u k4) := by rw [rightT_succ] <;> simp only [c_21, if_true, if_false]
        exact ih4 (k4 + 1) (by omega) ls (by rw [e_1]; exact (lv_sub hl [0, 1, 2] rfl))
      · refine lv_iinc (v := ((rightT u k4) + 1)) (lv' := [(1, .int ((rightT u k4) + 1)), (2, .int (nI k4)), (0, .ref (a 0))]) hx hb dX2_threadsRight_24 hl (k := 1) rfl rfl (by decide) rfl (fun ls hl => ?_)
        refine lv_iinc (v := (nI (k4 + 1))) (lv' := [(2, .int (nI (k4 + 1))), (1, .int ((rightT u k4) + 1)), (0, .ref (a 0))]) hx hb dX2_threadsRight_27 hl (k := 1) rfl (nI_1 _) (by decide) rfl (fun ls hl => ?_)
        refine lv_goto (tgt := 4) hx hb dX2_threadsRight_30 (by decide) ?_
        have e_3 : (rightT u (k4 + 1)) = ((rightT u k4) + 1) := by rw [rightT_succ] <;> simp only [c_21, if_true, if_false]
        exact ih4 (k4 + 1) (by omega) ls (by rw [e_3]; exact (lv_sub hl [0, 1, 2] rfl))
  exact loop4 16 0 (by omega) ls (lv_sub hl [0, 1, 2] rfl)
theorem mX2_crossingsByThreads_f9 : Cond.fieldLink RX2 9 "WireLoom$State" "rings" "[I" ∈ wsX2_crossingsByThreads := by decide +kernel
set_option maxRecDepth 20000 in
theorem iX2_crossingsByThreads_X2 : ∀ w ∈ wsX20, w ∈ wsX2_crossingsByThreads := by decide +kernel
set_option maxHeartbeats 4000000 in
set_option maxRecDepth 100000 in
theorem c_X2_crossingsByThreads (l : Launch) (D : va_G) (cA : Nat → ClassId) (H : Heap) (a : Nat → Nat) (u : SV) (hP0 : va_P D vwCl (wSt cA a u) H) : RO l yX2_crossingsByThreads wsX2_crossingsByThreads ({ frames := 1, cells := 0, slots := 0, locals := 20 } : Room) D cA [.ref (a 0)] H (some (.int (cbtT u 16))) := by
  refine Met.ofW (cc := cX2_crossingsByThreads) (maxL := 3) (ret := (some .int)) (by decide) rfl ?_
  intro p e s m args below meth c s₁ B hml hv
  obtain ⟨rfl, hH, hKN⟩ := hv
  have hK := hKN.1
  have hx := B.exec
  have hb := B.bytes
  have hr := B.returns
  have hts := atoms_spec (ws := wsX2_crossingsByThreads) B.pre
  have hown : s.vm.findClass RX2 = some m.cls := findClass_of_methodNamed B.named
  have hlocks := B.notSynchronized
  subst hH
  have hH : s.heap = s.heap := rfl
  have hP := hP0
  have hl := lv_entry ([.ref (a 0)] : List Value) (n := 3) (Nat.le_of_ble_eq_true rfl)
  rw [lg_entry_eq]
  generalize (lg_sl ([.ref (a 0)] : List Value) ++ List.replicate (3 - (lg_sl ([.ref (a 0)] : List Value)).length) Slot.unset).toArray = ls at hl ⊢
  have hl : lv_has ls 3 [(0, .ref (a 0))] := hl
  refine lv_iconst (v := 0) hx hb dX2_crossingsByThreads_0 (by decide) ?_
  refine lv_istore_n (lv' := [(1, .int 0), (0, .ref (a 0))]) hx hb dX2_crossingsByThreads_1 rfl hl (by decide) rfl (fun ls hl => ?_)
  refine lv_iconst (v := 0) hx hb dX2_crossingsByThreads_2 (by decide) ?_
  refine lv_istore_n (lv' := [(2, .int 0), (1, .int 0), (0, .ref (a 0))]) hx hb dX2_crossingsByThreads_3 rfl hl (by decide) rfl (fun ls hl => ?_)
  have loop4 : ∀ (n4 k4 : Nat), k4 + n4 = 16 → ∀ (ls : Array Slot), lv_has ls 3 [(2, .int (nI k4)), (1, .int (cbtT u k4)), (0, .ref (a 0))] → W p l e ({ frames := 1, cells := 0, slots := 0, locals := 20 } : Room) s m ([.ref (a 0)] : List Value).toArray below meth c s.heap [] 0 0 (MQ below (roQ s.heap (some (.int (cbtT u 16)))) ([.ref (a 0)] : List Value).toArray s 0 0 noA) (F0 m 4 ls []) := by
    intro n4
    induction n4 with
    | zero =>
      intro k4 hk4 ls hl
      obtain rfl : 16 = k4 := by omega
      refine lv_iload_n hx hb dX2_crossingsByThreads_4 rfl (lv_at hl 0 rfl) ?_
      refine lv_bipush (v := 16) hx hb dX2_crossingsByThreads_5 (by decide) ?_
      refine lv_icmp_ge (tgt := 28) hx hb dX2_crossingsByThreads_7 (by decide) (fun _ => ?_) (fun h => absurd (by decide) h)
      refine lv_iload_n hx hb dX2_crossingsByThreads_28 rfl (lv_at hl 1 rfl) ?_
      exact ro_iret hx hb hr hlocks hH dX2_crossingsByThreads_29 rfl
    | succ n4 ih4 =>
      intro k4 hk4 ls hl
      have hlt4 : k4 < 16 := by omega
      refine lv_iload_n hx hb dX2_crossingsByThreads_4 rfl (lv_at hl 0 rfl) ?_
      refine lv_bipush (v := 16) hx hb dX2_crossingsByThreads_5 (by decide) ?_
      refine lv_icmp_ge (tgt := 28) hx hb dX2_crossingsByThreads_7 (by decide) (fun h => absurd h (nI_ge hlt4 (by first | decide | omega))) (fun _ => ?_)
      refine lv_iload_n hx hb dX2_crossingsByThreads_10 rfl (lv_at hl 1 rfl) ?_
      refine lv_aload_n hx hb dX2_crossingsByThreads_11 rfl (lv_at hl 2 rfl) ?_
      refine va_get (D := D) (ci := 2) (v := .ref (a 1)) (C := RX2) (T := TX2) (N := 8) hx hb hts iX2_crossingsByThreads_X2 hown hK hP 0 rfl rfl 0 (by decide) (hts _ mX2_crossingsByThreads_f9) (fun _ h9 => h9) rfl dX2_crossingsByThreads_12 ?_
      refine lv_iload_n hx hb dX2_crossingsByThreads_15 rfl (lv_at hl 0 rfl) ?_
      refine lz_iald (k := k4) (f := u.1) hx hb hK hP 1 0 rfl rfl ⟨by omega, by decide⟩ dX2_crossingsByThreads_16 ?_
      refine ro_S (As := [.int (u.1 k4)]) (rest := [.int (cbtT u k4)]) ⟨hx, hb, hml, hown, hts⟩ (c_J6_bitCount_0f7a4 l D cA _ (u.1 k4)) (cwS2 1 hts gX2_crossingsByThreads_J6_bitCount_0f7a4 rfl rfl rfl (by decide +kernel) ⟨Nat.le_of_ble_eq_true rfl, Nat.le_of_ble_eq_true rfl⟩) hKN rfl hl.1 rfl (lv_room (Nat.le_of_ble_eq_true rfl)) dX2_crossingsByThreads_17 ⟨Nat.zero_le _, Nat.zero_le _⟩ ?_
      refine lv_iadd hx hb dX2_crossingsByThreads_20 ?_
      refine lv_istore_n (lv' := [(1, .int ((cbtT u k4) + (bcF (u.1 k4)))), (2, .int (nI k4)), (0, .ref (a 0))]) hx hb dX2_crossingsByThreads_21 rfl hl (by decide) rfl (fun ls hl => ?_)
      refine lv_iinc (v := (nI (k4 + 1))) (lv' := [(2, .int (nI (k4 + 1))), (1, .int ((cbtT u k4) + (bcF (u.1 k4)))), (0, .ref (a 0))]) hx hb dX2_crossingsByThreads_22 hl (k := 1) rfl (nI_1 _) (by decide) rfl (fun ls hl => ?_)
      refine lv_goto (tgt := 4) hx hb dX2_crossingsByThreads_25 (by decide) ?_
      have e_1 : (cbtT u (k4 + 1)) = ((cbtT u k4) + (bcF (u.1 k4))) := rfl
      exact ih4 (k4 + 1) (by omega) ls (by rw [e_1]; exact (lv_sub hl [0, 1, 2] rfl))
  exact loop4 16 0 (by omega) ls (lv_sub hl [0, 1, 2] rfl)
set_option maxHeartbeats 4000000 in
set_option maxRecDepth 100000 in
theorem c_X2_crossingsByRings (l : Launch) (D : va_G) (cA : Nat → ClassId) (H : Heap) (a : Nat → Nat) (u : SV) (hP0 : va_P D vwCl (wSt cA a u) H) : RO l yX2_crossingsByRings wsX2_crossingsByRings ({ frames := 2, cells := 0, slots := 0, locals := 44 } : Room) D cA [.ref (a 0)] H (some (.int (cbrT u 8))) := by
  refine Met.ofW (cc := cX2_crossingsByRings) (maxL := 3) (ret := (some .int)) (by decide) rfl ?_
  intro p e s m args below meth c s₁ B hml hv
  obtain ⟨rfl, hH, hKN⟩ := hv
  have hK := hKN.1
  have hx := B.exec
  have hb := B.bytes
  have hr := B.returns
  have hts := atoms_spec (ws := wsX2_crossingsByRings) B.pre
  have hown : s.vm.findClass RX2 = some m.cls := findClass_of_methodNamed B.named
  have hlocks := B.notSynchronized
  subst hH
  have hH : s.heap = s.heap := rfl
  have hP := hP0
  have hl := lv_entry ([.ref (a 0)] : List Value) (n := 3) (Nat.le_of_ble_eq_true rfl)
  rw [lg_entry_eq]
  generalize (lg_sl ([.ref (a 0)] : List Value) ++ List.replicate (3 - (lg_sl ([.ref (a 0)] : List Value)).length) Slot.unset).toArray = ls at hl ⊢
  have hl : lv_has ls 3 [(0, .ref (a 0))] := hl
  refine lv_iconst (v := 0) hx hb dX2_crossingsByRings_0 (by decide) ?_
  refine lv_istore_n (lv' := [(1, .int 0), (0, .ref (a 0))]) hx hb dX2_crossingsByRings_1 rfl hl (by decide) rfl (fun ls hl => ?_)
  refine lv_iconst (v := 0) hx hb dX2_crossingsByRings_2 (by decide) ?_
  refine lv_istore_n (lv' := [(2, .int 0), (1, .int 0), (0, .ref (a 0))]) hx hb dX2_crossingsByRings_3 rfl hl (by decide) rfl (fun ls hl => ?_)
  have loop4 : ∀ (n4 k4 : Nat), k4 + n4 = 8 → ∀ (ls : Array Slot), lv_has ls 3 [(2, .int (nI k4)), (1, .int (cbrT u k4)), (0, .ref (a 0))] → W p l e ({ frames := 2, cells := 0, slots := 0, locals := 44 } : Room) s m ([.ref (a 0)] : List Value).toArray below meth c s.heap [] 0 0 (MQ below (roQ s.heap (some (.int (cbrT u 8)))) ([.ref (a 0)] : List Value).toArray s 0 0 noA) (F0 m 4 ls []) := by
    intro n4
    induction n4 with
    | zero =>
      intro k4 hk4 ls hl
      obtain rfl : 8 = k4 := by omega
      refine lv_iload_n hx hb dX2_crossingsByRings_4 rfl (lv_at hl 0 rfl) ?_
      refine lv_bipush (v := 8) hx hb dX2_crossingsByRings_5 (by decide) ?_
      refine lv_icmp_ge (tgt := 27) hx hb dX2_crossingsByRings_7 (by decide) (fun _ => ?_) (fun h => absurd (by decide) h)
      refine lv_iload_n hx hb dX2_crossingsByRings_27 rfl (lv_at hl 1 rfl) ?_
      exact ro_iret hx hb hr hlocks hH dX2_crossingsByRings_28 rfl
    | succ n4 ih4 =>
      intro k4 hk4 ls hl
      have hlt4 : k4 < 8 := by omega
      refine lv_iload_n hx hb dX2_crossingsByRings_4 rfl (lv_at hl 0 rfl) ?_
      refine lv_bipush (v := 8) hx hb dX2_crossingsByRings_5 (by decide) ?_
      refine lv_icmp_ge (tgt := 27) hx hb dX2_crossingsByRings_7 (by decide) (fun h => absurd h (nI_ge hlt4 (by first | decide | omega))) (fun _ => ?_)
      refine lv_iload_n hx hb dX2_crossingsByRings_10 rfl (lv_at hl 1 rfl) ?_
      refine lv_aload_n hx hb dX2_crossingsByRings_11 rfl (lv_at hl 2 rfl) ?_
      refine lv_iload_n hx hb dX2_crossingsByRings_12 rfl (lv_at hl 0 rfl) ?_
      refine ro_V (ci := 2) (q0 := 0) (As := [.int (nI k4)]) (rest := [.int (cbrT u k4)]) ⟨hx, hb, hml, hown, hts⟩ (c_X2_threadsThrough l D cA _ a u (nI k4) hP ) (cwV 1 hts gX2_crossingsByRings_X2_threadsThrough rfl rfl rfl (by decide +kernel) ⟨Nat.le_of_ble_eq_true rfl, Nat.le_of_ble_eq_true rfl⟩) hKN hP rfl rfl rfl hl.1 rfl (lv_room (Nat.le_of_ble_eq_true rfl)) dX2_crossingsByRings_13 ⟨Nat.zero_le _, Nat.zero_le _⟩ ?_
      refine ro_S (As := [.int (thrS u (nI k4))]) (rest := [.int (cbrT u k4)]) ⟨hx, hb, hml, hown, hts⟩ (c_J6_bitCount_0f7a4 l D cA _ (thrS u (nI k4))) (cwS2 1 hts gX2_crossingsByRings_J6_bitCount_0f7a4 rfl rfl rfl (by decide +kernel) ⟨Nat.le_of_ble_eq_true rfl, Nat.le_of_ble_eq_true rfl⟩) hKN rfl hl.1 rfl (lv_room (Nat.le_of_ble_eq_true rfl)) dX2_crossingsByRings_16 ⟨Nat.zero_le _, Nat.zero_le _⟩ ?_
      refine lv_iadd hx hb dX2_crossingsByRings_19 ?_
      refine lv_istore_n (lv' := [(1, .int ((cbrT u k4) + (bcF (thrS u (nI k4))))), (2, .int (nI k4)), (0, .ref (a 0))]) hx hb dX2_crossingsByRings_20 rfl hl (by decide) rfl (fun ls hl => ?_)
      refine lv_iinc (v := (nI (k4 + 1))) (lv' := [(2, .int (nI (k4 + 1))), (1, .int ((cbrT u k4) + (bcF (thrS u (nI k4))))), (0, .ref (a 0))]) hx hb dX2_crossingsByRings_21 hl (k := 1) rfl (nI_1 _) (by decide) rfl (fun ls hl => ?_)
      refine lv_goto (tgt := 4) hx hb dX2_crossingsByRings_24 (by decide) ?_
      have e_1 : (cbrT u (k4 + 1)) = ((cbrT u k4) + (bcF (thrS u (nI k4)))) := rfl
      exact ih4 (k4 + 1) (by omega) ls (by rw [e_1]; exact (lv_sub hl [0, 1, 2] rfl))
  exact loop4 8 0 (by omega) ls (lv_sub hl [0, 1, 2] rfl)
theorem mX2_greatestWear_f18 : Cond.fieldLink RX2 18 "WireLoom$State" "wear" "[I" ∈ wsX2_greatestWear := by decide +kernel
theorem mX2_greatestWear_p99 : Cond.methodLink RX2 99 Lib.Math.max.name ∈ wsX2_greatestWear := by decide +kernel
theorem mX2_greatestWear_st_max : Cond.static Lib.Math.max.name ∈ wsX2_greatestWear := by decide +kernel
theorem mX2_greatestWear_iniMath : Cond.initialized "java/lang/Math" ∈ wsX2_greatestWear := by decide +kernel
theorem mX2_greatestWear_co_max : Cond.code Lib.Math.max.name Lib.Math.max.code 2 (some .int) ∈ wsX2_greatestWear := by decide +kernel
set_option maxRecDepth 20000 in
theorem iX2_greatestWear_X2 : ∀ w ∈ wsX20, w ∈ wsX2_greatestWear := by decide +kernel
set_option maxHeartbeats 4000000 in
set_option maxRecDepth 100000 in
theorem c_X2_greatestWear (l : Launch) (D : va_G) (cA : Nat → ClassId) (H : Heap) (a : Nat → Nat) (u : SV) (hP0 : va_P D vwCl (wSt cA a u) H) : RO l yX2_greatestWear wsX2_greatestWear ({ frames := 1, cells := 0, slots := 0, locals := 13 } : Room) D cA [.ref (a 0)] H (some (.int (gwT u 8))) := by
  refine Met.ofW (cc := cX2_greatestWear) (maxL := 3) (ret := (some .int)) (by decide) rfl ?_
  intro p e s m args below meth c s₁ B hml hv
  obtain ⟨rfl, hH, hKN⟩ := hv
  have hK := hKN.1
  have hx := B.exec
  have hb := B.bytes
  have hr := B.returns
  have hts := atoms_spec (ws := wsX2_greatestWear) B.pre
  have hown : s.vm.findClass RX2 = some m.cls := findClass_of_methodNamed B.named
  have hlocks := B.notSynchronized
  subst hH
  have hH : s.heap = s.heap := rfl
  have hP := hP0
  have hl := lv_entry ([.ref (a 0)] : List Value) (n := 3) (Nat.le_of_ble_eq_true rfl)
  rw [lg_entry_eq]
  generalize (lg_sl ([.ref (a 0)] : List Value) ++ List.replicate (3 - (lg_sl ([.ref (a 0)] : List Value)).length) Slot.unset).toArray = ls at hl ⊢
  have hl : lv_has ls 3 [(0, .ref (a 0))] := hl
  refine lv_iconst (v := 0) hx hb dX2_greatestWear_0 (by decide) ?_
  refine lv_istore_n (lv' := [(1, .int 0), (0, .ref (a 0))]) hx hb dX2_greatestWear_1 rfl hl (by decide) rfl (fun ls hl => ?_)
  refine lv_iconst (v := 0) hx hb dX2_greatestWear_2 (by decide) ?_
  refine lv_istore_n (lv' := [(2, .int 0), (1, .int 0), (0, .ref (a 0))]) hx hb dX2_greatestWear_3 rfl hl (by decide) rfl (fun ls hl => ?_)
  have loop4 : ∀ (n4 k4 : Nat), k4 + n4 = 8 → ∀ (ls : Array Slot), lv_has ls 3 [(2, .int (nI k4)), (1, .int (gwT u k4)), (0, .ref (a 0))] → W p l e ({ frames := 1, cells := 0, slots := 0, locals := 13 } : Room) s m ([.ref (a 0)] : List Value).toArray below meth c s.heap [] 0 0 (MQ below (roQ s.heap (some (.int (gwT u 8)))) ([.ref (a 0)] : List Value).toArray s 0 0 noA) (F0 m 4 ls []) := by
    intro n4
    induction n4 with
    | zero =>
      intro k4 hk4 ls hl
      obtain rfl : 8 = k4 := by omega
      refine lv_iload_n hx hb dX2_greatestWear_4 rfl (lv_at hl 0 rfl) ?_
      refine lv_bipush (v := 8) hx hb dX2_greatestWear_5 (by decide) ?_
      refine lv_icmp_ge (tgt := 27) hx hb dX2_greatestWear_7 (by decide) (fun _ => ?_) (fun h => absurd (by decide) h)
      refine lv_iload_n hx hb dX2_greatestWear_27 rfl (lv_at hl 1 rfl) ?_
      exact ro_iret hx hb hr hlocks hH dX2_greatestWear_28 rfl
    | succ n4 ih4 =>
      intro k4 hk4 ls hl
      have hlt4 : k4 < 8 := by omega
      refine lv_iload_n hx hb dX2_greatestWear_4 rfl (lv_at hl 0 rfl) ?_
      refine lv_bipush (v := 8) hx hb dX2_greatestWear_5 (by decide) ?_
      refine lv_icmp_ge (tgt := 27) hx hb dX2_greatestWear_7 (by decide) (fun h => absurd h (nI_ge hlt4 (by first | decide | omega))) (fun _ => ?_)
      refine lv_iload_n hx hb dX2_greatestWear_10 rfl (lv_at hl 1 rfl) ?_
      refine lv_aload_n hx hb dX2_greatestWear_11 rfl (lv_at hl 2 rfl) ?_
      refine va_get (D := D) (ci := 2) (v := .ref (a 3)) (C := RX2) (T := TX2) (N := 8) hx hb hts iX2_greatestWear_X2 hown hK hP 0 rfl rfl 2 (by decide) (hts _ mX2_greatestWear_f18) (fun _ h9 => h9) rfl dX2_greatestWear_12 ?_
      refine lv_iload_n hx hb dX2_greatestWear_15 rfl (lv_at hl 0 rfl) ?_
      refine lz_iald (k := k4) (f := u.2.2.1) hx hb hK hP 3 0 rfl rfl ⟨by omega, by decide⟩ dX2_greatestWear_16 ?_
      refine va_mmax hx hb (hml.trans hl.1.symm) hown (hts _ mX2_greatestWear_p99) (hts _ mX2_greatestWear_st_max) (hts _ mX2_greatestWear_iniMath) (hts _ mX2_greatestWear_co_max) (by decide) (by decide) (Nat.zero_le _) (Nat.zero_le _) dX2_greatestWear_17 ?_
      refine lz_top (v := (maxF (gwT u k4) (u.2.2.1 k4))) rfl ?_
      refine lv_istore_n (lv' := [(1, .int (maxF (gwT u k4) (u.2.2.1 k4))), (2, .int (nI k4)), (0, .ref (a 0))]) hx hb dX2_greatestWear_20 rfl hl (by decide) rfl (fun ls hl => ?_)
      refine lv_iinc (v := (nI (k4 + 1))) (lv' := [(2, .int (nI (k4 + 1))), (1, .int (maxF (gwT u k4) (u.2.2.1 k4))), (0, .ref (a 0))]) hx hb dX2_greatestWear_21 hl (k := 1) rfl (nI_1 _) (by decide) rfl (fun ls hl => ?_)
      refine lv_goto (tgt := 4) hx hb dX2_greatestWear_24 (by decide) ?_
      have e_1 : (gwT u (k4 + 1)) = (maxF (gwT u k4) (u.2.2.1 k4)) := rfl
      exact ih4 (k4 + 1) (by omega) ls (by rw [e_1]; exact (lv_sub hl [0, 1, 2] rfl))
  exact loop4 8 0 (by omega) ls (lv_sub hl [0, 1, 2] rfl)
theorem mX2_wearOfAll_f18 : Cond.fieldLink RX2 18 "WireLoom$State" "wear" "[I" ∈ wsX2_wearOfAll := by decide +kernel
set_option maxRecDepth 20000 in
theorem iX2_wearOfAll_X2 : ∀ w ∈ wsX20, w ∈ wsX2_wearOfAll := by decide +kernel
set_option maxHeartbeats 4000000 in
set_option maxRecDepth 100000 in
theorem c_X2_wearOfAll (l : Launch) (D : va_G) (cA : Nat → ClassId) (H : Heap) (a : Nat → Nat) (u : SV) (hP0 : va_P D vwCl (wSt cA a u) H) : RO l yX2_wearOfAll wsX2_wearOfAll ({ frames := 0, cells := 0, slots := 0, locals := 0 } : Room) D cA [.ref (a 0)] H (some (.int (woaT u 8))) := by
  refine Met.ofW (cc := cX2_wearOfAll) (maxL := 3) (ret := (some .int)) (by decide) rfl ?_
  intro p e s m args below meth c s₁ B hml hv
  obtain ⟨rfl, hH, hKN⟩ := hv
  have hK := hKN.1
  have hx := B.exec
  have hb := B.bytes
  have hr := B.returns
  have hts := atoms_spec (ws := wsX2_wearOfAll) B.pre
  have hown : s.vm.findClass RX2 = some m.cls := findClass_of_methodNamed B.named
  have hlocks := B.notSynchronized
  subst hH
  have hH : s.heap = s.heap := rfl
  have hP := hP0
  have hl := lv_entry ([.ref (a 0)] : List Value) (n := 3) (Nat.le_of_ble_eq_true rfl)
  rw [lg_entry_eq]
  generalize (lg_sl ([.ref (a 0)] : List Value) ++ List.replicate (3 - (lg_sl ([.ref (a 0)] : List Value)).length) Slot.unset).toArray = ls at hl ⊢
  have hl : lv_has ls 3 [(0, .ref (a 0))] := hl
  refine lv_iconst (v := 0) hx hb dX2_wearOfAll_0 (by decide) ?_
  refine lv_istore_n (lv' := [(1, .int 0), (0, .ref (a 0))]) hx hb dX2_wearOfAll_1 rfl hl (by decide) rfl (fun ls hl => ?_)
  refine lv_iconst (v := 0) hx hb dX2_wearOfAll_2 (by decide) ?_
  refine lv_istore_n (lv' := [(2, .int 0), (1, .int 0), (0, .ref (a 0))]) hx hb dX2_wearOfAll_3 rfl hl (by decide) rfl (fun ls hl => ?_)
  have loop4 : ∀ (n4 k4 : Nat), k4 + n4 = 8 → ∀ (ls : Array Slot), lv_has ls 3 [(2, .int (nI k4)), (1, .int (woaT u k4)), (0, .ref (a 0))] → W p l e ({ frames := 0, cells := 0, slots := 0, locals := 0 } : Room) s m ([.ref (a 0)] : List Value).toArray below meth c s.heap [] 0 0 (MQ below (roQ s.heap (some (.int (woaT u 8)))) ([.ref (a 0)] : List Value).toArray s 0 0 noA) (F0 m 4 ls []) := by
    intro n4
    induction n4 with
    | zero =>
      intro k4 hk4 ls hl
      obtain rfl : 8 = k4 := by omega
      refine lv_iload_n hx hb dX2_wearOfAll_4 rfl (lv_at hl 0 rfl) ?_
      refine lv_bipush (v := 8) hx hb dX2_wearOfAll_5 (by decide) ?_
      refine lv_icmp_ge (tgt := 25) hx hb dX2_wearOfAll_7 (by decide) (fun _ => ?_) (fun h => absurd (by decide) h)
      refine lv_iload_n hx hb dX2_wearOfAll_25 rfl (lv_at hl 1 rfl) ?_
      exact ro_iret hx hb hr hlocks hH dX2_wearOfAll_26 rfl
    | succ n4 ih4 =>
      intro k4 hk4 ls hl
      have hlt4 : k4 < 8 := by omega
      refine lv_iload_n hx hb dX2_wearOfAll_4 rfl (lv_at hl 0 rfl) ?_
      refine lv_bipush (v := 8) hx hb dX2_wearOfAll_5 (by decide) ?_
      refine lv_icmp_ge (tgt := 25) hx hb dX2_wearOfAll_7 (by decide) (fun h => absurd h (nI_ge hlt4 (by first | decide | omega))) (fun _ => ?_)
      refine lv_iload_n hx hb dX2_wearOfAll_10 rfl (lv_at hl 1 rfl) ?_
      refine lv_aload_n hx hb dX2_wearOfAll_11 rfl (lv_at hl 2 rfl) ?_
      refine va_get (D := D) (ci := 2) (v := .ref (a 3)) (C := RX2) (T := TX2) (N := 8) hx hb hts iX2_wearOfAll_X2 hown hK hP 0 rfl rfl 2 (by decide) (hts _ mX2_wearOfAll_f18) (fun _ h9 => h9) rfl dX2_wearOfAll_12 ?_
      refine lv_iload_n hx hb dX2_wearOfAll_15 rfl (lv_at hl 0 rfl) ?_
      refine lz_iald (k := k4) (f := u.2.2.1) hx hb hK hP 3 0 rfl rfl ⟨by omega, by decide⟩ dX2_wearOfAll_16 ?_
      refine lv_iadd hx hb dX2_wearOfAll_17 ?_
      refine lv_istore_n (lv' := [(1, .int ((woaT u k4) + (u.2.2.1 k4))), (2, .int (nI k4)), (0, .ref (a 0))]) hx hb dX2_wearOfAll_18 rfl hl (by decide) rfl (fun ls hl => ?_)
      refine lv_iinc (v := (nI (k4 + 1))) (lv' := [(2, .int (nI (k4 + 1))), (1, .int ((woaT u k4) + (u.2.2.1 k4))), (0, .ref (a 0))]) hx hb dX2_wearOfAll_19 hl (k := 1) rfl (nI_1 _) (by decide) rfl (fun ls hl => ?_)
      refine lv_goto (tgt := 4) hx hb dX2_wearOfAll_22 (by decide) ?_
      have e_1 : (woaT u (k4 + 1)) = ((woaT u k4) + (u.2.2.1 k4)) := rfl
      exact ih4 (k4 + 1) (by omega) ls (by rw [e_1]; exact (lv_sub hl [0, 1, 2] rfl))
  exact loop4 8 0 (by omega) ls (lv_sub hl [0, 1, 2] rfl)
theorem mX2_fewestUnlikeBits_f9 : Cond.fieldLink RX2 9 "WireLoom$State" "rings" "[I" ∈ wsX2_fewestUnlikeBits := by decide +kernel
theorem mX2_fewestUnlikeBits_p74 : Cond.methodLink RX2 74 Lib.Math.min.name ∈ wsX2_fewestUnlikeBits := by decide +kernel
theorem mX2_fewestUnlikeBits_st_min : Cond.static Lib.Math.min.name ∈ wsX2_fewestUnlikeBits := by decide +kernel
theorem mX2_fewestUnlikeBits_iniMath : Cond.initialized "java/lang/Math" ∈ wsX2_fewestUnlikeBits := by decide +kernel
theorem mX2_fewestUnlikeBits_co_min : Cond.code Lib.Math.min.name Lib.Math.min.code 2 (some .int) ∈ wsX2_fewestUnlikeBits := by decide +kernel
set_option maxRecDepth 20000 in
theorem iX2_fewestUnlikeBits_X2 : ∀ w ∈ wsX20, w ∈ wsX2_fewestUnlikeBits := by decide +kernel
set_option maxHeartbeats 4000000 in
set_option maxRecDepth 100000 in
theorem c_X2_fewestUnlikeBits (l : Launch) (D : va_G) (cA : Nat → ClassId) (H : Heap) (a : Nat → Nat) (u : SV) (hP0 : va_P D vwCl (wSt cA a u) H) : RO l yX2_fewestUnlikeBits wsX2_fewestUnlikeBits ({ frames := 1, cells := 0, slots := 0, locals := 20 } : Room) D cA [.ref (a 0)] H (some (.int (fubT u.1 16))) := by
  refine Met.ofW (cc := cX2_fewestUnlikeBits) (maxL := 4) (ret := (some .int)) (by decide) rfl ?_
  intro p e s m args below meth c s₁ B hml hv
  obtain ⟨rfl, hH, hKN⟩ := hv
  have hK := hKN.1
  have hx := B.exec
  have hb := B.bytes
  have hr := B.returns
  have hts := atoms_spec (ws := wsX2_fewestUnlikeBits) B.pre
  have hown : s.vm.findClass RX2 = some m.cls := findClass_of_methodNamed B.named
  have hlocks := B.notSynchronized
  subst hH
  have hH : s.heap = s.heap := rfl
  have hP := hP0
  have hl := lv_entry ([.ref (a 0)] : List Value) (n := 4) (Nat.le_of_ble_eq_true rfl)
  rw [lg_entry_eq]
  generalize (lg_sl ([.ref (a 0)] : List Value) ++ List.replicate (4 - (lg_sl ([.ref (a 0)] : List Value)).length) Slot.unset).toArray = ls at hl ⊢
  have hl : lv_has ls 4 [(0, .ref (a 0))] := hl
  refine lv_bipush (v := 8) hx hb dX2_fewestUnlikeBits_0 (by decide) ?_
  refine lv_istore_n (lv' := [(1, .int 8), (0, .ref (a 0))]) hx hb dX2_fewestUnlikeBits_2 rfl hl (by decide) rfl (fun ls hl => ?_)
  refine lv_iconst (v := 0) hx hb dX2_fewestUnlikeBits_3 (by decide) ?_
  refine lv_istore_n (lv' := [(2, .int 0), (1, .int 8), (0, .ref (a 0))]) hx hb dX2_fewestUnlikeBits_4 rfl hl (by decide) rfl (fun ls hl => ?_)
  have loop5 : ∀ (n5 k5 : Nat), k5 + n5 = 16 → ∀ (ls : Array Slot), lv_has ls 4 [(2, .int (nI k5)), (1, .int (fubT u.1 k5)), (0, .ref (a 0))] → W p l e ({ frames := 1, cells := 0, slots := 0, locals := 20 } : Room) s m ([.ref (a 0)] : List Value).toArray below meth c s.heap [] 0 0 (MQ below (roQ s.heap (some (.int (fubT u.1 16)))) ([.ref (a 0)] : List Value).toArray s 0 0 noA) (F0 m 5 ls []) := by
    intro n5
    induction n5 with
    | zero =>
      intro k5 hk5 ls hl
      obtain rfl : 16 = k5 := by omega
      refine lv_iload_n hx hb dX2_fewestUnlikeBits_5 rfl (lv_at hl 0 rfl) ?_
      refine lv_bipush (v := 16) hx hb dX2_fewestUnlikeBits_6 (by decide) ?_
      refine lv_icmp_ge (tgt := 51) hx hb dX2_fewestUnlikeBits_8 (by decide) (fun _ => ?_) (fun h => absurd (by decide) h)
      refine lv_iload_n hx hb dX2_fewestUnlikeBits_51 rfl (lv_at hl 1 rfl) ?_
      exact ro_iret hx hb hr hlocks hH dX2_fewestUnlikeBits_52 rfl
    | succ n5 ih5 =>
      intro k5 hk5 ls hl
      have hlt5 : k5 < 16 := by omega
      refine lv_iload_n hx hb dX2_fewestUnlikeBits_5 rfl (lv_at hl 0 rfl) ?_
      refine lv_bipush (v := 16) hx hb dX2_fewestUnlikeBits_6 (by decide) ?_
      refine lv_icmp_ge (tgt := 51) hx hb dX2_fewestUnlikeBits_8 (by decide) (fun h => absurd h (nI_ge hlt5 (by first | decide | omega))) (fun _ => ?_)
      refine lv_iconst (v := 0) hx hb dX2_fewestUnlikeBits_11 (by decide) ?_
      refine lv_istore_n (lv' := [(3, .int 0), (2, .int (nI k5)), (1, .int (fubT u.1 k5)), (0, .ref (a 0))]) hx hb dX2_fewestUnlikeBits_12 rfl hl (by decide) rfl (fun ls hl => ?_)
      have loop13 : ∀ (n13 k13 : Nat), k13 + n13 = k5 → ∀ (ls : Array Slot), lv_has ls 4 [(3, .int (nI k13)), (2, .int (nI k5)), (1, .int (fubI u.1 k5 (fubT u.1 k5) k13)), (0, .ref (a 0))] → W p l e ({ frames := 1, cells := 0, slots := 0, locals := 20 } : Room) s m ([.ref (a 0)] : List Value).toArray below meth c s.heap [] 0 0 (MQ below (roQ s.heap (some (.int (fubT u.1 16)))) ([.ref (a 0)] : List Value).toArray s 0 0 noA) (F0 m 13 ls []) := by
        intro n13
        induction n13 with
        | zero =>
          intro k13 hk13 ls hl
          obtain rfl : k5 = k13 := by omega
          refine lv_iload_n hx hb dX2_fewestUnlikeBits_13 rfl (lv_at hl 0 rfl) ?_
          refine lv_iload_n hx hb dX2_fewestUnlikeBits_14 rfl (lv_at hl 1 rfl) ?_
          refine lv_icmp_ge (tgt := 45) hx hb dX2_fewestUnlikeBits_15 (by decide) (fun _ => ?_) (fun h => absurd (nI_le (Nat.le_refl _) (by first | decide | omega)) h)
          refine lv_iinc (v := (nI (k5 + 1))) (lv' := [(2, .int (nI (k5 + 1))), (3, .int (nI k5)), (1, .int (fubI u.1 k5 (fubT u.1 k5) k5)), (0, .ref (a 0))]) hx hb dX2_fewestUnlikeBits_45 hl (k := 1) rfl (nI_1 _) (by decide) rfl (fun ls hl => ?_)
          refine lv_goto (tgt := 5) hx hb dX2_fewestUnlikeBits_48 (by decide) ?_
          have e_1 : (fubT u.1 (k5 + 1)) = (fubI u.1 k5 (fubT u.1 k5) k5) := rfl
          exact ih5 (k5 + 1) (by omega) ls (by rw [e_1]; exact (lv_sub hl [0, 2, 3] rfl))
        | succ n13 ih13 =>
          intro k13 hk13 ls hl
          have hlt13 : k13 < k5 := by omega
          refine lv_iload_n hx hb dX2_fewestUnlikeBits_13 rfl (lv_at hl 0 rfl) ?_
          refine lv_iload_n hx hb dX2_fewestUnlikeBits_14 rfl (lv_at hl 1 rfl) ?_
          refine lv_icmp_ge (tgt := 45) hx hb dX2_fewestUnlikeBits_15 (by decide) (fun h => absurd h (nI_ge hlt13 (by first | decide | omega))) (fun _ => ?_)
          refine lv_iload_n hx hb dX2_fewestUnlikeBits_18 rfl (lv_at hl 2 rfl) ?_
          refine lv_aload_n hx hb dX2_fewestUnlikeBits_19 rfl (lv_at hl 3 rfl) ?_
          refine va_get (D := D) (ci := 2) (v := .ref (a 1)) (C := RX2) (T := TX2) (N := 8) hx hb hts iX2_fewestUnlikeBits_X2 hown hK hP 0 rfl rfl 0 (by decide) (hts _ mX2_fewestUnlikeBits_f9) (fun _ h9 => h9) rfl dX2_fewestUnlikeBits_20 ?_
          refine lv_iload_n hx hb dX2_fewestUnlikeBits_23 rfl (lv_at hl 1 rfl) ?_
          refine lz_iald (k := k5) (f := u.1) hx hb hK hP 1 0 rfl rfl ⟨by omega, by decide⟩ dX2_fewestUnlikeBits_24 ?_
          refine lv_aload_n hx hb dX2_fewestUnlikeBits_25 rfl (lv_at hl 3 rfl) ?_
          refine va_get (D := D) (ci := 2) (v := .ref (a 1)) (C := RX2) (T := TX2) (N := 8) hx hb hts iX2_fewestUnlikeBits_X2 hown hK hP 0 rfl rfl 0 (by decide) (hts _ mX2_fewestUnlikeBits_f9) (fun _ h9 => h9) rfl dX2_fewestUnlikeBits_26 ?_
          refine lv_iload_n hx hb dX2_fewestUnlikeBits_29 rfl (lv_at hl 0 rfl) ?_
          refine lz_iald (k := k13) (f := u.1) hx hb hK hP 1 0 rfl rfl ⟨by omega, by decide⟩ dX2_fewestUnlikeBits_30 ?_
          refine lv_ixor hx hb dX2_fewestUnlikeBits_31 ?_
          refine ro_S (As := [.int ((u.1 k5) ^^^ (u.1 k13))]) (rest := [.int (fubI u.1 k5 (fubT u.1 k5) k13)]) ⟨hx, hb, hml, hown, hts⟩ (c_J6_bitCount_0f7a4 l D cA _ ((u.1 k5) ^^^ (u.1 k13))) (cwS2 1 hts gX2_fewestUnlikeBits_J6_bitCount_0f7a4 rfl rfl rfl (by decide +kernel) ⟨Nat.le_of_ble_eq_true rfl, Nat.le_of_ble_eq_true rfl⟩) hKN rfl hl.1 rfl (lv_room (Nat.le_of_ble_eq_true rfl)) dX2_fewestUnlikeBits_32 ⟨Nat.zero_le _, Nat.zero_le _⟩ ?_
          refine va_mmin hx hb (hml.trans hl.1.symm) hown (hts _ mX2_fewestUnlikeBits_p74) (hts _ mX2_fewestUnlikeBits_st_min) (hts _ mX2_fewestUnlikeBits_iniMath) (hts _ mX2_fewestUnlikeBits_co_min) (by decide) (by decide) (Nat.zero_le _) (Nat.zero_le _) dX2_fewestUnlikeBits_35 ?_
          refine lz_top (v := (minF (fubI u.1 k5 (fubT u.1 k5) k13) (bcF ((u.1 k5) ^^^ (u.1 k13))))) rfl ?_
          refine lv_istore_n (lv' := [(1, .int (minF (fubI u.1 k5 (fubT u.1 k5) k13) (bcF ((u.1 k5) ^^^ (u.1 k13))))), (3, .int (nI k13)), (2, .int (nI k5)), (0, .ref (a 0))]) hx hb dX2_fewestUnlikeBits_38 rfl hl (by decide) rfl (fun ls hl => ?_)
          refine lv_iinc (v := (nI (k13 + 1))) (lv' := [(3, .int (nI (k13 + 1))), (1, .int (minF (fubI u.1 k5 (fubT u.1 k5) k13) (bcF ((u.1 k5) ^^^ (u.1 k13))))), (2, .int (nI k5)), (0, .ref (a 0))]) hx hb dX2_fewestUnlikeBits_39 hl (k := 1) rfl (nI_1 _) (by decide) rfl (fun ls hl => ?_)
          refine lv_goto (tgt := 13) hx hb dX2_fewestUnlikeBits_42 (by decide) ?_
          have e_2 : (fubI u.1 k5 (fubT u.1 k5) (k13 + 1)) = (minF (fubI u.1 k5 (fubT u.1 k5) k13) (bcF ((u.1 k5) ^^^ (u.1 k13)))) := rfl
          exact ih13 (k13 + 1) (by omega) ls (by rw [e_2]; exact (lv_sub hl [0, 2, 1, 3] rfl))
      exact loop13 k5 0 (by omega) ls (lv_sub hl [0, 1, 2, 3] rfl)
  exact loop5 16 0 (by omega) ls (lv_sub hl [0, 1, 2] rfl)
end
